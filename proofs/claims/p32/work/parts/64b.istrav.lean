set_option maxHeartbeats 4000000 in
set_option maxRecDepth 100000 in
theorem isT_c4 {l : Launch} (hl0 : l.stackTraces = false) (G : GG) (I J : GI) {S : Nat → Int} {D9 : Nat → Nat → Int} {c9 : Nat} (hCI : CI I S D9 c9) (hR : rowL I = S) (t : Nat) (htt : (t : Int) < S 5) {p : Program} {e : Env} {s : State} {m : MethodId} {args : Array Value} {below : List Frame} {meth : Method} {c : Code} (C : gC G p l s m args meth c cL_isTraverse 23 RL (some .boolean) "isTraverse") (ht : ∀ x ∈ c.exceptionTable.toList, False) (hgi : gIn I) (u : Int) (k z9 a1 a2 : Nat) (hk : k = (S (103 + 28 * t)).toNat) (hu : u = smF k (sLe S t)) (hub : 0 ≤ smF k (sLe S t) ∧ smF k (sLe S t) ≤ 200000 * (k : Int)) (ha : a1 ≤ 72 ∧ a2 ≤ 432) (hT : sTT S t = 8) (hcl : 0 ≤ S (104 + 28 * t))  : GW G p l e ({ frames := 9, cells := 89, slots := 534, locals := 171 } : Room) s m args below meth c 23 z9 N0 SH RR I J a1 a2 (vx_MQ below (GQ G N0 SH RR (memQ (some (vI 1)) I J)) (GX G N0 SH RR gNo) args s 89 534 (ge G)) 92 [some (vR 0), some (vR 231), some (vR 232), some (vR 233), some (vR 234), some (vR 235), some (vR 236), some (vR 237), some (vR 238), some (vI (t : Int)), some (vI (-2000000000)), some (vI u), some (vI 1), some (vI (k : Int)), none, none, none, none, none, none, none, none, none] [vI 8] := by
  have ho := hCI.1.1.2.1
  have h0 := ho.1
  have h3 := ho.2.1
  have ht9 := okT ho htt
  have hf9 := ho.2.2.2.1 (S (102 + 28 * t)).toNat (by omega)
  have hwh : whl S t := ⟨hcl, by omega⟩
  refine gw_istore C (lo1 := [some (vR 0), some (vR 231), some (vR 232), some (vR 233), some (vR 234), some (vR 235), some (vR 236), some (vR 237), some (vR 238), some (vI (t : Int)), some (vI (-2000000000)), some (vI u), some (vI 1), some (vI 8), none, none, none, none, none, none, none, none, none]) dL_isTraverse_92 (by decide) rfl ?_
  refine gw_aload C dL_isTraverse_94 rfl ?_
  refine gw_iconst C dL_isTraverse_96 ?_
  refine gw_iload C dL_isTraverse_97 rfl ?_
  refine gw_imul C dL_isTraverse_99 ?_
  refine gw_iconst C dL_isTraverse_100 ?_
  refine gw_iadd C dL_isTraverse_101 ?_
  refine gw_iald C ((4 * t) + 2) dL_isTraverse_102 xs_236 xn_236 (by omega) (by omega) (by decide) (fun hI_102_5 => ?_)
  rw [show (I 236 ((4 * t) + 2)) = (S (104 + 28 * t)) from by have e9 := lr_h2 (I := I) (t := t) (by omega); rw [hR] at e9; exact e9] at hI_102_5 ⊢
  refine gw_if_lt C (tgt := 110) dL_isTraverse_103 (by decide) hI_102_5 (fun h => absurd h (by omega)) (fun _ => ?_)
  refine gw_iconst C dL_isTraverse_106 ?_
  refine gw_goto C (tgt := 111) dL_isTraverse_107 (by decide) ?_
  refine gw_istore C (lo1 := [some (vR 0), some (vR 231), some (vR 232), some (vR 233), some (vR 234), some (vR 235), some (vR 236), some (vR 237), some (vR 238), some (vI (t : Int)), some (vI (-2000000000)), some (vI u), some (vI 1), some (vI 8), some (vI 1), none, none, none, none, none, none, none, none]) dL_isTraverse_111 (by decide) rfl ?_
  refine gw_aload_n C 1 dL_isTraverse_113 rfl rfl ?_
  refine gw_aload_n C 3 dL_isTraverse_114 rfl rfl ?_
  refine gw_aload C dL_isTraverse_115 rfl ?_
  refine gw_aload C dL_isTraverse_117 rfl ?_
  refine gw_aload C dL_isTraverse_119 rfl ?_
  refine gw_aload C dL_isTraverse_121 rfl ?_
  refine gw_iload C dL_isTraverse_123 rfl ?_
  refine gw_callSb C (as := [vR 231, vR 233, vR 234, vR 235, vR 236, vR 237, vI (t : Int)]) (st := []) (c_L_whole hl0 G I J hR ho t (by omega)) dL_isTraverse_125 kL_212 qL_whole hdL_whole ⟨Nat.le_of_ble_eq_true rfl, Nat.le_of_ble_eq_true rfl⟩ ⟨(show _ ≤ 89 from by omega), (show _ ≤ 534 from by omega)⟩ (Nat.le_of_ble_eq_true rfl) rfl (fun h_125_5 z_125_5 => ?_) (fun h_125_5 z_125_5 => ?_)
  · skip
    refine gw_istore C (lo1 := [some (vR 0), some (vR 231), some (vR 232), some (vR 233), some (vR 234), some (vR 235), some (vR 236), some (vR 237), some (vR 238), some (vI (t : Int)), some (vI (-2000000000)), some (vI u), some (vI 1), some (vI 8), some (vI 1), some (vI 1), none, none, none, none, none, none, none]) dL_isTraverse_128 (by decide) rfl ?_
    refine gw_iload C dL_isTraverse_130 rfl ?_
    refine gw_bipush C dL_isTraverse_132 rfl ?_
    refine gw_icmp_ne C (tgt := 147) dL_isTraverse_134 (by decide) ⟨by decide, by decide⟩ ⟨by decide, by decide⟩ (fun _ => ?_) (fun h => absurd h (by decide))
    refine gw_aload C dL_isTraverse_147 rfl ?_
    refine gw_iconst C dL_isTraverse_149 ?_
    refine gw_iload C dL_isTraverse_150 rfl ?_
    refine gw_imul C dL_isTraverse_152 ?_
    refine gw_iconst C dL_isTraverse_153 ?_
    refine gw_iadd C dL_isTraverse_154 ?_
    refine gw_iald C ((4 * t) + 2) dL_isTraverse_155 xs_236 xn_236 (by omega) (by omega) (by decide) (fun hI_155_3 => ?_)
    rw [show (I 236 ((4 * t) + 2)) = (((S (104 + 28 * t)).toNat : Nat) : Int) from by have e9 := lr_h2 (I := I) (t := t) (by omega); rw [hR] at e9; omega] at hI_155_3 ⊢
    refine gw_istore C (lo1 := [some (vR 0), some (vR 231), some (vR 232), some (vR 233), some (vR 234), some (vR 235), some (vR 236), some (vR 237), some (vR 238), some (vI (t : Int)), some (vI (-2000000000)), some (vI u), some (vI 1), some (vI 8), some (vI 1), some (vI 1), some (vI (((S (104 + 28 * t)).toNat : Nat) : Int)), none, none, none, none, none, none]) dL_isTraverse_156 (by decide) rfl ?_
    refine gw_iload C dL_isTraverse_158 rfl ?_
    refine gw_bipush C dL_isTraverse_160 rfl ?_
    refine gw_icmp_eq C (tgt := 172) dL_isTraverse_162 (by decide) ⟨by decide, by decide⟩ ⟨by decide, by decide⟩ (fun h => absurd h (by decide)) (fun _ => ?_)
    refine gw_iload C dL_isTraverse_165 rfl ?_
    refine gw_bipush C dL_isTraverse_167 rfl ?_
    refine gw_icmp_ne C (tgt := 186) dL_isTraverse_169 (by decide) ⟨by decide, by decide⟩ ⟨by decide, by decide⟩ (fun _ => ?_) (fun h => absurd h (by decide))
    refine gw_iload C dL_isTraverse_186 rfl ?_
    refine gw_istore C (lo1 := [some (vR 0), some (vR 231), some (vR 232), some (vR 233), some (vR 234), some (vR 235), some (vR 236), some (vR 237), some (vR 238), some (vI (t : Int)), some (vI (-2000000000)), some (vI u), some (vI 1), some (vI 8), some (vI 1), some (vI 1), some (vI (((S (104 + 28 * t)).toNat : Nat) : Int)), some (vI (-2000000000)), none, none, none, none, none]) dL_isTraverse_188 (by decide) rfl ?_
    refine gw_iload C dL_isTraverse_190 rfl ?_
    refine gw_iconst C dL_isTraverse_192 ?_
    refine gw_icmp_ne C (tgt := 210) dL_isTraverse_193 (by decide) ⟨by decide, by decide⟩ ⟨by decide, by decide⟩ (fun _ => ?_) (fun h => absurd h (by decide))
    refine gw_iload C dL_isTraverse_210 rfl ?_
    refine gw_istore C (lo1 := [some (vR 0), some (vR 231), some (vR 232), some (vR 233), some (vR 234), some (vR 235), some (vR 236), some (vR 237), some (vR 238), some (vI (t : Int)), some (vI (-2000000000)), some (vI u), some (vI 1), some (vI 8), some (vI 1), some (vI 1), some (vI (((S (104 + 28 * t)).toNat : Nat) : Int)), some (vI (-2000000000)), some (vI (-2000000000)), none, none, none, none]) dL_isTraverse_212 (by decide) rfl ?_
    refine gw_iload C dL_isTraverse_214 rfl ?_
    refine gw_if_eq C (tgt := 397) dL_isTraverse_216 (by decide) ⟨by decide, by decide⟩ (fun h => absurd h (by decide)) (fun _ => ?_)
    refine gw_aload_n C 0 dL_isTraverse_219 rfl rfl ?_
    refine gw_iload C dL_isTraverse_220 rfl ?_
    refine gw_aload C dL_isTraverse_222 rfl ?_
    refine gw_iconst C dL_isTraverse_224 ?_
    refine gw_iload C dL_isTraverse_225 rfl ?_
    refine gw_imul C dL_isTraverse_227 ?_
    refine gw_iconst C dL_isTraverse_228 ?_
    refine gw_iadd C dL_isTraverse_229 ?_
    refine gw_iald C ((4 * t) + 1) dL_isTraverse_230 xs_236 xn_236 (by omega) (by omega) (by decide) (fun hI_230_8 => ?_)
    rw [show (I 236 ((4 * t) + 1)) = (((S (103 + 28 * t)).toNat : Nat) : Int) from by have e9 := lr_h1 (I := I) (t := t) (by omega); rw [hR] at e9; omega] at hI_230_8 ⊢
    refine gw_iconst C dL_isTraverse_231 ?_
    refine gw_callSHm C (as := [vR 0, vI (t : Int), vI (((S (103 + 28 * t)).toNat : Nat) : Int), vI 0]) (st := []) (c_L_legOf hl0 G I J hCI (t : Int) (((S (103 + 28 * t)).toNat : Nat) : Int) 0 (by first | omega | assumption | exact hgi _ _) hI_230_8 ⟨by decide, by decide⟩) dL_isTraverse_232 kL_205 qL_legOf hdL_legOf ⟨Nat.le_of_ble_eq_true rfl, Nat.le_of_ble_eq_true rfl⟩ ⟨(show _ ≤ 89 from by omega), (show _ ≤ 534 from by omega)⟩ (Nat.le_of_ble_eq_true rfl) rfl (fun z_232_8 => ?_)
    rw [show cdV (kLeg S (t : Int) (((S (103 + 28 * t)).toNat : Nat) : Int) 0) (rLeg S (t : Int).toNat (((S (103 + 28 * t)).toNat : Nat) : Int).toNat 0) (-2000001) (-2000002) 0 = (-2000001) from w_lg1 (by rw [show ((t : Nat) : Int).toNat = t from rfl]; omega)]
    refine gw_ldc C (x := (-2000001)) dL_isTraverse_235 kL_29 (by decide) ?_
    refine gw_icmp_ne C (tgt := 397) dL_isTraverse_237 (by decide) ⟨by decide, by decide⟩ ⟨by decide, by decide⟩ (fun h => absurd h (by decide)) (fun _ => ?_)
    refine gw_aload_n C 0 dL_isTraverse_240 rfl rfl ?_
    refine gw_iload C dL_isTraverse_241 rfl ?_
    refine gw_iconst C dL_isTraverse_243 ?_
    refine gw_callSHm C (as := [vR 0, vI (t : Int), vI 0]) (st := []) (c_L_traverseOf hl0 G I J hCI (t : Int) 0 (by first | omega | assumption | exact hgi _ _) ⟨by decide, by decide⟩) dL_isTraverse_244 kL_216 qL_traverseOf hdL_traverseOf ⟨Nat.le_of_ble_eq_true rfl, Nat.le_of_ble_eq_true rfl⟩ ⟨(show _ ≤ 89 from by omega), (show _ ≤ 534 from by omega)⟩ (Nat.le_of_ble_eq_true rfl) rfl (fun z_244_8 => ?_)
    rw [show cdV (kTrav S (t : Int) 0) (rTrav S (t : Int).toNat 0) (-2000001) (-2000002) 0 = (((S (102 + 28 * t)).toNat : Nat) : Int) from (w_tr htt (by decide)).trans (by show S (102 + 28 * t) = _; omega)]
    refine gw_aload C dL_isTraverse_247 rfl ?_
    refine gw_iconst C dL_isTraverse_249 ?_
    refine gw_iload C dL_isTraverse_250 rfl ?_
    refine gw_imul C dL_isTraverse_252 ?_
    refine gw_iald C (4 * t) dL_isTraverse_253 xs_236 xn_236 (by omega) (by omega) (by decide) (fun hI_253_8 => ?_)
    rw [show (I 236 (4 * t)) = (((S (102 + 28 * t)).toNat : Nat) : Int) from by have e9 := lr_h0 (I := I) (t := t) (by omega); rw [hR] at e9; omega] at hI_253_8 ⊢
    refine gw_icmp_ne C (tgt := 397) dL_isTraverse_254 (by decide) (by first | omega | assumption | exact hgi _ _) hI_253_8 (fun h => absurd h (by exact fun q => q rfl)) (fun _ => ?_)
    refine gw_aload_n C 0 dL_isTraverse_257 rfl rfl ?_
    refine gw_iload C dL_isTraverse_258 rfl ?_
    refine gw_iconst C dL_isTraverse_260 ?_
    refine gw_callSHm C (as := [vR 0, vI (t : Int), vI 1]) (st := []) (c_L_traverseOf hl0 G I J hCI (t : Int) 1 (by first | omega | assumption | exact hgi _ _) ⟨by decide, by decide⟩) dL_isTraverse_261 kL_216 qL_traverseOf hdL_traverseOf ⟨Nat.le_of_ble_eq_true rfl, Nat.le_of_ble_eq_true rfl⟩ ⟨(show _ ≤ 89 from by omega), (show _ ≤ 534 from by omega)⟩ (Nat.le_of_ble_eq_true rfl) rfl (fun z_261_8 => ?_)
    rw [show cdV (kTrav S (t : Int) 1) (rTrav S (t : Int).toNat 1) (-2000001) (-2000002) 0 = (((S (103 + 28 * t)).toNat : Nat) : Int) from (w_tr htt (by decide)).trans (by show S (103 + 28 * t) = _; omega)]
    refine gw_aload C dL_isTraverse_264 rfl ?_
    refine gw_iconst C dL_isTraverse_266 ?_
    refine gw_iload C dL_isTraverse_267 rfl ?_
    refine gw_imul C dL_isTraverse_269 ?_
    refine gw_iconst C dL_isTraverse_270 ?_
    refine gw_iadd C dL_isTraverse_271 ?_
    refine gw_iald C ((4 * t) + 1) dL_isTraverse_272 xs_236 xn_236 (by omega) (by omega) (by decide) (fun hI_272_8 => ?_)
    rw [show (I 236 ((4 * t) + 1)) = (((S (103 + 28 * t)).toNat : Nat) : Int) from by have e9 := lr_h1 (I := I) (t := t) (by omega); rw [hR] at e9; omega] at hI_272_8 ⊢
    refine gw_icmp_ne C (tgt := 397) dL_isTraverse_273 (by decide) (by first | omega | assumption | exact hgi _ _) hI_272_8 (fun h => absurd h (by exact fun q => q rfl)) (fun _ => ?_)
    refine gw_aload_n C 0 dL_isTraverse_276 rfl rfl ?_
    refine gw_iload C dL_isTraverse_277 rfl ?_
    refine gw_iconst C dL_isTraverse_279 ?_
    refine gw_callSHm C (as := [vR 0, vI (t : Int), vI 2]) (st := []) (c_L_traverseOf hl0 G I J hCI (t : Int) 2 (by first | omega | assumption | exact hgi _ _) ⟨by decide, by decide⟩) dL_isTraverse_280 kL_216 qL_traverseOf hdL_traverseOf ⟨Nat.le_of_ble_eq_true rfl, Nat.le_of_ble_eq_true rfl⟩ ⟨(show _ ≤ 89 from by omega), (show _ ≤ 534 from by omega)⟩ (Nat.le_of_ble_eq_true rfl) rfl (fun z_280_8 => ?_)
    rw [show cdV (kTrav S (t : Int) 2) (rTrav S (t : Int).toNat 2) (-2000001) (-2000002) 0 = (S (104 + 28 * t)) from (w_tr htt (by decide)).trans (rTr_2.1 hcl).1]
    refine gw_iload C dL_isTraverse_283 rfl ?_
    refine gw_if_eq C (tgt := 300) dL_isTraverse_285 (by decide) ⟨by decide, by decide⟩ (fun h => absurd h (by decide)) (fun _ => ?_)
    refine gw_aload C dL_isTraverse_288 rfl ?_
    refine gw_iconst C dL_isTraverse_290 ?_
    refine gw_iload C dL_isTraverse_291 rfl ?_
    refine gw_imul C dL_isTraverse_293 ?_
    refine gw_iconst C dL_isTraverse_294 ?_
    refine gw_iadd C dL_isTraverse_295 ?_
    refine gw_iald C ((4 * t) + 2) dL_isTraverse_296 xs_236 xn_236 (by omega) (by omega) (by decide) (fun hI_296_5 => ?_)
    rw [show (I 236 ((4 * t) + 2)) = (S (104 + 28 * t)) from by have e9 := lr_h2 (I := I) (t := t) (by omega); rw [hR] at e9; exact e9] at hI_296_5 ⊢
    refine gw_goto C (tgt := 302) dL_isTraverse_297 (by decide) ?_
    refine gw_icmp_ne C (tgt := 397) dL_isTraverse_302 (by decide) (by first | omega | assumption | exact hgi _ _) hI_296_5 (fun h => absurd h (by exact fun q => q rfl)) (fun _ => ?_)
    refine gw_aload_n C 0 dL_isTraverse_305 rfl rfl ?_
    refine gw_iload C dL_isTraverse_306 rfl ?_
    refine gw_iconst C dL_isTraverse_308 ?_
    refine gw_callSHm C (as := [vR 0, vI (t : Int), vI 3]) (st := []) (c_L_traverseOf hl0 G I J hCI (t : Int) 3 (by first | omega | assumption | exact hgi _ _) ⟨by decide, by decide⟩) dL_isTraverse_309 kL_216 qL_traverseOf hdL_traverseOf ⟨Nat.le_of_ble_eq_true rfl, Nat.le_of_ble_eq_true rfl⟩ ⟨(show _ ≤ 89 from by omega), (show _ ≤ 534 from by omega)⟩ (Nat.le_of_ble_eq_true rfl) rfl (fun z_309_8 => ?_)
    rw [show cdV (kTrav S (t : Int) 3) (rTrav S (t : Int).toNat 3) (-2000001) (-2000002) 0 = (S (105 + 28 * t)) from (w_tr htt (by decide)).trans (rTr_2.1 hcl).2]
    refine gw_iload C dL_isTraverse_312 rfl ?_
    refine gw_if_eq C (tgt := 329) dL_isTraverse_314 (by decide) ⟨by decide, by decide⟩ (fun h => absurd h (by decide)) (fun _ => ?_)
    refine gw_aload C dL_isTraverse_317 rfl ?_
    refine gw_iconst C dL_isTraverse_319 ?_
    refine gw_iload C dL_isTraverse_320 rfl ?_
    refine gw_imul C dL_isTraverse_322 ?_
    refine gw_iconst C dL_isTraverse_323 ?_
    refine gw_iadd C dL_isTraverse_324 ?_
    refine gw_iald C ((4 * t) + 3) dL_isTraverse_325 xs_236 xn_236 (by omega) (by omega) (by decide) (fun hI_325_5 => ?_)
    rw [show (I 236 ((4 * t) + 3)) = (S (105 + 28 * t)) from by have e9 := lr_h3 (I := I) (t := t) (by omega); rw [hR] at e9; exact e9] at hI_325_5 ⊢
    refine gw_goto C (tgt := 331) dL_isTraverse_326 (by decide) ?_
    refine gw_icmp_ne C (tgt := 397) dL_isTraverse_331 (by decide) (by first | omega | assumption | exact hgi _ _) hI_325_5 (fun h => absurd h (by exact fun q => q rfl)) (fun _ => ?_)
    refine gw_aload_n C 0 dL_isTraverse_334 rfl rfl ?_
    refine gw_iload C dL_isTraverse_335 rfl ?_
    refine gw_iconst C dL_isTraverse_337 ?_
    refine gw_callSHm C (as := [vR 0, vI (t : Int), vI 4]) (st := []) (c_L_traverseOf hl0 G I J hCI (t : Int) 4 (by first | omega | assumption | exact hgi _ _) ⟨by decide, by decide⟩) dL_isTraverse_338 kL_216 qL_traverseOf hdL_traverseOf ⟨Nat.le_of_ble_eq_true rfl, Nat.le_of_ble_eq_true rfl⟩ ⟨(show _ ≤ 89 from by omega), (show _ ≤ 534 from by omega)⟩ (Nat.le_of_ble_eq_true rfl) rfl (fun z_338_8 => ?_)
    rw [show cdV (kTrav S (t : Int) 4) (rTrav S (t : Int).toNat 4) (-2000001) (-2000002) 0 = 8 from (w_tr htt (by decide)).trans hT]
    refine gw_iload C dL_isTraverse_341 rfl ?_
    refine gw_icmp_ne C (tgt := 397) dL_isTraverse_343 (by decide) ⟨by decide, by decide⟩ ⟨by decide, by decide⟩ (fun h => absurd h (by decide)) (fun _ => ?_)
    refine gw_aload_n C 0 dL_isTraverse_346 rfl rfl ?_
    refine gw_iload C dL_isTraverse_347 rfl ?_
    refine gw_iconst C dL_isTraverse_349 ?_
    refine gw_callSHm C (as := [vR 0, vI (t : Int), vI 5]) (st := []) (c_L_traverseOf hl0 G I J hCI (t : Int) 5 (by first | omega | assumption | exact hgi _ _) ⟨by decide, by decide⟩) dL_isTraverse_350 kL_216 qL_traverseOf hdL_traverseOf ⟨Nat.le_of_ble_eq_true rfl, Nat.le_of_ble_eq_true rfl⟩ ⟨(show _ ≤ 89 from by omega), (show _ ≤ 534 from by omega)⟩ (Nat.le_of_ble_eq_true rfl) rfl (fun z_350_8 => ?_)
    rw [show cdV (kTrav S (t : Int) 5) (rTrav S (t : Int).toNat 5) (-2000001) (-2000002) 0 = (sG S t) from (w_tr htt (by decide)).trans (rTr_w hwh).1]
    refine gw_iload C dL_isTraverse_353 rfl ?_
    refine gw_if_eq C (tgt := 375) dL_isTraverse_355 (by decide) ⟨by decide, by decide⟩ (fun h => absurd h (by decide)) (fun _ => ?_)
    refine gw_aload_n C 3 dL_isTraverse_358 rfl rfl ?_
    refine gw_aload C dL_isTraverse_359 rfl ?_
    refine gw_aload C dL_isTraverse_361 rfl ?_
    refine gw_aload C dL_isTraverse_363 rfl ?_
    refine gw_aload C dL_isTraverse_365 rfl ?_
    refine gw_iload C dL_isTraverse_367 rfl ?_
    refine gw_callSm C (as := [vR 233, vR 234, vR 235, vR 236, vR 237, vI (t : Int)]) (st := [vI (sG S t)]) (c_L_gap hl0 G I J hR ho t (by omega) (by omega)) dL_isTraverse_369 kL_108 qL_gap hdL_gap ⟨Nat.le_of_ble_eq_true rfl, Nat.le_of_ble_eq_true rfl⟩ ⟨(show _ ≤ 89 from by omega), (show _ ≤ 534 from by omega)⟩ (Nat.le_of_ble_eq_true rfl) rfl (fun z_369 => ?_)
    have hr_369 := sG_b S t
    refine gw_goto C (tgt := 377) dL_isTraverse_372 (by decide) ?_
    refine gw_icmp_ne C (tgt := 397) dL_isTraverse_377 (by decide) (by first | omega | assumption | exact hgi _ _) (by first | omega | assumption | exact hgi _ _) (fun h => absurd h (by exact fun q => q rfl)) (fun _ => ?_)
    refine gw_aload_n C 0 dL_isTraverse_380 rfl rfl ?_
    refine gw_iload C dL_isTraverse_381 rfl ?_
    refine gw_bipush C dL_isTraverse_383 rfl ?_
    refine gw_callSHm C (as := [vR 0, vI (t : Int), vI 6]) (st := []) (c_L_traverseOf hl0 G I J hCI (t : Int) 6 (by first | omega | assumption | exact hgi _ _) ⟨by decide, by decide⟩) dL_isTraverse_385 kL_216 qL_traverseOf hdL_traverseOf ⟨Nat.le_of_ble_eq_true rfl, Nat.le_of_ble_eq_true rfl⟩ ⟨(show _ ≤ 89 from by omega), (show _ ≤ 534 from by omega)⟩ (Nat.le_of_ble_eq_true rfl) rfl (fun z_385_8 => ?_)
    rw [show cdV (kTrav S (t : Int) 6) (rTrav S (t : Int).toNat 6) (-2000001) (-2000002) 0 = u from (w_tr htt (by decide)).trans (by show smF (S (103 + 28 * t)).toNat (sLe S t) = u; rw [hu, show (S (103 + 28 * t)).toNat = k by omega])]
    refine gw_iload C dL_isTraverse_388 rfl ?_
    refine gw_icmp_ne C (tgt := 397) dL_isTraverse_390 (by decide) (by first | omega | assumption | exact hgi _ _) (by first | omega | assumption | exact hgi _ _) (fun h => absurd h (by exact fun q => q rfl)) (fun _ => ?_)
    refine gw_iconst C dL_isTraverse_393 ?_
    refine gw_goto C (tgt := 398) dL_isTraverse_394 (by decide) ?_
    refine gw_istore C (lo1 := [some (vR 0), some (vR 231), some (vR 232), some (vR 233), some (vR 234), some (vR 235), some (vR 236), some (vR 237), some (vR 238), some (vI (t : Int)), some (vI (-2000000000)), some (vI u), some (vI 1), some (vI 8), some (vI 1), some (vI 1), some (vI (((S (104 + 28 * t)).toNat : Nat) : Int)), some (vI (-2000000000)), some (vI (-2000000000)), none, none, none, none]) dL_isTraverse_398 (by decide) rfl ?_
    refine gw_iload C dL_isTraverse_400 rfl ?_
    refine gw_if_eq C (tgt := 427) dL_isTraverse_402 (by decide) ⟨by decide, by decide⟩ (fun h => absurd h (by decide)) (fun _ => ?_)
    refine gw_aload_n C 2 dL_isTraverse_405 rfl rfl ?_
    refine gw_aload_n C 3 dL_isTraverse_406 rfl rfl ?_
    refine gw_aload C dL_isTraverse_407 rfl ?_
    refine gw_aload C dL_isTraverse_409 rfl ?_
    refine gw_aload C dL_isTraverse_411 rfl ?_
    refine gw_aload C dL_isTraverse_413 rfl ?_
    refine gw_aload C dL_isTraverse_415 rfl ?_
    refine gw_iload C dL_isTraverse_417 rfl ?_
    refine gw_iconst C dL_isTraverse_419 ?_
    refine gw_callSm C (as := [vR 232, vR 233, vR 234, vR 235, vR 236, vR 237, vR 238, vI (t : Int), vI 0]) (st := []) (c_L_miss0 hl0 G I J hR ho t (by omega) (by omega)) dL_isTraverse_420 kL_219 qL_miss hdL_miss ⟨Nat.le_of_ble_eq_true rfl, Nat.le_of_ble_eq_true rfl⟩ ⟨(show _ ≤ 89 from by omega), (show _ ≤ 534 from by omega)⟩ (Nat.le_of_ble_eq_true rfl) rfl (fun z_420 => ?_)
    have hr_420 := sME_b ho (t := t) (by omega) (by omega)
    refine gw_i2l C dL_isTraverse_423 (by first | omega | assumption | exact hgi _ _) ?_
    refine gw_goto C (tgt := 430) dL_isTraverse_424 (by decide) ?_
    refine gw_lstore C (lo1 := [some (vR 0), some (vR 231), some (vR 232), some (vR 233), some (vR 234), some (vR 235), some (vR 236), some (vR 237), some (vR 238), some (vI (t : Int)), some (vI (-2000000000)), some (vI u), some (vI 1), some (vI 8), some (vI 1), some (vI 1), some (vI (((S (104 + 28 * t)).toNat : Nat) : Int)), some (vI (-2000000000)), some (vI (-2000000000)), some (vL (sME S t)), none, none, none]) dL_isTraverse_430 (by decide) rfl ?_
    refine gw_iload C dL_isTraverse_432 rfl ?_
    refine gw_if_eq C (tgt := 459) dL_isTraverse_434 (by decide) ⟨by decide, by decide⟩ (fun h => absurd h (by decide)) (fun _ => ?_)
    refine gw_aload_n C 2 dL_isTraverse_437 rfl rfl ?_
    refine gw_aload_n C 3 dL_isTraverse_438 rfl rfl ?_
    refine gw_aload C dL_isTraverse_439 rfl ?_
    refine gw_aload C dL_isTraverse_441 rfl ?_
    refine gw_aload C dL_isTraverse_443 rfl ?_
    refine gw_aload C dL_isTraverse_445 rfl ?_
    refine gw_aload C dL_isTraverse_447 rfl ?_
    refine gw_iload C dL_isTraverse_449 rfl ?_
    refine gw_iconst C dL_isTraverse_451 ?_
    refine gw_callSm C (as := [vR 232, vR 233, vR 234, vR 235, vR 236, vR 237, vR 238, vI (t : Int), vI 1]) (st := []) (c_L_miss1 hl0 G I J hR ho t (by omega) (by omega)) dL_isTraverse_452 kL_219 qL_miss hdL_miss ⟨Nat.le_of_ble_eq_true rfl, Nat.le_of_ble_eq_true rfl⟩ ⟨(show _ ≤ 89 from by omega), (show _ ≤ 534 from by omega)⟩ (Nat.le_of_ble_eq_true rfl) rfl (fun z_452 => ?_)
    have hr_452 := sME_b ho (t := t) (by omega) (by omega)
    refine gw_i2l C dL_isTraverse_455 (by first | omega | assumption | exact hgi _ _) ?_
    refine gw_goto C (tgt := 462) dL_isTraverse_456 (by decide) ?_
    refine gw_lstore C (lo1 := [some (vR 0), some (vR 231), some (vR 232), some (vR 233), some (vR 234), some (vR 235), some (vR 236), some (vR 237), some (vR 238), some (vI (t : Int)), some (vI (-2000000000)), some (vI u), some (vI 1), some (vI 8), some (vI 1), some (vI 1), some (vI (((S (104 + 28 * t)).toNat : Nat) : Int)), some (vI (-2000000000)), some (vI (-2000000000)), some (vL (sME S t)), none, some (vL (sMN S t)), none]) dL_isTraverse_462 (by decide) rfl ?_
    refine gw_iload C dL_isTraverse_464 rfl ?_
    refine gw_if_eq C (tgt := 551) dL_isTraverse_466 (by decide) ⟨by decide, by decide⟩ (fun h => absurd h (by decide)) (fun _ => ?_)
    refine gw_aload_n C 0 dL_isTraverse_469 rfl rfl ?_
    refine gw_iload C dL_isTraverse_470 rfl ?_
    refine gw_bipush C dL_isTraverse_472 rfl ?_
    refine gw_callSHm C (as := [vR 0, vI (t : Int), vI 7]) (st := []) (c_L_traverseOf hl0 G I J hCI (t : Int) 7 (by first | omega | assumption | exact hgi _ _) ⟨by decide, by decide⟩) dL_isTraverse_474 kL_216 qL_traverseOf hdL_traverseOf ⟨Nat.le_of_ble_eq_true rfl, Nat.le_of_ble_eq_true rfl⟩ ⟨(show _ ≤ 89 from by omega), (show _ ≤ 534 from by omega)⟩ (Nat.le_of_ble_eq_true rfl) rfl (fun z_474_8 => ?_)
    rw [show cdV (kTrav S (t : Int) 7) (rTrav S (t : Int).toNat 7) (-2000001) (-2000002) 0 = (sME S t) from (w_tr htt (by decide)).trans (rTr_w hwh).2.1]
    refine gw_i2l C dL_isTraverse_477 (by first | omega | assumption | exact hgi _ _) ?_
    refine gw_lload C dL_isTraverse_478 rfl ?_
    refine gw_lcmpE C dL_isTraverse_480 (by rfl) ?_
    refine gw_if_ne C (tgt := 551) dL_isTraverse_481 (by decide) ⟨by decide, by decide⟩ (fun h => absurd h (by decide)) (fun _ => ?_)
    refine gw_aload_n C 0 dL_isTraverse_484 rfl rfl ?_
    refine gw_iload C dL_isTraverse_485 rfl ?_
    refine gw_bipush C dL_isTraverse_487 rfl ?_
    refine gw_callSHm C (as := [vR 0, vI (t : Int), vI 8]) (st := []) (c_L_traverseOf hl0 G I J hCI (t : Int) 8 (by first | omega | assumption | exact hgi _ _) ⟨by decide, by decide⟩) dL_isTraverse_489 kL_216 qL_traverseOf hdL_traverseOf ⟨Nat.le_of_ble_eq_true rfl, Nat.le_of_ble_eq_true rfl⟩ ⟨(show _ ≤ 89 from by omega), (show _ ≤ 534 from by omega)⟩ (Nat.le_of_ble_eq_true rfl) rfl (fun z_489_8 => ?_)
    rw [show cdV (kTrav S (t : Int) 8) (rTrav S (t : Int).toNat 8) (-2000001) (-2000002) 0 = (sMN S t) from (w_tr htt (by decide)).trans (rTr_w hwh).2.2.1]
    refine gw_i2l C dL_isTraverse_492 (by first | omega | assumption | exact hgi _ _) ?_
    refine gw_lload C dL_isTraverse_493 rfl ?_
    refine gw_lcmpE C dL_isTraverse_495 (by rfl) ?_
    refine gw_if_ne C (tgt := 551) dL_isTraverse_496 (by decide) ⟨by decide, by decide⟩ (fun h => absurd h (by decide)) (fun _ => ?_)
    refine gw_aload_n C 0 dL_isTraverse_499 rfl rfl ?_
    refine gw_iload C dL_isTraverse_500 rfl ?_
    refine gw_bipush C dL_isTraverse_502 rfl ?_
    refine gw_callSHm C (as := [vR 0, vI (t : Int), vI 9]) (st := []) (c_L_traverseOf hl0 G I J hCI (t : Int) 9 (by first | omega | assumption | exact hgi _ _) ⟨by decide, by decide⟩) dL_isTraverse_504 kL_216 qL_traverseOf hdL_traverseOf ⟨Nat.le_of_ble_eq_true rfl, Nat.le_of_ble_eq_true rfl⟩ ⟨(show _ ≤ 89 from by omega), (show _ ≤ 534 from by omega)⟩ (Nat.le_of_ble_eq_true rfl) rfl (fun z_504_8 => ?_)
    rw [show cdV (kTrav S (t : Int) 9) (rTrav S (t : Int).toNat 9) (-2000001) (-2000002) 0 = (rootZ (sME S t * sME S t + sMN S t * sMN S t)) from (w_tr htt (by decide)).trans (rTr_w hwh).2.2.2]
    refine gw_iload C dL_isTraverse_507 rfl ?_
    refine gw_if_eq C (tgt := 529) dL_isTraverse_509 (by decide) ⟨by decide, by decide⟩ (fun h => absurd h (by decide)) (fun _ => ?_)
    refine gw_lload C dL_isTraverse_512 rfl ?_
    refine gw_lload C dL_isTraverse_514 rfl ?_
    refine gw_lmul C dL_isTraverse_516 ?_
    refine gw_lload C dL_isTraverse_517 rfl ?_
    refine gw_lload C dL_isTraverse_519 rfl ?_
    refine gw_lmul C dL_isTraverse_521 ?_
    refine gw_ladd C dL_isTraverse_522 ?_
    have hsq := sq2 (x := sME S t) (y := sMN S t) (by omega) (by omega)
    refine gw_callSm C (as := [vL (((sME S t) * (sME S t)) + ((sMN S t) * (sMN S t)))]) (st := [vI (rootZ (sME S t * sME S t + sMN S t * sMN S t))]) (c_L_root hl0 G (((sME S t) * (sME S t)) + ((sMN S t) * (sMN S t))) (by omega)) dL_isTraverse_523 kL_112 qL_root hdL_root ⟨Nat.le_of_ble_eq_true rfl, Nat.le_of_ble_eq_true rfl⟩ ⟨(show _ ≤ 89 from by omega), (show _ ≤ 534 from by omega)⟩ (Nat.le_of_ble_eq_true rfl) rfl (fun z_523 => ?_)
    rw [show (rootZ (((sME S t) * (sME S t)) + ((sMN S t) * (sMN S t)))) = (rootZ (sME S t * sME S t + sMN S t * sMN S t)) from rfl]
    have hr1 := (rootZ_s hsq.1).1
    have hr2 := rootZ_le (m := 100000000) hsq.1 (by decide) (by omega)
    refine gw_goto C (tgt := 531) dL_isTraverse_526 (by decide) ?_
    refine gw_icmp_ne C (tgt := 551) dL_isTraverse_531 (by decide) (by first | omega | assumption | exact hgi _ _) (by first | omega | assumption | exact hgi _ _) (fun h => absurd h (by exact fun q => q rfl)) (fun _ => ?_)
    refine gw_aload_n C 0 dL_isTraverse_534 rfl rfl ?_
    refine gw_iload C dL_isTraverse_535 rfl ?_
    refine gw_bipush C dL_isTraverse_537 rfl ?_
    refine gw_callSHm C (as := [vR 0, vI (t : Int), vI 10]) (st := []) (c_L_traverseOf hl0 G I J hCI (t : Int) 10 (by first | omega | assumption | exact hgi _ _) ⟨by decide, by decide⟩) dL_isTraverse_539 kL_216 qL_traverseOf hdL_traverseOf ⟨Nat.le_of_ble_eq_true rfl, Nat.le_of_ble_eq_true rfl⟩ ⟨(show _ ≤ 89 from by omega), (show _ ≤ 534 from by omega)⟩ (Nat.le_of_ble_eq_true rfl) rfl (fun z_539_8 => ?_)
    rw [show cdV (kTrav S (t : Int) 10) (rTrav S (t : Int).toNat 10) (-2000001) (-2000002) 0 = (-2000002) from w_tr2 htt rfl]
    refine gw_ldc C (x := (-2000002)) dL_isTraverse_542 kL_17 (by decide) ?_
    refine gw_icmp_ne C (tgt := 551) dL_isTraverse_544 (by decide) ⟨by decide, by decide⟩ ⟨by decide, by decide⟩ (fun h => absurd h (by decide)) (fun _ => ?_)
    refine gw_iconst C dL_isTraverse_547 ?_
    refine gw_goto C (tgt := 552) dL_isTraverse_548 (by decide) ?_
    refine gw_istore C (lo1 := [some (vR 0), some (vR 231), some (vR 232), some (vR 233), some (vR 234), some (vR 235), some (vR 236), some (vR 237), some (vR 238), some (vI (t : Int)), some (vI (-2000000000)), some (vI u), some (vI 1), some (vI 8), some (vI 1), some (vI 1), some (vI (((S (104 + 28 * t)).toNat : Nat) : Int)), some (vI (-2000000000)), some (vI (-2000000000)), some (vL (sME S t)), none, some (vL (sMN S t)), none]) dL_isTraverse_552 (by decide) rfl ?_
    refine gw_iload C dL_isTraverse_554 rfl ?_
    refine gw_if_eq C (tgt := 633) dL_isTraverse_556 (by decide) ⟨by decide, by decide⟩ (fun h => absurd h (by decide)) (fun _ => ?_)
    refine gw_aload_n C 0 dL_isTraverse_559 rfl rfl ?_
    refine gw_iload C dL_isTraverse_560 rfl ?_
    refine gw_iconst C dL_isTraverse_562 ?_
    refine gw_callSHm C (as := [vR 0, vI (t : Int), vI 0]) (st := []) (c_L_troubleOf hl0 G I J hCI (t : Int) 0 (by first | omega | assumption | exact hgi _ _) ⟨by decide, by decide⟩) dL_isTraverse_563 kL_223 qL_troubleOf hdL_troubleOf ⟨Nat.le_of_ble_eq_true rfl, Nat.le_of_ble_eq_true rfl⟩ ⟨(show _ ≤ 89 from by omega), (show _ ≤ 534 from by omega)⟩ (Nat.le_of_ble_eq_true rfl) rfl (fun z_563_8 => ?_)
    rw [show cdV (kTrb S (t : Int)) (rTrb S (t : Int).toNat 0) (-2000001) 0 0 = 8 from (w_tb htt).trans ((rTrb_z.2 (by omega)).trans hT)]
    refine gw_iload C dL_isTraverse_566 rfl ?_
    refine gw_if_le C (tgt := 576) dL_isTraverse_568 (by decide) ⟨by decide, by decide⟩ (fun h => absurd h (by decide)) (fun _ => ?_)
    refine gw_iload C dL_isTraverse_571 rfl ?_
    refine gw_goto C (tgt := 578) dL_isTraverse_573 (by decide) ?_
    refine gw_icmp_ne C (tgt := 633) dL_isTraverse_578 (by decide) ⟨by decide, by decide⟩ ⟨by decide, by decide⟩ (fun h => absurd h (by decide)) (fun _ => ?_)
    refine gw_aload_n C 0 dL_isTraverse_581 rfl rfl ?_
    refine gw_iload C dL_isTraverse_582 rfl ?_
    refine gw_iconst C dL_isTraverse_584 ?_
    refine gw_callSHm C (as := [vR 0, vI (t : Int), vI 1]) (st := []) (c_L_troubleOf hl0 G I J hCI (t : Int) 1 (by first | omega | assumption | exact hgi _ _) ⟨by decide, by decide⟩) dL_isTraverse_585 kL_223 qL_troubleOf hdL_troubleOf ⟨Nat.le_of_ble_eq_true rfl, Nat.le_of_ble_eq_true rfl⟩ ⟨(show _ ≤ 89 from by omega), (show _ ≤ 534 from by omega)⟩ (Nat.le_of_ble_eq_true rfl) rfl (fun z_585_8 => ?_)
    rw [show cdV (kTrb S (t : Int)) (rTrb S (t : Int).toNat 1) (-2000001) 0 0 = (-2000000000) from (w_tb htt).trans (rTrb_o (by omega) (by decide))]
    refine gw_iload C dL_isTraverse_588 rfl ?_
    refine gw_icmp_ne C (tgt := 633) dL_isTraverse_590 (by decide) ⟨by decide, by decide⟩ ⟨by decide, by decide⟩ (fun h => absurd h (by decide)) (fun _ => ?_)
    refine gw_aload_n C 0 dL_isTraverse_593 rfl rfl ?_
    refine gw_iload C dL_isTraverse_594 rfl ?_
    refine gw_iconst C dL_isTraverse_596 ?_
    refine gw_callSHm C (as := [vR 0, vI (t : Int), vI 2]) (st := []) (c_L_troubleOf hl0 G I J hCI (t : Int) 2 (by first | omega | assumption | exact hgi _ _) ⟨by decide, by decide⟩) dL_isTraverse_597 kL_223 qL_troubleOf hdL_troubleOf ⟨Nat.le_of_ble_eq_true rfl, Nat.le_of_ble_eq_true rfl⟩ ⟨(show _ ≤ 89 from by omega), (show _ ≤ 534 from by omega)⟩ (Nat.le_of_ble_eq_true rfl) rfl (fun z_597_8 => ?_)
    rw [show cdV (kTrb S (t : Int)) (rTrb S (t : Int).toNat 2) (-2000001) 0 0 = (-2000000000) from (w_tb htt).trans (rTrb_o (by omega) (by decide))]
    refine gw_iload C dL_isTraverse_600 rfl ?_
    refine gw_icmp_ne C (tgt := 633) dL_isTraverse_602 (by decide) ⟨by decide, by decide⟩ ⟨by decide, by decide⟩ (fun h => absurd h (by decide)) (fun _ => ?_)
    refine gw_aload_n C 0 dL_isTraverse_605 rfl rfl ?_
    refine gw_iload C dL_isTraverse_606 rfl ?_
    refine gw_iconst C dL_isTraverse_608 ?_
    refine gw_callSHm C (as := [vR 0, vI (t : Int), vI 3]) (st := []) (c_L_troubleOf hl0 G I J hCI (t : Int) 3 (by first | omega | assumption | exact hgi _ _) ⟨by decide, by decide⟩) dL_isTraverse_609 kL_223 qL_troubleOf hdL_troubleOf ⟨Nat.le_of_ble_eq_true rfl, Nat.le_of_ble_eq_true rfl⟩ ⟨(show _ ≤ 89 from by omega), (show _ ≤ 534 from by omega)⟩ (Nat.le_of_ble_eq_true rfl) rfl (fun z_609_8 => ?_)
    rw [show cdV (kTrb S (t : Int)) (rTrb S (t : Int).toNat 3) (-2000001) 0 0 = (-2000000000) from (w_tb htt).trans (rTrb_o (by omega) (by decide))]
    refine gw_iload C dL_isTraverse_612 rfl ?_
    refine gw_icmp_ne C (tgt := 633) dL_isTraverse_614 (by decide) ⟨by decide, by decide⟩ ⟨by decide, by decide⟩ (fun h => absurd h (by decide)) (fun _ => ?_)
    refine gw_aload_n C 0 dL_isTraverse_617 rfl rfl ?_
    refine gw_iload C dL_isTraverse_618 rfl ?_
    refine gw_iconst C dL_isTraverse_620 ?_
    refine gw_callSHm C (as := [vR 0, vI (t : Int), vI (-1)]) (st := []) (c_L_troubleOf hl0 G I J hCI (t : Int) (-1) (by first | omega | assumption | exact hgi _ _) ⟨by decide, by decide⟩) dL_isTraverse_621 kL_223 qL_troubleOf hdL_troubleOf ⟨Nat.le_of_ble_eq_true rfl, Nat.le_of_ble_eq_true rfl⟩ ⟨(show _ ≤ 89 from by omega), (show _ ≤ 534 from by omega)⟩ (Nat.le_of_ble_eq_true rfl) rfl (fun z_621_8 => ?_)
    rw [show cdV (kTrb S (t : Int)) (rTrb S (t : Int).toNat (-1)) (-2000001) 0 0 = (-2000000000) from (w_tb htt).trans (rTrb_o (by omega) (by decide))]
    refine gw_iload C dL_isTraverse_624 rfl ?_
    refine gw_icmp_ne C (tgt := 633) dL_isTraverse_626 (by decide) ⟨by decide, by decide⟩ ⟨by decide, by decide⟩ (fun h => absurd h (by decide)) (fun _ => ?_)
    refine gw_iconst C dL_isTraverse_629 ?_
    refine gw_goto C (tgt := 634) dL_isTraverse_630 (by decide) ?_
    exact gw_zret C (by omega) (by omega) dL_isTraverse_634 (Or.inr rfl) (⟨rfl, rfl, rfl⟩)
  · exact absurd True.intro (by exact fun _ => h_125_5 hwh)
set_option maxHeartbeats 4000000 in
set_option maxRecDepth 100000 in
theorem isT_c5 {l : Launch} (hl0 : l.stackTraces = false) (G : GG) (I J : GI) {S : Nat → Int} {D9 : Nat → Nat → Int} {c9 : Nat} (hCI : CI I S D9 c9) (hR : rowL I = S) (t : Nat) (htt : (t : Int) < S 5) {p : Program} {e : Env} {s : State} {m : MethodId} {args : Array Value} {below : List Frame} {meth : Method} {c : Code} (C : gC G p l s m args meth c cL_isTraverse 23 RL (some .boolean) "isTraverse") (ht : ∀ x ∈ c.exceptionTable.toList, False) (hgi : gIn I) (u : Int) (k z9 a1 a2 : Nat) (hk : k = (S (103 + 28 * t)).toNat) (hu : u = smF k (sLe S t)) (hub : 0 ≤ smF k (sLe S t) ∧ smF k (sLe S t) ≤ 200000 * (k : Int)) (ha : a1 ≤ 72 ∧ a2 ≤ 432) (hT : sTT S t = 0) (hcl : S (104 + 28 * t) < 0)  : GW G p l e ({ frames := 9, cells := 89, slots := 534, locals := 171 } : Room) s m args below meth c 23 z9 N0 SH RR I J a1 a2 (vx_MQ below (GQ G N0 SH RR (memQ (some (vI 1)) I J)) (GX G N0 SH RR gNo) args s 89 534 (ge G)) 92 [some (vR 0), some (vR 231), some (vR 232), some (vR 233), some (vR 234), some (vR 235), some (vR 236), some (vR 237), some (vR 238), some (vI (t : Int)), some (vI (-2000000000)), some (vI u), some (vI 1), some (vI (k : Int)), none, none, none, none, none, none, none, none, none] [vI 0] := by
  have ho := hCI.1.1.2.1
  have h0 := ho.1
  have h3 := ho.2.1
  have ht9 := okT ho htt
  have hf9 := ho.2.2.2.1 (S (102 + 28 * t)).toNat (by omega)
  have hwh : ¬ whl S t := fun q => by have q1 := q.1; have q2 := q.2; omega
  refine gw_istore C (lo1 := [some (vR 0), some (vR 231), some (vR 232), some (vR 233), some (vR 234), some (vR 235), some (vR 236), some (vR 237), some (vR 238), some (vI (t : Int)), some (vI (-2000000000)), some (vI u), some (vI 1), some (vI 0), none, none, none, none, none, none, none, none, none]) dL_isTraverse_92 (by decide) rfl ?_
  refine gw_aload C dL_isTraverse_94 rfl ?_
  refine gw_iconst C dL_isTraverse_96 ?_
  refine gw_iload C dL_isTraverse_97 rfl ?_
  refine gw_imul C dL_isTraverse_99 ?_
  refine gw_iconst C dL_isTraverse_100 ?_
  refine gw_iadd C dL_isTraverse_101 ?_
  refine gw_iald C ((4 * t) + 2) dL_isTraverse_102 xs_236 xn_236 (by omega) (by omega) (by decide) (fun hI_102_6 => ?_)
  rw [show (I 236 ((4 * t) + 2)) = (S (104 + 28 * t)) from by have e9 := lr_h2 (I := I) (t := t) (by omega); rw [hR] at e9; exact e9] at hI_102_6 ⊢
  refine gw_if_lt C (tgt := 110) dL_isTraverse_103 (by decide) hI_102_6 (fun _ => ?_) (fun h => absurd h (by omega))
  refine gw_iconst C dL_isTraverse_110 ?_
  refine gw_istore C (lo1 := [some (vR 0), some (vR 231), some (vR 232), some (vR 233), some (vR 234), some (vR 235), some (vR 236), some (vR 237), some (vR 238), some (vI (t : Int)), some (vI (-2000000000)), some (vI u), some (vI 1), some (vI 0), some (vI 0), none, none, none, none, none, none, none, none]) dL_isTraverse_111 (by decide) rfl ?_
  refine gw_aload_n C 1 dL_isTraverse_113 rfl rfl ?_
  refine gw_aload_n C 3 dL_isTraverse_114 rfl rfl ?_
  refine gw_aload C dL_isTraverse_115 rfl ?_
  refine gw_aload C dL_isTraverse_117 rfl ?_
  refine gw_aload C dL_isTraverse_119 rfl ?_
  refine gw_aload C dL_isTraverse_121 rfl ?_
  refine gw_iload C dL_isTraverse_123 rfl ?_
  refine gw_callSb C (as := [vR 231, vR 233, vR 234, vR 235, vR 236, vR 237, vI (t : Int)]) (st := []) (c_L_whole hl0 G I J hR ho t (by omega)) dL_isTraverse_125 kL_212 qL_whole hdL_whole ⟨Nat.le_of_ble_eq_true rfl, Nat.le_of_ble_eq_true rfl⟩ ⟨(show _ ≤ 89 from by omega), (show _ ≤ 534 from by omega)⟩ (Nat.le_of_ble_eq_true rfl) rfl (fun h_125_6 z_125_6 => ?_) (fun h_125_6 z_125_6 => ?_)
  · exact absurd True.intro (by exact fun _ => hwh h_125_6)
  · skip
    refine gw_istore C (lo1 := [some (vR 0), some (vR 231), some (vR 232), some (vR 233), some (vR 234), some (vR 235), some (vR 236), some (vR 237), some (vR 238), some (vI (t : Int)), some (vI (-2000000000)), some (vI u), some (vI 1), some (vI 0), some (vI 0), some (vI 0), none, none, none, none, none, none, none]) dL_isTraverse_128 (by decide) rfl ?_
    refine gw_iload C dL_isTraverse_130 rfl ?_
    refine gw_bipush C dL_isTraverse_132 rfl ?_
    refine gw_icmp_ne C (tgt := 147) dL_isTraverse_134 (by decide) ⟨by decide, by decide⟩ ⟨by decide, by decide⟩ (fun _ => ?_) (fun h => absurd h (by decide))
    refine gw_aload C dL_isTraverse_147 rfl ?_
    refine gw_iconst C dL_isTraverse_149 ?_
    refine gw_iload C dL_isTraverse_150 rfl ?_
    refine gw_imul C dL_isTraverse_152 ?_
    refine gw_iconst C dL_isTraverse_153 ?_
    refine gw_iadd C dL_isTraverse_154 ?_
    refine gw_iald C ((4 * t) + 2) dL_isTraverse_155 xs_236 xn_236 (by omega) (by omega) (by decide) (fun hI_155_4 => ?_)
    rw [show (I 236 ((4 * t) + 2)) = (S (104 + 28 * t)) from by have e9 := lr_h2 (I := I) (t := t) (by omega); rw [hR] at e9; exact e9] at hI_155_4 ⊢
    refine gw_istore C (lo1 := [some (vR 0), some (vR 231), some (vR 232), some (vR 233), some (vR 234), some (vR 235), some (vR 236), some (vR 237), some (vR 238), some (vI (t : Int)), some (vI (-2000000000)), some (vI u), some (vI 1), some (vI 0), some (vI 0), some (vI 0), some (vI (S (104 + 28 * t))), none, none, none, none, none, none]) dL_isTraverse_156 (by decide) rfl ?_
    refine gw_iload C dL_isTraverse_158 rfl ?_
    refine gw_bipush C dL_isTraverse_160 rfl ?_
    refine gw_icmp_eq C (tgt := 172) dL_isTraverse_162 (by decide) ⟨by decide, by decide⟩ ⟨by decide, by decide⟩ (fun h => absurd h (by decide)) (fun _ => ?_)
    refine gw_iload C dL_isTraverse_165 rfl ?_
    refine gw_bipush C dL_isTraverse_167 rfl ?_
    refine gw_icmp_ne C (tgt := 186) dL_isTraverse_169 (by decide) ⟨by decide, by decide⟩ ⟨by decide, by decide⟩ (fun _ => ?_) (fun h => absurd h (by decide))
    refine gw_iload C dL_isTraverse_186 rfl ?_
    refine gw_istore C (lo1 := [some (vR 0), some (vR 231), some (vR 232), some (vR 233), some (vR 234), some (vR 235), some (vR 236), some (vR 237), some (vR 238), some (vI (t : Int)), some (vI (-2000000000)), some (vI u), some (vI 1), some (vI 0), some (vI 0), some (vI 0), some (vI (S (104 + 28 * t))), some (vI (-2000000000)), none, none, none, none, none]) dL_isTraverse_188 (by decide) rfl ?_
    refine gw_iload C dL_isTraverse_190 rfl ?_
    refine gw_iconst C dL_isTraverse_192 ?_
    refine gw_icmp_ne C (tgt := 210) dL_isTraverse_193 (by decide) ⟨by decide, by decide⟩ ⟨by decide, by decide⟩ (fun _ => ?_) (fun h => absurd h (by decide))
    refine gw_iload C dL_isTraverse_210 rfl ?_
    refine gw_istore C (lo1 := [some (vR 0), some (vR 231), some (vR 232), some (vR 233), some (vR 234), some (vR 235), some (vR 236), some (vR 237), some (vR 238), some (vI (t : Int)), some (vI (-2000000000)), some (vI u), some (vI 1), some (vI 0), some (vI 0), some (vI 0), some (vI (S (104 + 28 * t))), some (vI (-2000000000)), some (vI (-2000000000)), none, none, none, none]) dL_isTraverse_212 (by decide) rfl ?_
    refine gw_iload C dL_isTraverse_214 rfl ?_
    refine gw_if_eq C (tgt := 397) dL_isTraverse_216 (by decide) ⟨by decide, by decide⟩ (fun h => absurd h (by decide)) (fun _ => ?_)
    refine gw_aload_n C 0 dL_isTraverse_219 rfl rfl ?_
    refine gw_iload C dL_isTraverse_220 rfl ?_
    refine gw_aload C dL_isTraverse_222 rfl ?_
    refine gw_iconst C dL_isTraverse_224 ?_
    refine gw_iload C dL_isTraverse_225 rfl ?_
    refine gw_imul C dL_isTraverse_227 ?_
    refine gw_iconst C dL_isTraverse_228 ?_
    refine gw_iadd C dL_isTraverse_229 ?_
    refine gw_iald C ((4 * t) + 1) dL_isTraverse_230 xs_236 xn_236 (by omega) (by omega) (by decide) (fun hI_230_9 => ?_)
    rw [show (I 236 ((4 * t) + 1)) = (((S (103 + 28 * t)).toNat : Nat) : Int) from by have e9 := lr_h1 (I := I) (t := t) (by omega); rw [hR] at e9; omega] at hI_230_9 ⊢
    refine gw_iconst C dL_isTraverse_231 ?_
    refine gw_callSHm C (as := [vR 0, vI (t : Int), vI (((S (103 + 28 * t)).toNat : Nat) : Int), vI 0]) (st := []) (c_L_legOf hl0 G I J hCI (t : Int) (((S (103 + 28 * t)).toNat : Nat) : Int) 0 (by first | omega | assumption | exact hgi _ _) hI_230_9 ⟨by decide, by decide⟩) dL_isTraverse_232 kL_205 qL_legOf hdL_legOf ⟨Nat.le_of_ble_eq_true rfl, Nat.le_of_ble_eq_true rfl⟩ ⟨(show _ ≤ 89 from by omega), (show _ ≤ 534 from by omega)⟩ (Nat.le_of_ble_eq_true rfl) rfl (fun z_232_9 => ?_)
    rw [show cdV (kLeg S (t : Int) (((S (103 + 28 * t)).toNat : Nat) : Int) 0) (rLeg S (t : Int).toNat (((S (103 + 28 * t)).toNat : Nat) : Int).toNat 0) (-2000001) (-2000002) 0 = (-2000001) from w_lg1 (by rw [show ((t : Nat) : Int).toNat = t from rfl]; omega)]
    refine gw_ldc C (x := (-2000001)) dL_isTraverse_235 kL_29 (by decide) ?_
    refine gw_icmp_ne C (tgt := 397) dL_isTraverse_237 (by decide) ⟨by decide, by decide⟩ ⟨by decide, by decide⟩ (fun h => absurd h (by decide)) (fun _ => ?_)
    refine gw_aload_n C 0 dL_isTraverse_240 rfl rfl ?_
    refine gw_iload C dL_isTraverse_241 rfl ?_
    refine gw_iconst C dL_isTraverse_243 ?_
    refine gw_callSHm C (as := [vR 0, vI (t : Int), vI 0]) (st := []) (c_L_traverseOf hl0 G I J hCI (t : Int) 0 (by first | omega | assumption | exact hgi _ _) ⟨by decide, by decide⟩) dL_isTraverse_244 kL_216 qL_traverseOf hdL_traverseOf ⟨Nat.le_of_ble_eq_true rfl, Nat.le_of_ble_eq_true rfl⟩ ⟨(show _ ≤ 89 from by omega), (show _ ≤ 534 from by omega)⟩ (Nat.le_of_ble_eq_true rfl) rfl (fun z_244_9 => ?_)
    rw [show cdV (kTrav S (t : Int) 0) (rTrav S (t : Int).toNat 0) (-2000001) (-2000002) 0 = (((S (102 + 28 * t)).toNat : Nat) : Int) from (w_tr htt (by decide)).trans (by show S (102 + 28 * t) = _; omega)]
    refine gw_aload C dL_isTraverse_247 rfl ?_
    refine gw_iconst C dL_isTraverse_249 ?_
    refine gw_iload C dL_isTraverse_250 rfl ?_
    refine gw_imul C dL_isTraverse_252 ?_
    refine gw_iald C (4 * t) dL_isTraverse_253 xs_236 xn_236 (by omega) (by omega) (by decide) (fun hI_253_9 => ?_)
    rw [show (I 236 (4 * t)) = (((S (102 + 28 * t)).toNat : Nat) : Int) from by have e9 := lr_h0 (I := I) (t := t) (by omega); rw [hR] at e9; omega] at hI_253_9 ⊢
    refine gw_icmp_ne C (tgt := 397) dL_isTraverse_254 (by decide) (by first | omega | assumption | exact hgi _ _) hI_253_9 (fun h => absurd h (by exact fun q => q rfl)) (fun _ => ?_)
    refine gw_aload_n C 0 dL_isTraverse_257 rfl rfl ?_
    refine gw_iload C dL_isTraverse_258 rfl ?_
    refine gw_iconst C dL_isTraverse_260 ?_
    refine gw_callSHm C (as := [vR 0, vI (t : Int), vI 1]) (st := []) (c_L_traverseOf hl0 G I J hCI (t : Int) 1 (by first | omega | assumption | exact hgi _ _) ⟨by decide, by decide⟩) dL_isTraverse_261 kL_216 qL_traverseOf hdL_traverseOf ⟨Nat.le_of_ble_eq_true rfl, Nat.le_of_ble_eq_true rfl⟩ ⟨(show _ ≤ 89 from by omega), (show _ ≤ 534 from by omega)⟩ (Nat.le_of_ble_eq_true rfl) rfl (fun z_261_9 => ?_)
    rw [show cdV (kTrav S (t : Int) 1) (rTrav S (t : Int).toNat 1) (-2000001) (-2000002) 0 = (((S (103 + 28 * t)).toNat : Nat) : Int) from (w_tr htt (by decide)).trans (by show S (103 + 28 * t) = _; omega)]
    refine gw_aload C dL_isTraverse_264 rfl ?_
    refine gw_iconst C dL_isTraverse_266 ?_
    refine gw_iload C dL_isTraverse_267 rfl ?_
    refine gw_imul C dL_isTraverse_269 ?_
    refine gw_iconst C dL_isTraverse_270 ?_
    refine gw_iadd C dL_isTraverse_271 ?_
    refine gw_iald C ((4 * t) + 1) dL_isTraverse_272 xs_236 xn_236 (by omega) (by omega) (by decide) (fun hI_272_9 => ?_)
    rw [show (I 236 ((4 * t) + 1)) = (((S (103 + 28 * t)).toNat : Nat) : Int) from by have e9 := lr_h1 (I := I) (t := t) (by omega); rw [hR] at e9; omega] at hI_272_9 ⊢
    refine gw_icmp_ne C (tgt := 397) dL_isTraverse_273 (by decide) (by first | omega | assumption | exact hgi _ _) hI_272_9 (fun h => absurd h (by exact fun q => q rfl)) (fun _ => ?_)
    refine gw_aload_n C 0 dL_isTraverse_276 rfl rfl ?_
    refine gw_iload C dL_isTraverse_277 rfl ?_
    refine gw_iconst C dL_isTraverse_279 ?_
    refine gw_callSHm C (as := [vR 0, vI (t : Int), vI 2]) (st := []) (c_L_traverseOf hl0 G I J hCI (t : Int) 2 (by first | omega | assumption | exact hgi _ _) ⟨by decide, by decide⟩) dL_isTraverse_280 kL_216 qL_traverseOf hdL_traverseOf ⟨Nat.le_of_ble_eq_true rfl, Nat.le_of_ble_eq_true rfl⟩ ⟨(show _ ≤ 89 from by omega), (show _ ≤ 534 from by omega)⟩ (Nat.le_of_ble_eq_true rfl) rfl (fun z_280_9 => ?_)
    rw [show cdV (kTrav S (t : Int) 2) (rTrav S (t : Int).toNat 2) (-2000001) (-2000002) 0 = (-2000000000) from (w_tr htt (by decide)).trans (rTr_2.2 hcl).1]
    refine gw_iload C dL_isTraverse_283 rfl ?_
    refine gw_if_eq C (tgt := 300) dL_isTraverse_285 (by decide) ⟨by decide, by decide⟩ (fun _ => ?_) (fun h => absurd h (by decide))
    refine gw_iload C dL_isTraverse_300 rfl ?_
    refine gw_icmp_ne C (tgt := 397) dL_isTraverse_302 (by decide) ⟨by decide, by decide⟩ ⟨by decide, by decide⟩ (fun h => absurd h (by decide)) (fun _ => ?_)
    refine gw_aload_n C 0 dL_isTraverse_305 rfl rfl ?_
    refine gw_iload C dL_isTraverse_306 rfl ?_
    refine gw_iconst C dL_isTraverse_308 ?_
    refine gw_callSHm C (as := [vR 0, vI (t : Int), vI 3]) (st := []) (c_L_traverseOf hl0 G I J hCI (t : Int) 3 (by first | omega | assumption | exact hgi _ _) ⟨by decide, by decide⟩) dL_isTraverse_309 kL_216 qL_traverseOf hdL_traverseOf ⟨Nat.le_of_ble_eq_true rfl, Nat.le_of_ble_eq_true rfl⟩ ⟨(show _ ≤ 89 from by omega), (show _ ≤ 534 from by omega)⟩ (Nat.le_of_ble_eq_true rfl) rfl (fun z_309_9 => ?_)
    rw [show cdV (kTrav S (t : Int) 3) (rTrav S (t : Int).toNat 3) (-2000001) (-2000002) 0 = (-2000000000) from (w_tr htt (by decide)).trans (rTr_2.2 hcl).2]
    refine gw_iload C dL_isTraverse_312 rfl ?_
    refine gw_if_eq C (tgt := 329) dL_isTraverse_314 (by decide) ⟨by decide, by decide⟩ (fun _ => ?_) (fun h => absurd h (by decide))
    refine gw_iload C dL_isTraverse_329 rfl ?_
    refine gw_icmp_ne C (tgt := 397) dL_isTraverse_331 (by decide) ⟨by decide, by decide⟩ ⟨by decide, by decide⟩ (fun h => absurd h (by decide)) (fun _ => ?_)
    refine gw_aload_n C 0 dL_isTraverse_334 rfl rfl ?_
    refine gw_iload C dL_isTraverse_335 rfl ?_
    refine gw_iconst C dL_isTraverse_337 ?_
    refine gw_callSHm C (as := [vR 0, vI (t : Int), vI 4]) (st := []) (c_L_traverseOf hl0 G I J hCI (t : Int) 4 (by first | omega | assumption | exact hgi _ _) ⟨by decide, by decide⟩) dL_isTraverse_338 kL_216 qL_traverseOf hdL_traverseOf ⟨Nat.le_of_ble_eq_true rfl, Nat.le_of_ble_eq_true rfl⟩ ⟨(show _ ≤ 89 from by omega), (show _ ≤ 534 from by omega)⟩ (Nat.le_of_ble_eq_true rfl) rfl (fun z_338_9 => ?_)
    rw [show cdV (kTrav S (t : Int) 4) (rTrav S (t : Int).toNat 4) (-2000001) (-2000002) 0 = 0 from (w_tr htt (by decide)).trans hT]
    refine gw_iload C dL_isTraverse_341 rfl ?_
    refine gw_icmp_ne C (tgt := 397) dL_isTraverse_343 (by decide) ⟨by decide, by decide⟩ ⟨by decide, by decide⟩ (fun h => absurd h (by decide)) (fun _ => ?_)
    refine gw_aload_n C 0 dL_isTraverse_346 rfl rfl ?_
    refine gw_iload C dL_isTraverse_347 rfl ?_
    refine gw_iconst C dL_isTraverse_349 ?_
    refine gw_callSHm C (as := [vR 0, vI (t : Int), vI 5]) (st := []) (c_L_traverseOf hl0 G I J hCI (t : Int) 5 (by first | omega | assumption | exact hgi _ _) ⟨by decide, by decide⟩) dL_isTraverse_350 kL_216 qL_traverseOf hdL_traverseOf ⟨Nat.le_of_ble_eq_true rfl, Nat.le_of_ble_eq_true rfl⟩ ⟨(show _ ≤ 89 from by omega), (show _ ≤ 534 from by omega)⟩ (Nat.le_of_ble_eq_true rfl) rfl (fun z_350_9 => ?_)
    rw [show cdV (kTrav S (t : Int) 5) (rTrav S (t : Int).toNat 5) (-2000001) (-2000002) 0 = (-2000000000) from (w_tr htt (by decide)).trans (rTr_n hwh (by decide))]
    refine gw_iload C dL_isTraverse_353 rfl ?_
    refine gw_if_eq C (tgt := 375) dL_isTraverse_355 (by decide) ⟨by decide, by decide⟩ (fun _ => ?_) (fun h => absurd h (by decide))
    refine gw_iload C dL_isTraverse_375 rfl ?_
    refine gw_icmp_ne C (tgt := 397) dL_isTraverse_377 (by decide) ⟨by decide, by decide⟩ ⟨by decide, by decide⟩ (fun h => absurd h (by decide)) (fun _ => ?_)
    refine gw_aload_n C 0 dL_isTraverse_380 rfl rfl ?_
    refine gw_iload C dL_isTraverse_381 rfl ?_
    refine gw_bipush C dL_isTraverse_383 rfl ?_
    refine gw_callSHm C (as := [vR 0, vI (t : Int), vI 6]) (st := []) (c_L_traverseOf hl0 G I J hCI (t : Int) 6 (by first | omega | assumption | exact hgi _ _) ⟨by decide, by decide⟩) dL_isTraverse_385 kL_216 qL_traverseOf hdL_traverseOf ⟨Nat.le_of_ble_eq_true rfl, Nat.le_of_ble_eq_true rfl⟩ ⟨(show _ ≤ 89 from by omega), (show _ ≤ 534 from by omega)⟩ (Nat.le_of_ble_eq_true rfl) rfl (fun z_385_9 => ?_)
    rw [show cdV (kTrav S (t : Int) 6) (rTrav S (t : Int).toNat 6) (-2000001) (-2000002) 0 = u from (w_tr htt (by decide)).trans (by show smF (S (103 + 28 * t)).toNat (sLe S t) = u; rw [hu, show (S (103 + 28 * t)).toNat = k by omega])]
    refine gw_iload C dL_isTraverse_388 rfl ?_
    refine gw_icmp_ne C (tgt := 397) dL_isTraverse_390 (by decide) (by first | omega | assumption | exact hgi _ _) (by first | omega | assumption | exact hgi _ _) (fun h => absurd h (by exact fun q => q rfl)) (fun _ => ?_)
    refine gw_iconst C dL_isTraverse_393 ?_
    refine gw_goto C (tgt := 398) dL_isTraverse_394 (by decide) ?_
    refine gw_istore C (lo1 := [some (vR 0), some (vR 231), some (vR 232), some (vR 233), some (vR 234), some (vR 235), some (vR 236), some (vR 237), some (vR 238), some (vI (t : Int)), some (vI (-2000000000)), some (vI u), some (vI 1), some (vI 0), some (vI 0), some (vI 0), some (vI (S (104 + 28 * t))), some (vI (-2000000000)), some (vI (-2000000000)), none, none, none, none]) dL_isTraverse_398 (by decide) rfl ?_
    refine gw_iload C dL_isTraverse_400 rfl ?_
    refine gw_if_eq C (tgt := 427) dL_isTraverse_402 (by decide) ⟨by decide, by decide⟩ (fun _ => ?_) (fun h => absurd h (by decide))
    refine gw_iload C dL_isTraverse_427 rfl ?_
    refine gw_i2l C dL_isTraverse_429 ⟨by decide, by decide⟩ ?_
    refine gw_lstore C (lo1 := [some (vR 0), some (vR 231), some (vR 232), some (vR 233), some (vR 234), some (vR 235), some (vR 236), some (vR 237), some (vR 238), some (vI (t : Int)), some (vI (-2000000000)), some (vI u), some (vI 1), some (vI 0), some (vI 0), some (vI 0), some (vI (S (104 + 28 * t))), some (vI (-2000000000)), some (vI (-2000000000)), some (vL (-2000000000)), none, none, none]) dL_isTraverse_430 (by decide) rfl ?_
    refine gw_iload C dL_isTraverse_432 rfl ?_
    refine gw_if_eq C (tgt := 459) dL_isTraverse_434 (by decide) ⟨by decide, by decide⟩ (fun _ => ?_) (fun h => absurd h (by decide))
    refine gw_iload C dL_isTraverse_459 rfl ?_
    refine gw_i2l C dL_isTraverse_461 ⟨by decide, by decide⟩ ?_
    refine gw_lstore C (lo1 := [some (vR 0), some (vR 231), some (vR 232), some (vR 233), some (vR 234), some (vR 235), some (vR 236), some (vR 237), some (vR 238), some (vI (t : Int)), some (vI (-2000000000)), some (vI u), some (vI 1), some (vI 0), some (vI 0), some (vI 0), some (vI (S (104 + 28 * t))), some (vI (-2000000000)), some (vI (-2000000000)), some (vL (-2000000000)), none, some (vL (-2000000000)), none]) dL_isTraverse_462 (by decide) rfl ?_
    refine gw_iload C dL_isTraverse_464 rfl ?_
    refine gw_if_eq C (tgt := 551) dL_isTraverse_466 (by decide) ⟨by decide, by decide⟩ (fun h => absurd h (by decide)) (fun _ => ?_)
    refine gw_aload_n C 0 dL_isTraverse_469 rfl rfl ?_
    refine gw_iload C dL_isTraverse_470 rfl ?_
    refine gw_bipush C dL_isTraverse_472 rfl ?_
    refine gw_callSHm C (as := [vR 0, vI (t : Int), vI 7]) (st := []) (c_L_traverseOf hl0 G I J hCI (t : Int) 7 (by first | omega | assumption | exact hgi _ _) ⟨by decide, by decide⟩) dL_isTraverse_474 kL_216 qL_traverseOf hdL_traverseOf ⟨Nat.le_of_ble_eq_true rfl, Nat.le_of_ble_eq_true rfl⟩ ⟨(show _ ≤ 89 from by omega), (show _ ≤ 534 from by omega)⟩ (Nat.le_of_ble_eq_true rfl) rfl (fun z_474_9 => ?_)
    rw [show cdV (kTrav S (t : Int) 7) (rTrav S (t : Int).toNat 7) (-2000001) (-2000002) 0 = (-2000000000) from (w_tr htt (by decide)).trans (rTr_n hwh (by decide))]
    refine gw_i2l C dL_isTraverse_477 ⟨by decide, by decide⟩ ?_
    refine gw_lload C dL_isTraverse_478 rfl ?_
    refine gw_lcmpE C dL_isTraverse_480 (by rfl) ?_
    refine gw_if_ne C (tgt := 551) dL_isTraverse_481 (by decide) ⟨by decide, by decide⟩ (fun h => absurd h (by decide)) (fun _ => ?_)
    refine gw_aload_n C 0 dL_isTraverse_484 rfl rfl ?_
    refine gw_iload C dL_isTraverse_485 rfl ?_
    refine gw_bipush C dL_isTraverse_487 rfl ?_
    refine gw_callSHm C (as := [vR 0, vI (t : Int), vI 8]) (st := []) (c_L_traverseOf hl0 G I J hCI (t : Int) 8 (by first | omega | assumption | exact hgi _ _) ⟨by decide, by decide⟩) dL_isTraverse_489 kL_216 qL_traverseOf hdL_traverseOf ⟨Nat.le_of_ble_eq_true rfl, Nat.le_of_ble_eq_true rfl⟩ ⟨(show _ ≤ 89 from by omega), (show _ ≤ 534 from by omega)⟩ (Nat.le_of_ble_eq_true rfl) rfl (fun z_489_9 => ?_)
    rw [show cdV (kTrav S (t : Int) 8) (rTrav S (t : Int).toNat 8) (-2000001) (-2000002) 0 = (-2000000000) from (w_tr htt (by decide)).trans (rTr_n hwh (by decide))]
    refine gw_i2l C dL_isTraverse_492 ⟨by decide, by decide⟩ ?_
    refine gw_lload C dL_isTraverse_493 rfl ?_
    refine gw_lcmpE C dL_isTraverse_495 (by rfl) ?_
    refine gw_if_ne C (tgt := 551) dL_isTraverse_496 (by decide) ⟨by decide, by decide⟩ (fun h => absurd h (by decide)) (fun _ => ?_)
    refine gw_aload_n C 0 dL_isTraverse_499 rfl rfl ?_
    refine gw_iload C dL_isTraverse_500 rfl ?_
    refine gw_bipush C dL_isTraverse_502 rfl ?_
    refine gw_callSHm C (as := [vR 0, vI (t : Int), vI 9]) (st := []) (c_L_traverseOf hl0 G I J hCI (t : Int) 9 (by first | omega | assumption | exact hgi _ _) ⟨by decide, by decide⟩) dL_isTraverse_504 kL_216 qL_traverseOf hdL_traverseOf ⟨Nat.le_of_ble_eq_true rfl, Nat.le_of_ble_eq_true rfl⟩ ⟨(show _ ≤ 89 from by omega), (show _ ≤ 534 from by omega)⟩ (Nat.le_of_ble_eq_true rfl) rfl (fun z_504_9 => ?_)
    rw [show cdV (kTrav S (t : Int) 9) (rTrav S (t : Int).toNat 9) (-2000001) (-2000002) 0 = (-2000000000) from (w_tr htt (by decide)).trans (rTr_n hwh (by decide))]
    refine gw_iload C dL_isTraverse_507 rfl ?_
    refine gw_if_eq C (tgt := 529) dL_isTraverse_509 (by decide) ⟨by decide, by decide⟩ (fun _ => ?_) (fun h => absurd h (by decide))
    refine gw_iload C dL_isTraverse_529 rfl ?_
    refine gw_icmp_ne C (tgt := 551) dL_isTraverse_531 (by decide) ⟨by decide, by decide⟩ ⟨by decide, by decide⟩ (fun h => absurd h (by decide)) (fun _ => ?_)
    refine gw_aload_n C 0 dL_isTraverse_534 rfl rfl ?_
    refine gw_iload C dL_isTraverse_535 rfl ?_
    refine gw_bipush C dL_isTraverse_537 rfl ?_
    refine gw_callSHm C (as := [vR 0, vI (t : Int), vI 10]) (st := []) (c_L_traverseOf hl0 G I J hCI (t : Int) 10 (by first | omega | assumption | exact hgi _ _) ⟨by decide, by decide⟩) dL_isTraverse_539 kL_216 qL_traverseOf hdL_traverseOf ⟨Nat.le_of_ble_eq_true rfl, Nat.le_of_ble_eq_true rfl⟩ ⟨(show _ ≤ 89 from by omega), (show _ ≤ 534 from by omega)⟩ (Nat.le_of_ble_eq_true rfl) rfl (fun z_539_9 => ?_)
    rw [show cdV (kTrav S (t : Int) 10) (rTrav S (t : Int).toNat 10) (-2000001) (-2000002) 0 = (-2000002) from w_tr2 htt rfl]
    refine gw_ldc C (x := (-2000002)) dL_isTraverse_542 kL_17 (by decide) ?_
    refine gw_icmp_ne C (tgt := 551) dL_isTraverse_544 (by decide) ⟨by decide, by decide⟩ ⟨by decide, by decide⟩ (fun h => absurd h (by decide)) (fun _ => ?_)
    refine gw_iconst C dL_isTraverse_547 ?_
    refine gw_goto C (tgt := 552) dL_isTraverse_548 (by decide) ?_
    refine gw_istore C (lo1 := [some (vR 0), some (vR 231), some (vR 232), some (vR 233), some (vR 234), some (vR 235), some (vR 236), some (vR 237), some (vR 238), some (vI (t : Int)), some (vI (-2000000000)), some (vI u), some (vI 1), some (vI 0), some (vI 0), some (vI 0), some (vI (S (104 + 28 * t))), some (vI (-2000000000)), some (vI (-2000000000)), some (vL (-2000000000)), none, some (vL (-2000000000)), none]) dL_isTraverse_552 (by decide) rfl ?_
    refine gw_iload C dL_isTraverse_554 rfl ?_
    refine gw_if_eq C (tgt := 633) dL_isTraverse_556 (by decide) ⟨by decide, by decide⟩ (fun h => absurd h (by decide)) (fun _ => ?_)
    refine gw_aload_n C 0 dL_isTraverse_559 rfl rfl ?_
    refine gw_iload C dL_isTraverse_560 rfl ?_
    refine gw_iconst C dL_isTraverse_562 ?_
    refine gw_callSHm C (as := [vR 0, vI (t : Int), vI 0]) (st := []) (c_L_troubleOf hl0 G I J hCI (t : Int) 0 (by first | omega | assumption | exact hgi _ _) ⟨by decide, by decide⟩) dL_isTraverse_563 kL_223 qL_troubleOf hdL_troubleOf ⟨Nat.le_of_ble_eq_true rfl, Nat.le_of_ble_eq_true rfl⟩ ⟨(show _ ≤ 89 from by omega), (show _ ≤ 534 from by omega)⟩ (Nat.le_of_ble_eq_true rfl) rfl (fun z_563_9 => ?_)
    rw [show cdV (kTrb S (t : Int)) (rTrb S (t : Int).toNat 0) (-2000001) 0 0 = (-2000000000) from (w_tb htt).trans (rTrb_z.1 hT)]
    refine gw_iload C dL_isTraverse_566 rfl ?_
    refine gw_if_le C (tgt := 576) dL_isTraverse_568 (by decide) ⟨by decide, by decide⟩ (fun _ => ?_) (fun h => absurd h (by decide))
    refine gw_iload C dL_isTraverse_576 rfl ?_
    refine gw_icmp_ne C (tgt := 633) dL_isTraverse_578 (by decide) ⟨by decide, by decide⟩ ⟨by decide, by decide⟩ (fun h => absurd h (by decide)) (fun _ => ?_)
    refine gw_aload_n C 0 dL_isTraverse_581 rfl rfl ?_
    refine gw_iload C dL_isTraverse_582 rfl ?_
    refine gw_iconst C dL_isTraverse_584 ?_
    refine gw_callSHm C (as := [vR 0, vI (t : Int), vI 1]) (st := []) (c_L_troubleOf hl0 G I J hCI (t : Int) 1 (by first | omega | assumption | exact hgi _ _) ⟨by decide, by decide⟩) dL_isTraverse_585 kL_223 qL_troubleOf hdL_troubleOf ⟨Nat.le_of_ble_eq_true rfl, Nat.le_of_ble_eq_true rfl⟩ ⟨(show _ ≤ 89 from by omega), (show _ ≤ 534 from by omega)⟩ (Nat.le_of_ble_eq_true rfl) rfl (fun z_585_9 => ?_)
    rw [show cdV (kTrb S (t : Int)) (rTrb S (t : Int).toNat 1) (-2000001) 0 0 = (-2000000000) from (w_tb htt).trans (rTrb_o (by omega) (by decide))]
    refine gw_iload C dL_isTraverse_588 rfl ?_
    refine gw_icmp_ne C (tgt := 633) dL_isTraverse_590 (by decide) ⟨by decide, by decide⟩ ⟨by decide, by decide⟩ (fun h => absurd h (by decide)) (fun _ => ?_)
    refine gw_aload_n C 0 dL_isTraverse_593 rfl rfl ?_
    refine gw_iload C dL_isTraverse_594 rfl ?_
    refine gw_iconst C dL_isTraverse_596 ?_
    refine gw_callSHm C (as := [vR 0, vI (t : Int), vI 2]) (st := []) (c_L_troubleOf hl0 G I J hCI (t : Int) 2 (by first | omega | assumption | exact hgi _ _) ⟨by decide, by decide⟩) dL_isTraverse_597 kL_223 qL_troubleOf hdL_troubleOf ⟨Nat.le_of_ble_eq_true rfl, Nat.le_of_ble_eq_true rfl⟩ ⟨(show _ ≤ 89 from by omega), (show _ ≤ 534 from by omega)⟩ (Nat.le_of_ble_eq_true rfl) rfl (fun z_597_9 => ?_)
    rw [show cdV (kTrb S (t : Int)) (rTrb S (t : Int).toNat 2) (-2000001) 0 0 = (-2000000000) from (w_tb htt).trans (rTrb_o (by omega) (by decide))]
    refine gw_iload C dL_isTraverse_600 rfl ?_
    refine gw_icmp_ne C (tgt := 633) dL_isTraverse_602 (by decide) ⟨by decide, by decide⟩ ⟨by decide, by decide⟩ (fun h => absurd h (by decide)) (fun _ => ?_)
    refine gw_aload_n C 0 dL_isTraverse_605 rfl rfl ?_
    refine gw_iload C dL_isTraverse_606 rfl ?_
    refine gw_iconst C dL_isTraverse_608 ?_
    refine gw_callSHm C (as := [vR 0, vI (t : Int), vI 3]) (st := []) (c_L_troubleOf hl0 G I J hCI (t : Int) 3 (by first | omega | assumption | exact hgi _ _) ⟨by decide, by decide⟩) dL_isTraverse_609 kL_223 qL_troubleOf hdL_troubleOf ⟨Nat.le_of_ble_eq_true rfl, Nat.le_of_ble_eq_true rfl⟩ ⟨(show _ ≤ 89 from by omega), (show _ ≤ 534 from by omega)⟩ (Nat.le_of_ble_eq_true rfl) rfl (fun z_609_9 => ?_)
    rw [show cdV (kTrb S (t : Int)) (rTrb S (t : Int).toNat 3) (-2000001) 0 0 = (-2000000000) from (w_tb htt).trans (rTrb_o (by omega) (by decide))]
    refine gw_iload C dL_isTraverse_612 rfl ?_
    refine gw_icmp_ne C (tgt := 633) dL_isTraverse_614 (by decide) ⟨by decide, by decide⟩ ⟨by decide, by decide⟩ (fun h => absurd h (by decide)) (fun _ => ?_)
    refine gw_aload_n C 0 dL_isTraverse_617 rfl rfl ?_
    refine gw_iload C dL_isTraverse_618 rfl ?_
    refine gw_iconst C dL_isTraverse_620 ?_
    refine gw_callSHm C (as := [vR 0, vI (t : Int), vI (-1)]) (st := []) (c_L_troubleOf hl0 G I J hCI (t : Int) (-1) (by first | omega | assumption | exact hgi _ _) ⟨by decide, by decide⟩) dL_isTraverse_621 kL_223 qL_troubleOf hdL_troubleOf ⟨Nat.le_of_ble_eq_true rfl, Nat.le_of_ble_eq_true rfl⟩ ⟨(show _ ≤ 89 from by omega), (show _ ≤ 534 from by omega)⟩ (Nat.le_of_ble_eq_true rfl) rfl (fun z_621_9 => ?_)
    rw [show cdV (kTrb S (t : Int)) (rTrb S (t : Int).toNat (-1)) (-2000001) 0 0 = (-2000000000) from (w_tb htt).trans (rTrb_o (by omega) (by decide))]
    refine gw_iload C dL_isTraverse_624 rfl ?_
    refine gw_icmp_ne C (tgt := 633) dL_isTraverse_626 (by decide) ⟨by decide, by decide⟩ ⟨by decide, by decide⟩ (fun h => absurd h (by decide)) (fun _ => ?_)
    refine gw_iconst C dL_isTraverse_629 ?_
    refine gw_goto C (tgt := 634) dL_isTraverse_630 (by decide) ?_
    exact gw_zret C (by omega) (by omega) dL_isTraverse_634 (Or.inr rfl) (⟨rfl, rfl, rfl⟩)
set_option maxHeartbeats 4000000 in
set_option maxRecDepth 100000 in
theorem isT_c6 {l : Launch} (hl0 : l.stackTraces = false) (G : GG) (I J : GI) {S : Nat → Int} {D9 : Nat → Nat → Int} {c9 : Nat} (hCI : CI I S D9 c9) (hR : rowL I = S) (t : Nat) (htt : (t : Int) < S 5) {p : Program} {e : Env} {s : State} {m : MethodId} {args : Array Value} {below : List Frame} {meth : Method} {c : Code} (C : gC G p l s m args meth c cL_isTraverse 23 RL (some .boolean) "isTraverse") (ht : ∀ x ∈ c.exceptionTable.toList, False) (hgi : gIn I) (u : Int) (k z9 a1 a2 : Nat) (hk : k = (S (103 + 28 * t)).toNat) (hu : u = smF k (sLe S t)) (hub : 0 ≤ smF k (sLe S t) ∧ smF k (sLe S t) ≤ 200000 * (k : Int)) (ha : a1 ≤ 72 ∧ a2 ≤ 432) (hT : sTT S t = 0) (hcl : 0 ≤ S (104 + 28 * t))  : GW G p l e ({ frames := 9, cells := 89, slots := 534, locals := 171 } : Room) s m args below meth c 23 z9 N0 SH RR I J a1 a2 (vx_MQ below (GQ G N0 SH RR (memQ (some (vI 1)) I J)) (GX G N0 SH RR gNo) args s 89 534 (ge G)) 92 [some (vR 0), some (vR 231), some (vR 232), some (vR 233), some (vR 234), some (vR 235), some (vR 236), some (vR 237), some (vR 238), some (vI (t : Int)), some (vI (-2000000000)), some (vI u), some (vI 1), some (vI (k : Int)), none, none, none, none, none, none, none, none, none] [vI 0] := by
  have ho := hCI.1.1.2.1
  have h0 := ho.1
  have h3 := ho.2.1
  have ht9 := okT ho htt
  have hf9 := ho.2.2.2.1 (S (102 + 28 * t)).toNat (by omega)
  have hwh : whl S t := ⟨hcl, by omega⟩
  refine gw_istore C (lo1 := [some (vR 0), some (vR 231), some (vR 232), some (vR 233), some (vR 234), some (vR 235), some (vR 236), some (vR 237), some (vR 238), some (vI (t : Int)), some (vI (-2000000000)), some (vI u), some (vI 1), some (vI 0), none, none, none, none, none, none, none, none, none]) dL_isTraverse_92 (by decide) rfl ?_
  refine gw_aload C dL_isTraverse_94 rfl ?_
  refine gw_iconst C dL_isTraverse_96 ?_
  refine gw_iload C dL_isTraverse_97 rfl ?_
  refine gw_imul C dL_isTraverse_99 ?_
  refine gw_iconst C dL_isTraverse_100 ?_
  refine gw_iadd C dL_isTraverse_101 ?_
  refine gw_iald C ((4 * t) + 2) dL_isTraverse_102 xs_236 xn_236 (by omega) (by omega) (by decide) (fun hI_102_7 => ?_)
  rw [show (I 236 ((4 * t) + 2)) = (S (104 + 28 * t)) from by have e9 := lr_h2 (I := I) (t := t) (by omega); rw [hR] at e9; exact e9] at hI_102_7 ⊢
  refine gw_if_lt C (tgt := 110) dL_isTraverse_103 (by decide) hI_102_7 (fun h => absurd h (by omega)) (fun _ => ?_)
  refine gw_iconst C dL_isTraverse_106 ?_
  refine gw_goto C (tgt := 111) dL_isTraverse_107 (by decide) ?_
  refine gw_istore C (lo1 := [some (vR 0), some (vR 231), some (vR 232), some (vR 233), some (vR 234), some (vR 235), some (vR 236), some (vR 237), some (vR 238), some (vI (t : Int)), some (vI (-2000000000)), some (vI u), some (vI 1), some (vI 0), some (vI 1), none, none, none, none, none, none, none, none]) dL_isTraverse_111 (by decide) rfl ?_
  refine gw_aload_n C 1 dL_isTraverse_113 rfl rfl ?_
  refine gw_aload_n C 3 dL_isTraverse_114 rfl rfl ?_
  refine gw_aload C dL_isTraverse_115 rfl ?_
  refine gw_aload C dL_isTraverse_117 rfl ?_
  refine gw_aload C dL_isTraverse_119 rfl ?_
  refine gw_aload C dL_isTraverse_121 rfl ?_
  refine gw_iload C dL_isTraverse_123 rfl ?_
  refine gw_callSb C (as := [vR 231, vR 233, vR 234, vR 235, vR 236, vR 237, vI (t : Int)]) (st := []) (c_L_whole hl0 G I J hR ho t (by omega)) dL_isTraverse_125 kL_212 qL_whole hdL_whole ⟨Nat.le_of_ble_eq_true rfl, Nat.le_of_ble_eq_true rfl⟩ ⟨(show _ ≤ 89 from by omega), (show _ ≤ 534 from by omega)⟩ (Nat.le_of_ble_eq_true rfl) rfl (fun h_125_7 z_125_7 => ?_) (fun h_125_7 z_125_7 => ?_)
  · skip
    refine gw_istore C (lo1 := [some (vR 0), some (vR 231), some (vR 232), some (vR 233), some (vR 234), some (vR 235), some (vR 236), some (vR 237), some (vR 238), some (vI (t : Int)), some (vI (-2000000000)), some (vI u), some (vI 1), some (vI 0), some (vI 1), some (vI 1), none, none, none, none, none, none, none]) dL_isTraverse_128 (by decide) rfl ?_
    refine gw_iload C dL_isTraverse_130 rfl ?_
    refine gw_bipush C dL_isTraverse_132 rfl ?_
    refine gw_icmp_ne C (tgt := 147) dL_isTraverse_134 (by decide) ⟨by decide, by decide⟩ ⟨by decide, by decide⟩ (fun _ => ?_) (fun h => absurd h (by decide))
    refine gw_aload C dL_isTraverse_147 rfl ?_
    refine gw_iconst C dL_isTraverse_149 ?_
    refine gw_iload C dL_isTraverse_150 rfl ?_
    refine gw_imul C dL_isTraverse_152 ?_
    refine gw_iconst C dL_isTraverse_153 ?_
    refine gw_iadd C dL_isTraverse_154 ?_
    refine gw_iald C ((4 * t) + 2) dL_isTraverse_155 xs_236 xn_236 (by omega) (by omega) (by decide) (fun hI_155_5 => ?_)
    rw [show (I 236 ((4 * t) + 2)) = (((S (104 + 28 * t)).toNat : Nat) : Int) from by have e9 := lr_h2 (I := I) (t := t) (by omega); rw [hR] at e9; omega] at hI_155_5 ⊢
    refine gw_istore C (lo1 := [some (vR 0), some (vR 231), some (vR 232), some (vR 233), some (vR 234), some (vR 235), some (vR 236), some (vR 237), some (vR 238), some (vI (t : Int)), some (vI (-2000000000)), some (vI u), some (vI 1), some (vI 0), some (vI 1), some (vI 1), some (vI (((S (104 + 28 * t)).toNat : Nat) : Int)), none, none, none, none, none, none]) dL_isTraverse_156 (by decide) rfl ?_
    refine gw_iload C dL_isTraverse_158 rfl ?_
    refine gw_bipush C dL_isTraverse_160 rfl ?_
    refine gw_icmp_eq C (tgt := 172) dL_isTraverse_162 (by decide) ⟨by decide, by decide⟩ ⟨by decide, by decide⟩ (fun h => absurd h (by decide)) (fun _ => ?_)
    refine gw_iload C dL_isTraverse_165 rfl ?_
    refine gw_bipush C dL_isTraverse_167 rfl ?_
    refine gw_icmp_ne C (tgt := 186) dL_isTraverse_169 (by decide) ⟨by decide, by decide⟩ ⟨by decide, by decide⟩ (fun _ => ?_) (fun h => absurd h (by decide))
    refine gw_iload C dL_isTraverse_186 rfl ?_
    refine gw_istore C (lo1 := [some (vR 0), some (vR 231), some (vR 232), some (vR 233), some (vR 234), some (vR 235), some (vR 236), some (vR 237), some (vR 238), some (vI (t : Int)), some (vI (-2000000000)), some (vI u), some (vI 1), some (vI 0), some (vI 1), some (vI 1), some (vI (((S (104 + 28 * t)).toNat : Nat) : Int)), some (vI (-2000000000)), none, none, none, none, none]) dL_isTraverse_188 (by decide) rfl ?_
    refine gw_iload C dL_isTraverse_190 rfl ?_
    refine gw_iconst C dL_isTraverse_192 ?_
    refine gw_icmp_ne C (tgt := 210) dL_isTraverse_193 (by decide) ⟨by decide, by decide⟩ ⟨by decide, by decide⟩ (fun _ => ?_) (fun h => absurd h (by decide))
    refine gw_iload C dL_isTraverse_210 rfl ?_
    refine gw_istore C (lo1 := [some (vR 0), some (vR 231), some (vR 232), some (vR 233), some (vR 234), some (vR 235), some (vR 236), some (vR 237), some (vR 238), some (vI (t : Int)), some (vI (-2000000000)), some (vI u), some (vI 1), some (vI 0), some (vI 1), some (vI 1), some (vI (((S (104 + 28 * t)).toNat : Nat) : Int)), some (vI (-2000000000)), some (vI (-2000000000)), none, none, none, none]) dL_isTraverse_212 (by decide) rfl ?_
    refine gw_iload C dL_isTraverse_214 rfl ?_
    refine gw_if_eq C (tgt := 397) dL_isTraverse_216 (by decide) ⟨by decide, by decide⟩ (fun h => absurd h (by decide)) (fun _ => ?_)
    refine gw_aload_n C 0 dL_isTraverse_219 rfl rfl ?_
    refine gw_iload C dL_isTraverse_220 rfl ?_
    refine gw_aload C dL_isTraverse_222 rfl ?_
    refine gw_iconst C dL_isTraverse_224 ?_
    refine gw_iload C dL_isTraverse_225 rfl ?_
    refine gw_imul C dL_isTraverse_227 ?_
    refine gw_iconst C dL_isTraverse_228 ?_
    refine gw_iadd C dL_isTraverse_229 ?_
    refine gw_iald C ((4 * t) + 1) dL_isTraverse_230 xs_236 xn_236 (by omega) (by omega) (by decide) (fun hI_230_10 => ?_)
    rw [show (I 236 ((4 * t) + 1)) = (((S (103 + 28 * t)).toNat : Nat) : Int) from by have e9 := lr_h1 (I := I) (t := t) (by omega); rw [hR] at e9; omega] at hI_230_10 ⊢
    refine gw_iconst C dL_isTraverse_231 ?_
    refine gw_callSHm C (as := [vR 0, vI (t : Int), vI (((S (103 + 28 * t)).toNat : Nat) : Int), vI 0]) (st := []) (c_L_legOf hl0 G I J hCI (t : Int) (((S (103 + 28 * t)).toNat : Nat) : Int) 0 (by first | omega | assumption | exact hgi _ _) hI_230_10 ⟨by decide, by decide⟩) dL_isTraverse_232 kL_205 qL_legOf hdL_legOf ⟨Nat.le_of_ble_eq_true rfl, Nat.le_of_ble_eq_true rfl⟩ ⟨(show _ ≤ 89 from by omega), (show _ ≤ 534 from by omega)⟩ (Nat.le_of_ble_eq_true rfl) rfl (fun z_232_10 => ?_)
    rw [show cdV (kLeg S (t : Int) (((S (103 + 28 * t)).toNat : Nat) : Int) 0) (rLeg S (t : Int).toNat (((S (103 + 28 * t)).toNat : Nat) : Int).toNat 0) (-2000001) (-2000002) 0 = (-2000001) from w_lg1 (by rw [show ((t : Nat) : Int).toNat = t from rfl]; omega)]
    refine gw_ldc C (x := (-2000001)) dL_isTraverse_235 kL_29 (by decide) ?_
    refine gw_icmp_ne C (tgt := 397) dL_isTraverse_237 (by decide) ⟨by decide, by decide⟩ ⟨by decide, by decide⟩ (fun h => absurd h (by decide)) (fun _ => ?_)
    refine gw_aload_n C 0 dL_isTraverse_240 rfl rfl ?_
    refine gw_iload C dL_isTraverse_241 rfl ?_
    refine gw_iconst C dL_isTraverse_243 ?_
    refine gw_callSHm C (as := [vR 0, vI (t : Int), vI 0]) (st := []) (c_L_traverseOf hl0 G I J hCI (t : Int) 0 (by first | omega | assumption | exact hgi _ _) ⟨by decide, by decide⟩) dL_isTraverse_244 kL_216 qL_traverseOf hdL_traverseOf ⟨Nat.le_of_ble_eq_true rfl, Nat.le_of_ble_eq_true rfl⟩ ⟨(show _ ≤ 89 from by omega), (show _ ≤ 534 from by omega)⟩ (Nat.le_of_ble_eq_true rfl) rfl (fun z_244_10 => ?_)
    rw [show cdV (kTrav S (t : Int) 0) (rTrav S (t : Int).toNat 0) (-2000001) (-2000002) 0 = (((S (102 + 28 * t)).toNat : Nat) : Int) from (w_tr htt (by decide)).trans (by show S (102 + 28 * t) = _; omega)]
    refine gw_aload C dL_isTraverse_247 rfl ?_
    refine gw_iconst C dL_isTraverse_249 ?_
    refine gw_iload C dL_isTraverse_250 rfl ?_
    refine gw_imul C dL_isTraverse_252 ?_
    refine gw_iald C (4 * t) dL_isTraverse_253 xs_236 xn_236 (by omega) (by omega) (by decide) (fun hI_253_10 => ?_)
    rw [show (I 236 (4 * t)) = (((S (102 + 28 * t)).toNat : Nat) : Int) from by have e9 := lr_h0 (I := I) (t := t) (by omega); rw [hR] at e9; omega] at hI_253_10 ⊢
    refine gw_icmp_ne C (tgt := 397) dL_isTraverse_254 (by decide) (by first | omega | assumption | exact hgi _ _) hI_253_10 (fun h => absurd h (by exact fun q => q rfl)) (fun _ => ?_)
    refine gw_aload_n C 0 dL_isTraverse_257 rfl rfl ?_
    refine gw_iload C dL_isTraverse_258 rfl ?_
    refine gw_iconst C dL_isTraverse_260 ?_
    refine gw_callSHm C (as := [vR 0, vI (t : Int), vI 1]) (st := []) (c_L_traverseOf hl0 G I J hCI (t : Int) 1 (by first | omega | assumption | exact hgi _ _) ⟨by decide, by decide⟩) dL_isTraverse_261 kL_216 qL_traverseOf hdL_traverseOf ⟨Nat.le_of_ble_eq_true rfl, Nat.le_of_ble_eq_true rfl⟩ ⟨(show _ ≤ 89 from by omega), (show _ ≤ 534 from by omega)⟩ (Nat.le_of_ble_eq_true rfl) rfl (fun z_261_10 => ?_)
    rw [show cdV (kTrav S (t : Int) 1) (rTrav S (t : Int).toNat 1) (-2000001) (-2000002) 0 = (((S (103 + 28 * t)).toNat : Nat) : Int) from (w_tr htt (by decide)).trans (by show S (103 + 28 * t) = _; omega)]
    refine gw_aload C dL_isTraverse_264 rfl ?_
    refine gw_iconst C dL_isTraverse_266 ?_
    refine gw_iload C dL_isTraverse_267 rfl ?_
    refine gw_imul C dL_isTraverse_269 ?_
    refine gw_iconst C dL_isTraverse_270 ?_
    refine gw_iadd C dL_isTraverse_271 ?_
    refine gw_iald C ((4 * t) + 1) dL_isTraverse_272 xs_236 xn_236 (by omega) (by omega) (by decide) (fun hI_272_10 => ?_)
    rw [show (I 236 ((4 * t) + 1)) = (((S (103 + 28 * t)).toNat : Nat) : Int) from by have e9 := lr_h1 (I := I) (t := t) (by omega); rw [hR] at e9; omega] at hI_272_10 ⊢
    refine gw_icmp_ne C (tgt := 397) dL_isTraverse_273 (by decide) (by first | omega | assumption | exact hgi _ _) hI_272_10 (fun h => absurd h (by exact fun q => q rfl)) (fun _ => ?_)
    refine gw_aload_n C 0 dL_isTraverse_276 rfl rfl ?_
    refine gw_iload C dL_isTraverse_277 rfl ?_
    refine gw_iconst C dL_isTraverse_279 ?_
    refine gw_callSHm C (as := [vR 0, vI (t : Int), vI 2]) (st := []) (c_L_traverseOf hl0 G I J hCI (t : Int) 2 (by first | omega | assumption | exact hgi _ _) ⟨by decide, by decide⟩) dL_isTraverse_280 kL_216 qL_traverseOf hdL_traverseOf ⟨Nat.le_of_ble_eq_true rfl, Nat.le_of_ble_eq_true rfl⟩ ⟨(show _ ≤ 89 from by omega), (show _ ≤ 534 from by omega)⟩ (Nat.le_of_ble_eq_true rfl) rfl (fun z_280_10 => ?_)
    rw [show cdV (kTrav S (t : Int) 2) (rTrav S (t : Int).toNat 2) (-2000001) (-2000002) 0 = (S (104 + 28 * t)) from (w_tr htt (by decide)).trans (rTr_2.1 hcl).1]
    refine gw_iload C dL_isTraverse_283 rfl ?_
    refine gw_if_eq C (tgt := 300) dL_isTraverse_285 (by decide) ⟨by decide, by decide⟩ (fun h => absurd h (by decide)) (fun _ => ?_)
    refine gw_aload C dL_isTraverse_288 rfl ?_
    refine gw_iconst C dL_isTraverse_290 ?_
    refine gw_iload C dL_isTraverse_291 rfl ?_
    refine gw_imul C dL_isTraverse_293 ?_
    refine gw_iconst C dL_isTraverse_294 ?_
    refine gw_iadd C dL_isTraverse_295 ?_
    refine gw_iald C ((4 * t) + 2) dL_isTraverse_296 xs_236 xn_236 (by omega) (by omega) (by decide) (fun hI_296_6 => ?_)
    rw [show (I 236 ((4 * t) + 2)) = (S (104 + 28 * t)) from by have e9 := lr_h2 (I := I) (t := t) (by omega); rw [hR] at e9; exact e9] at hI_296_6 ⊢
    refine gw_goto C (tgt := 302) dL_isTraverse_297 (by decide) ?_
    refine gw_icmp_ne C (tgt := 397) dL_isTraverse_302 (by decide) (by first | omega | assumption | exact hgi _ _) hI_296_6 (fun h => absurd h (by exact fun q => q rfl)) (fun _ => ?_)
    refine gw_aload_n C 0 dL_isTraverse_305 rfl rfl ?_
    refine gw_iload C dL_isTraverse_306 rfl ?_
    refine gw_iconst C dL_isTraverse_308 ?_
    refine gw_callSHm C (as := [vR 0, vI (t : Int), vI 3]) (st := []) (c_L_traverseOf hl0 G I J hCI (t : Int) 3 (by first | omega | assumption | exact hgi _ _) ⟨by decide, by decide⟩) dL_isTraverse_309 kL_216 qL_traverseOf hdL_traverseOf ⟨Nat.le_of_ble_eq_true rfl, Nat.le_of_ble_eq_true rfl⟩ ⟨(show _ ≤ 89 from by omega), (show _ ≤ 534 from by omega)⟩ (Nat.le_of_ble_eq_true rfl) rfl (fun z_309_10 => ?_)
    rw [show cdV (kTrav S (t : Int) 3) (rTrav S (t : Int).toNat 3) (-2000001) (-2000002) 0 = (S (105 + 28 * t)) from (w_tr htt (by decide)).trans (rTr_2.1 hcl).2]
    refine gw_iload C dL_isTraverse_312 rfl ?_
    refine gw_if_eq C (tgt := 329) dL_isTraverse_314 (by decide) ⟨by decide, by decide⟩ (fun h => absurd h (by decide)) (fun _ => ?_)
    refine gw_aload C dL_isTraverse_317 rfl ?_
    refine gw_iconst C dL_isTraverse_319 ?_
    refine gw_iload C dL_isTraverse_320 rfl ?_
    refine gw_imul C dL_isTraverse_322 ?_
    refine gw_iconst C dL_isTraverse_323 ?_
    refine gw_iadd C dL_isTraverse_324 ?_
    refine gw_iald C ((4 * t) + 3) dL_isTraverse_325 xs_236 xn_236 (by omega) (by omega) (by decide) (fun hI_325_6 => ?_)
    rw [show (I 236 ((4 * t) + 3)) = (S (105 + 28 * t)) from by have e9 := lr_h3 (I := I) (t := t) (by omega); rw [hR] at e9; exact e9] at hI_325_6 ⊢
    refine gw_goto C (tgt := 331) dL_isTraverse_326 (by decide) ?_
    refine gw_icmp_ne C (tgt := 397) dL_isTraverse_331 (by decide) (by first | omega | assumption | exact hgi _ _) hI_325_6 (fun h => absurd h (by exact fun q => q rfl)) (fun _ => ?_)
    refine gw_aload_n C 0 dL_isTraverse_334 rfl rfl ?_
    refine gw_iload C dL_isTraverse_335 rfl ?_
    refine gw_iconst C dL_isTraverse_337 ?_
    refine gw_callSHm C (as := [vR 0, vI (t : Int), vI 4]) (st := []) (c_L_traverseOf hl0 G I J hCI (t : Int) 4 (by first | omega | assumption | exact hgi _ _) ⟨by decide, by decide⟩) dL_isTraverse_338 kL_216 qL_traverseOf hdL_traverseOf ⟨Nat.le_of_ble_eq_true rfl, Nat.le_of_ble_eq_true rfl⟩ ⟨(show _ ≤ 89 from by omega), (show _ ≤ 534 from by omega)⟩ (Nat.le_of_ble_eq_true rfl) rfl (fun z_338_10 => ?_)
    rw [show cdV (kTrav S (t : Int) 4) (rTrav S (t : Int).toNat 4) (-2000001) (-2000002) 0 = 0 from (w_tr htt (by decide)).trans hT]
    refine gw_iload C dL_isTraverse_341 rfl ?_
    refine gw_icmp_ne C (tgt := 397) dL_isTraverse_343 (by decide) ⟨by decide, by decide⟩ ⟨by decide, by decide⟩ (fun h => absurd h (by decide)) (fun _ => ?_)
    refine gw_aload_n C 0 dL_isTraverse_346 rfl rfl ?_
    refine gw_iload C dL_isTraverse_347 rfl ?_
    refine gw_iconst C dL_isTraverse_349 ?_
    refine gw_callSHm C (as := [vR 0, vI (t : Int), vI 5]) (st := []) (c_L_traverseOf hl0 G I J hCI (t : Int) 5 (by first | omega | assumption | exact hgi _ _) ⟨by decide, by decide⟩) dL_isTraverse_350 kL_216 qL_traverseOf hdL_traverseOf ⟨Nat.le_of_ble_eq_true rfl, Nat.le_of_ble_eq_true rfl⟩ ⟨(show _ ≤ 89 from by omega), (show _ ≤ 534 from by omega)⟩ (Nat.le_of_ble_eq_true rfl) rfl (fun z_350_10 => ?_)
    rw [show cdV (kTrav S (t : Int) 5) (rTrav S (t : Int).toNat 5) (-2000001) (-2000002) 0 = (sG S t) from (w_tr htt (by decide)).trans (rTr_w hwh).1]
    refine gw_iload C dL_isTraverse_353 rfl ?_
    refine gw_if_eq C (tgt := 375) dL_isTraverse_355 (by decide) ⟨by decide, by decide⟩ (fun h => absurd h (by decide)) (fun _ => ?_)
    refine gw_aload_n C 3 dL_isTraverse_358 rfl rfl ?_
    refine gw_aload C dL_isTraverse_359 rfl ?_
    refine gw_aload C dL_isTraverse_361 rfl ?_
    refine gw_aload C dL_isTraverse_363 rfl ?_
    refine gw_aload C dL_isTraverse_365 rfl ?_
    refine gw_iload C dL_isTraverse_367 rfl ?_
    refine gw_callSm C (as := [vR 233, vR 234, vR 235, vR 236, vR 237, vI (t : Int)]) (st := [vI (sG S t)]) (c_L_gap hl0 G I J hR ho t (by omega) (by omega)) dL_isTraverse_369 kL_108 qL_gap hdL_gap ⟨Nat.le_of_ble_eq_true rfl, Nat.le_of_ble_eq_true rfl⟩ ⟨(show _ ≤ 89 from by omega), (show _ ≤ 534 from by omega)⟩ (Nat.le_of_ble_eq_true rfl) rfl (fun z_369_2 => ?_)
    have hr_369_2 := sG_b S t
    refine gw_goto C (tgt := 377) dL_isTraverse_372 (by decide) ?_
    refine gw_icmp_ne C (tgt := 397) dL_isTraverse_377 (by decide) (by first | omega | assumption | exact hgi _ _) (by first | omega | assumption | exact hgi _ _) (fun h => absurd h (by exact fun q => q rfl)) (fun _ => ?_)
    refine gw_aload_n C 0 dL_isTraverse_380 rfl rfl ?_
    refine gw_iload C dL_isTraverse_381 rfl ?_
    refine gw_bipush C dL_isTraverse_383 rfl ?_
    refine gw_callSHm C (as := [vR 0, vI (t : Int), vI 6]) (st := []) (c_L_traverseOf hl0 G I J hCI (t : Int) 6 (by first | omega | assumption | exact hgi _ _) ⟨by decide, by decide⟩) dL_isTraverse_385 kL_216 qL_traverseOf hdL_traverseOf ⟨Nat.le_of_ble_eq_true rfl, Nat.le_of_ble_eq_true rfl⟩ ⟨(show _ ≤ 89 from by omega), (show _ ≤ 534 from by omega)⟩ (Nat.le_of_ble_eq_true rfl) rfl (fun z_385_10 => ?_)
    rw [show cdV (kTrav S (t : Int) 6) (rTrav S (t : Int).toNat 6) (-2000001) (-2000002) 0 = u from (w_tr htt (by decide)).trans (by show smF (S (103 + 28 * t)).toNat (sLe S t) = u; rw [hu, show (S (103 + 28 * t)).toNat = k by omega])]
    refine gw_iload C dL_isTraverse_388 rfl ?_
    refine gw_icmp_ne C (tgt := 397) dL_isTraverse_390 (by decide) (by first | omega | assumption | exact hgi _ _) (by first | omega | assumption | exact hgi _ _) (fun h => absurd h (by exact fun q => q rfl)) (fun _ => ?_)
    refine gw_iconst C dL_isTraverse_393 ?_
    refine gw_goto C (tgt := 398) dL_isTraverse_394 (by decide) ?_
    refine gw_istore C (lo1 := [some (vR 0), some (vR 231), some (vR 232), some (vR 233), some (vR 234), some (vR 235), some (vR 236), some (vR 237), some (vR 238), some (vI (t : Int)), some (vI (-2000000000)), some (vI u), some (vI 1), some (vI 0), some (vI 1), some (vI 1), some (vI (((S (104 + 28 * t)).toNat : Nat) : Int)), some (vI (-2000000000)), some (vI (-2000000000)), none, none, none, none]) dL_isTraverse_398 (by decide) rfl ?_
    refine gw_iload C dL_isTraverse_400 rfl ?_
    refine gw_if_eq C (tgt := 427) dL_isTraverse_402 (by decide) ⟨by decide, by decide⟩ (fun h => absurd h (by decide)) (fun _ => ?_)
    refine gw_aload_n C 2 dL_isTraverse_405 rfl rfl ?_
    refine gw_aload_n C 3 dL_isTraverse_406 rfl rfl ?_
    refine gw_aload C dL_isTraverse_407 rfl ?_
    refine gw_aload C dL_isTraverse_409 rfl ?_
    refine gw_aload C dL_isTraverse_411 rfl ?_
    refine gw_aload C dL_isTraverse_413 rfl ?_
    refine gw_aload C dL_isTraverse_415 rfl ?_
    refine gw_iload C dL_isTraverse_417 rfl ?_
    refine gw_iconst C dL_isTraverse_419 ?_
    refine gw_callSm C (as := [vR 232, vR 233, vR 234, vR 235, vR 236, vR 237, vR 238, vI (t : Int), vI 0]) (st := []) (c_L_miss0 hl0 G I J hR ho t (by omega) (by omega)) dL_isTraverse_420 kL_219 qL_miss hdL_miss ⟨Nat.le_of_ble_eq_true rfl, Nat.le_of_ble_eq_true rfl⟩ ⟨(show _ ≤ 89 from by omega), (show _ ≤ 534 from by omega)⟩ (Nat.le_of_ble_eq_true rfl) rfl (fun z_420_2 => ?_)
    have hr_420_2 := sME_b ho (t := t) (by omega) (by omega)
    refine gw_i2l C dL_isTraverse_423 (by first | omega | assumption | exact hgi _ _) ?_
    refine gw_goto C (tgt := 430) dL_isTraverse_424 (by decide) ?_
    refine gw_lstore C (lo1 := [some (vR 0), some (vR 231), some (vR 232), some (vR 233), some (vR 234), some (vR 235), some (vR 236), some (vR 237), some (vR 238), some (vI (t : Int)), some (vI (-2000000000)), some (vI u), some (vI 1), some (vI 0), some (vI 1), some (vI 1), some (vI (((S (104 + 28 * t)).toNat : Nat) : Int)), some (vI (-2000000000)), some (vI (-2000000000)), some (vL (sME S t)), none, none, none]) dL_isTraverse_430 (by decide) rfl ?_
    refine gw_iload C dL_isTraverse_432 rfl ?_
    refine gw_if_eq C (tgt := 459) dL_isTraverse_434 (by decide) ⟨by decide, by decide⟩ (fun h => absurd h (by decide)) (fun _ => ?_)
    refine gw_aload_n C 2 dL_isTraverse_437 rfl rfl ?_
    refine gw_aload_n C 3 dL_isTraverse_438 rfl rfl ?_
    refine gw_aload C dL_isTraverse_439 rfl ?_
    refine gw_aload C dL_isTraverse_441 rfl ?_
    refine gw_aload C dL_isTraverse_443 rfl ?_
    refine gw_aload C dL_isTraverse_445 rfl ?_
    refine gw_aload C dL_isTraverse_447 rfl ?_
    refine gw_iload C dL_isTraverse_449 rfl ?_
    refine gw_iconst C dL_isTraverse_451 ?_
    refine gw_callSm C (as := [vR 232, vR 233, vR 234, vR 235, vR 236, vR 237, vR 238, vI (t : Int), vI 1]) (st := []) (c_L_miss1 hl0 G I J hR ho t (by omega) (by omega)) dL_isTraverse_452 kL_219 qL_miss hdL_miss ⟨Nat.le_of_ble_eq_true rfl, Nat.le_of_ble_eq_true rfl⟩ ⟨(show _ ≤ 89 from by omega), (show _ ≤ 534 from by omega)⟩ (Nat.le_of_ble_eq_true rfl) rfl (fun z_452_2 => ?_)
    have hr_452_2 := sME_b ho (t := t) (by omega) (by omega)
    refine gw_i2l C dL_isTraverse_455 (by first | omega | assumption | exact hgi _ _) ?_
    refine gw_goto C (tgt := 462) dL_isTraverse_456 (by decide) ?_
    refine gw_lstore C (lo1 := [some (vR 0), some (vR 231), some (vR 232), some (vR 233), some (vR 234), some (vR 235), some (vR 236), some (vR 237), some (vR 238), some (vI (t : Int)), some (vI (-2000000000)), some (vI u), some (vI 1), some (vI 0), some (vI 1), some (vI 1), some (vI (((S (104 + 28 * t)).toNat : Nat) : Int)), some (vI (-2000000000)), some (vI (-2000000000)), some (vL (sME S t)), none, some (vL (sMN S t)), none]) dL_isTraverse_462 (by decide) rfl ?_
    refine gw_iload C dL_isTraverse_464 rfl ?_
    refine gw_if_eq C (tgt := 551) dL_isTraverse_466 (by decide) ⟨by decide, by decide⟩ (fun h => absurd h (by decide)) (fun _ => ?_)
    refine gw_aload_n C 0 dL_isTraverse_469 rfl rfl ?_
    refine gw_iload C dL_isTraverse_470 rfl ?_
    refine gw_bipush C dL_isTraverse_472 rfl ?_
    refine gw_callSHm C (as := [vR 0, vI (t : Int), vI 7]) (st := []) (c_L_traverseOf hl0 G I J hCI (t : Int) 7 (by first | omega | assumption | exact hgi _ _) ⟨by decide, by decide⟩) dL_isTraverse_474 kL_216 qL_traverseOf hdL_traverseOf ⟨Nat.le_of_ble_eq_true rfl, Nat.le_of_ble_eq_true rfl⟩ ⟨(show _ ≤ 89 from by omega), (show _ ≤ 534 from by omega)⟩ (Nat.le_of_ble_eq_true rfl) rfl (fun z_474_10 => ?_)
    rw [show cdV (kTrav S (t : Int) 7) (rTrav S (t : Int).toNat 7) (-2000001) (-2000002) 0 = (sME S t) from (w_tr htt (by decide)).trans (rTr_w hwh).2.1]
    refine gw_i2l C dL_isTraverse_477 (by first | omega | assumption | exact hgi _ _) ?_
    refine gw_lload C dL_isTraverse_478 rfl ?_
    refine gw_lcmpE C dL_isTraverse_480 (by rfl) ?_
    refine gw_if_ne C (tgt := 551) dL_isTraverse_481 (by decide) ⟨by decide, by decide⟩ (fun h => absurd h (by decide)) (fun _ => ?_)
    refine gw_aload_n C 0 dL_isTraverse_484 rfl rfl ?_
    refine gw_iload C dL_isTraverse_485 rfl ?_
    refine gw_bipush C dL_isTraverse_487 rfl ?_
    refine gw_callSHm C (as := [vR 0, vI (t : Int), vI 8]) (st := []) (c_L_traverseOf hl0 G I J hCI (t : Int) 8 (by first | omega | assumption | exact hgi _ _) ⟨by decide, by decide⟩) dL_isTraverse_489 kL_216 qL_traverseOf hdL_traverseOf ⟨Nat.le_of_ble_eq_true rfl, Nat.le_of_ble_eq_true rfl⟩ ⟨(show _ ≤ 89 from by omega), (show _ ≤ 534 from by omega)⟩ (Nat.le_of_ble_eq_true rfl) rfl (fun z_489_10 => ?_)
    rw [show cdV (kTrav S (t : Int) 8) (rTrav S (t : Int).toNat 8) (-2000001) (-2000002) 0 = (sMN S t) from (w_tr htt (by decide)).trans (rTr_w hwh).2.2.1]
    refine gw_i2l C dL_isTraverse_492 (by first | omega | assumption | exact hgi _ _) ?_
    refine gw_lload C dL_isTraverse_493 rfl ?_
    refine gw_lcmpE C dL_isTraverse_495 (by rfl) ?_
    refine gw_if_ne C (tgt := 551) dL_isTraverse_496 (by decide) ⟨by decide, by decide⟩ (fun h => absurd h (by decide)) (fun _ => ?_)
    refine gw_aload_n C 0 dL_isTraverse_499 rfl rfl ?_
    refine gw_iload C dL_isTraverse_500 rfl ?_
    refine gw_bipush C dL_isTraverse_502 rfl ?_
    refine gw_callSHm C (as := [vR 0, vI (t : Int), vI 9]) (st := []) (c_L_traverseOf hl0 G I J hCI (t : Int) 9 (by first | omega | assumption | exact hgi _ _) ⟨by decide, by decide⟩) dL_isTraverse_504 kL_216 qL_traverseOf hdL_traverseOf ⟨Nat.le_of_ble_eq_true rfl, Nat.le_of_ble_eq_true rfl⟩ ⟨(show _ ≤ 89 from by omega), (show _ ≤ 534 from by omega)⟩ (Nat.le_of_ble_eq_true rfl) rfl (fun z_504_10 => ?_)
    rw [show cdV (kTrav S (t : Int) 9) (rTrav S (t : Int).toNat 9) (-2000001) (-2000002) 0 = (rootZ (sME S t * sME S t + sMN S t * sMN S t)) from (w_tr htt (by decide)).trans (rTr_w hwh).2.2.2]
    refine gw_iload C dL_isTraverse_507 rfl ?_
    refine gw_if_eq C (tgt := 529) dL_isTraverse_509 (by decide) ⟨by decide, by decide⟩ (fun h => absurd h (by decide)) (fun _ => ?_)
    refine gw_lload C dL_isTraverse_512 rfl ?_
    refine gw_lload C dL_isTraverse_514 rfl ?_
    refine gw_lmul C dL_isTraverse_516 ?_
    refine gw_lload C dL_isTraverse_517 rfl ?_
    refine gw_lload C dL_isTraverse_519 rfl ?_
    refine gw_lmul C dL_isTraverse_521 ?_
    refine gw_ladd C dL_isTraverse_522 ?_
    have hsq := sq2 (x := sME S t) (y := sMN S t) (by omega) (by omega)
    refine gw_callSm C (as := [vL (((sME S t) * (sME S t)) + ((sMN S t) * (sMN S t)))]) (st := [vI (rootZ (sME S t * sME S t + sMN S t * sMN S t))]) (c_L_root hl0 G (((sME S t) * (sME S t)) + ((sMN S t) * (sMN S t))) (by omega)) dL_isTraverse_523 kL_112 qL_root hdL_root ⟨Nat.le_of_ble_eq_true rfl, Nat.le_of_ble_eq_true rfl⟩ ⟨(show _ ≤ 89 from by omega), (show _ ≤ 534 from by omega)⟩ (Nat.le_of_ble_eq_true rfl) rfl (fun z_523_2 => ?_)
    rw [show (rootZ (((sME S t) * (sME S t)) + ((sMN S t) * (sMN S t)))) = (rootZ (sME S t * sME S t + sMN S t * sMN S t)) from rfl]
    have hr1 := (rootZ_s hsq.1).1
    have hr2 := rootZ_le (m := 100000000) hsq.1 (by decide) (by omega)
    refine gw_goto C (tgt := 531) dL_isTraverse_526 (by decide) ?_
    refine gw_icmp_ne C (tgt := 551) dL_isTraverse_531 (by decide) (by first | omega | assumption | exact hgi _ _) (by first | omega | assumption | exact hgi _ _) (fun h => absurd h (by exact fun q => q rfl)) (fun _ => ?_)
    refine gw_aload_n C 0 dL_isTraverse_534 rfl rfl ?_
    refine gw_iload C dL_isTraverse_535 rfl ?_
    refine gw_bipush C dL_isTraverse_537 rfl ?_
    refine gw_callSHm C (as := [vR 0, vI (t : Int), vI 10]) (st := []) (c_L_traverseOf hl0 G I J hCI (t : Int) 10 (by first | omega | assumption | exact hgi _ _) ⟨by decide, by decide⟩) dL_isTraverse_539 kL_216 qL_traverseOf hdL_traverseOf ⟨Nat.le_of_ble_eq_true rfl, Nat.le_of_ble_eq_true rfl⟩ ⟨(show _ ≤ 89 from by omega), (show _ ≤ 534 from by omega)⟩ (Nat.le_of_ble_eq_true rfl) rfl (fun z_539_10 => ?_)
    rw [show cdV (kTrav S (t : Int) 10) (rTrav S (t : Int).toNat 10) (-2000001) (-2000002) 0 = (-2000002) from w_tr2 htt rfl]
    refine gw_ldc C (x := (-2000002)) dL_isTraverse_542 kL_17 (by decide) ?_
    refine gw_icmp_ne C (tgt := 551) dL_isTraverse_544 (by decide) ⟨by decide, by decide⟩ ⟨by decide, by decide⟩ (fun h => absurd h (by decide)) (fun _ => ?_)
    refine gw_iconst C dL_isTraverse_547 ?_
    refine gw_goto C (tgt := 552) dL_isTraverse_548 (by decide) ?_
    refine gw_istore C (lo1 := [some (vR 0), some (vR 231), some (vR 232), some (vR 233), some (vR 234), some (vR 235), some (vR 236), some (vR 237), some (vR 238), some (vI (t : Int)), some (vI (-2000000000)), some (vI u), some (vI 1), some (vI 0), some (vI 1), some (vI 1), some (vI (((S (104 + 28 * t)).toNat : Nat) : Int)), some (vI (-2000000000)), some (vI (-2000000000)), some (vL (sME S t)), none, some (vL (sMN S t)), none]) dL_isTraverse_552 (by decide) rfl ?_
    refine gw_iload C dL_isTraverse_554 rfl ?_
    refine gw_if_eq C (tgt := 633) dL_isTraverse_556 (by decide) ⟨by decide, by decide⟩ (fun h => absurd h (by decide)) (fun _ => ?_)
    refine gw_aload_n C 0 dL_isTraverse_559 rfl rfl ?_
    refine gw_iload C dL_isTraverse_560 rfl ?_
    refine gw_iconst C dL_isTraverse_562 ?_
    refine gw_callSHm C (as := [vR 0, vI (t : Int), vI 0]) (st := []) (c_L_troubleOf hl0 G I J hCI (t : Int) 0 (by first | omega | assumption | exact hgi _ _) ⟨by decide, by decide⟩) dL_isTraverse_563 kL_223 qL_troubleOf hdL_troubleOf ⟨Nat.le_of_ble_eq_true rfl, Nat.le_of_ble_eq_true rfl⟩ ⟨(show _ ≤ 89 from by omega), (show _ ≤ 534 from by omega)⟩ (Nat.le_of_ble_eq_true rfl) rfl (fun z_563_10 => ?_)
    rw [show cdV (kTrb S (t : Int)) (rTrb S (t : Int).toNat 0) (-2000001) 0 0 = (-2000000000) from (w_tb htt).trans (rTrb_z.1 hT)]
    refine gw_iload C dL_isTraverse_566 rfl ?_
    refine gw_if_le C (tgt := 576) dL_isTraverse_568 (by decide) ⟨by decide, by decide⟩ (fun _ => ?_) (fun h => absurd h (by decide))
    refine gw_iload C dL_isTraverse_576 rfl ?_
    refine gw_icmp_ne C (tgt := 633) dL_isTraverse_578 (by decide) ⟨by decide, by decide⟩ ⟨by decide, by decide⟩ (fun h => absurd h (by decide)) (fun _ => ?_)
    refine gw_aload_n C 0 dL_isTraverse_581 rfl rfl ?_
    refine gw_iload C dL_isTraverse_582 rfl ?_
    refine gw_iconst C dL_isTraverse_584 ?_
    refine gw_callSHm C (as := [vR 0, vI (t : Int), vI 1]) (st := []) (c_L_troubleOf hl0 G I J hCI (t : Int) 1 (by first | omega | assumption | exact hgi _ _) ⟨by decide, by decide⟩) dL_isTraverse_585 kL_223 qL_troubleOf hdL_troubleOf ⟨Nat.le_of_ble_eq_true rfl, Nat.le_of_ble_eq_true rfl⟩ ⟨(show _ ≤ 89 from by omega), (show _ ≤ 534 from by omega)⟩ (Nat.le_of_ble_eq_true rfl) rfl (fun z_585_10 => ?_)
    rw [show cdV (kTrb S (t : Int)) (rTrb S (t : Int).toNat 1) (-2000001) 0 0 = (-2000000000) from (w_tb htt).trans (rTrb_o (by omega) (by decide))]
    refine gw_iload C dL_isTraverse_588 rfl ?_
    refine gw_icmp_ne C (tgt := 633) dL_isTraverse_590 (by decide) ⟨by decide, by decide⟩ ⟨by decide, by decide⟩ (fun h => absurd h (by decide)) (fun _ => ?_)
    refine gw_aload_n C 0 dL_isTraverse_593 rfl rfl ?_
    refine gw_iload C dL_isTraverse_594 rfl ?_
    refine gw_iconst C dL_isTraverse_596 ?_
    refine gw_callSHm C (as := [vR 0, vI (t : Int), vI 2]) (st := []) (c_L_troubleOf hl0 G I J hCI (t : Int) 2 (by first | omega | assumption | exact hgi _ _) ⟨by decide, by decide⟩) dL_isTraverse_597 kL_223 qL_troubleOf hdL_troubleOf ⟨Nat.le_of_ble_eq_true rfl, Nat.le_of_ble_eq_true rfl⟩ ⟨(show _ ≤ 89 from by omega), (show _ ≤ 534 from by omega)⟩ (Nat.le_of_ble_eq_true rfl) rfl (fun z_597_10 => ?_)
    rw [show cdV (kTrb S (t : Int)) (rTrb S (t : Int).toNat 2) (-2000001) 0 0 = (-2000000000) from (w_tb htt).trans (rTrb_o (by omega) (by decide))]
    refine gw_iload C dL_isTraverse_600 rfl ?_
    refine gw_icmp_ne C (tgt := 633) dL_isTraverse_602 (by decide) ⟨by decide, by decide⟩ ⟨by decide, by decide⟩ (fun h => absurd h (by decide)) (fun _ => ?_)
    refine gw_aload_n C 0 dL_isTraverse_605 rfl rfl ?_
    refine gw_iload C dL_isTraverse_606 rfl ?_
    refine gw_iconst C dL_isTraverse_608 ?_
    refine gw_callSHm C (as := [vR 0, vI (t : Int), vI 3]) (st := []) (c_L_troubleOf hl0 G I J hCI (t : Int) 3 (by first | omega | assumption | exact hgi _ _) ⟨by decide, by decide⟩) dL_isTraverse_609 kL_223 qL_troubleOf hdL_troubleOf ⟨Nat.le_of_ble_eq_true rfl, Nat.le_of_ble_eq_true rfl⟩ ⟨(show _ ≤ 89 from by omega), (show _ ≤ 534 from by omega)⟩ (Nat.le_of_ble_eq_true rfl) rfl (fun z_609_10 => ?_)
    rw [show cdV (kTrb S (t : Int)) (rTrb S (t : Int).toNat 3) (-2000001) 0 0 = (-2000000000) from (w_tb htt).trans (rTrb_o (by omega) (by decide))]
    refine gw_iload C dL_isTraverse_612 rfl ?_
    refine gw_icmp_ne C (tgt := 633) dL_isTraverse_614 (by decide) ⟨by decide, by decide⟩ ⟨by decide, by decide⟩ (fun h => absurd h (by decide)) (fun _ => ?_)
    refine gw_aload_n C 0 dL_isTraverse_617 rfl rfl ?_
    refine gw_iload C dL_isTraverse_618 rfl ?_
    refine gw_iconst C dL_isTraverse_620 ?_
    refine gw_callSHm C (as := [vR 0, vI (t : Int), vI (-1)]) (st := []) (c_L_troubleOf hl0 G I J hCI (t : Int) (-1) (by first | omega | assumption | exact hgi _ _) ⟨by decide, by decide⟩) dL_isTraverse_621 kL_223 qL_troubleOf hdL_troubleOf ⟨Nat.le_of_ble_eq_true rfl, Nat.le_of_ble_eq_true rfl⟩ ⟨(show _ ≤ 89 from by omega), (show _ ≤ 534 from by omega)⟩ (Nat.le_of_ble_eq_true rfl) rfl (fun z_621_10 => ?_)
    rw [show cdV (kTrb S (t : Int)) (rTrb S (t : Int).toNat (-1)) (-2000001) 0 0 = (-2000000000) from (w_tb htt).trans (rTrb_o (by omega) (by decide))]
    refine gw_iload C dL_isTraverse_624 rfl ?_
    refine gw_icmp_ne C (tgt := 633) dL_isTraverse_626 (by decide) ⟨by decide, by decide⟩ ⟨by decide, by decide⟩ (fun h => absurd h (by decide)) (fun _ => ?_)
    refine gw_iconst C dL_isTraverse_629 ?_
    refine gw_goto C (tgt := 634) dL_isTraverse_630 (by decide) ?_
    exact gw_zret C (by omega) (by omega) dL_isTraverse_634 (Or.inr rfl) (⟨rfl, rfl, rfl⟩)
  · exact absurd True.intro (by exact fun _ => h_125_7 hwh)
