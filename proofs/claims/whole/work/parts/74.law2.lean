theorem frC_q {I K : GI} (h : frC I K) {q : Nat} (hq : 228 ≤ q) : K q = I q := funext (fun f => h q f hq)
theorem xi_ex (x : Int32) : ∃ y : Int, inI y ∧ x = Int32.ofInt y := ⟨x.toInt, by
  have h1 := Int32.toInt_lt x
  have h2 := Int32.le_toInt x
  exact ⟨by omega, by omega⟩, (Int32.ofInt_toInt x).symm⟩
theorem lm_fr {k r : Int} {I J I1 J1 : GI} {S' : Nat → Int} {D' : Nat → Nat → Int} {c' : Nat} (w0 : k = 0 → (CI I1 S' D' c' ∧ frC I I1) ∧ J1 = up J 236 0 r) (w1 : k ≠ 0 → I1 = I ∧ J1 = J) : frC I I1 := by
  by_cases h : k = 0
  · exact (w0 h).1.2
  · rw [(w1 h).1]; exact frC_refl I
theorem i32_m {S : Nat → Int} {t u : Nat} : i32 (rMeets S t u) = rMeets S t u := by
  unfold rMeets
  split <;> decide +kernel
set_option maxHeartbeats 4000000 in
set_option maxRecDepth 100000 in
theorem law_set {l : Launch} (hl0 : l.stackTraces = false) {G : GG} {p : Program} {e : Env} {s : State} {m : MethodId} {args : Array Value} {below : List Frame} {meth : Method} {c : Code} {Q : State → Prop} {nm9 : String} (C : gC G p l s m args meth c cL_law 7 RL (some .boolean) nm9) {b L : Nat} {xs : Nat → Int32} (hX : va_X b L xs s s.heap) (hb : b < G.1) (hL : L ≤ 3584) {i : Nat} (hi : i + 7 ≤ L) {k1 k2 : Nat} (hk1 : k1 + 1 ≤ 601024) (hk2 : k2 + 6 ≤ 7293034) {z : Nat} {I J : GI} (hLI : LI I)
    (kk : ∀ (z2 : Nat) (I2 J2 : GI) (a1 a2 : Nat), a1 ≤ k1 + 1 → a2 ≤ k2 + 6 → LI I2 → GW G p l e room_1 s m args below meth c 7 z2 N0 SH RR I2 J2 a1 a2 Q 1965 [some (vA b), some (vR 0), some (vR 231), some (vR 236), some (vI (i : Int)), none, none] []) :
    GW G p l e room_1 s m args below meth c 7 z N0 SH RR I J k1 k2 Q 172 [some (vA b), some (vR 0), some (vR 231), some (vR 236), some (vI (i : Int)), none, none] [] := by
  obtain ⟨x1, hx1, ex1⟩ := xi_ex (xs (i + 1))
  obtain ⟨x2, hx2, ex2⟩ := xi_ex (xs (i + 2))
  have hLI9 := hLI
  obtain ⟨⟨D9, hCI, hD⟩, hz, ⟨hp, h30⟩, hs⟩ := hLI9
  have ho := hCI.1.1.2.1
  have hkb : inI (kSet x1 x2) := by unfold kSet; (repeat' split) <;> exact ⟨by decide, by decide⟩
  refine gw_aload_n C 1 dL_law_172 rfl rfl ?_
  refine gw_aloadA_n C 0 dL_law_173 rfl rfl ?_
  refine gw_iload C dL_law_174 rfl ?_
  refine gw_iconst C dL_law_176 ?_
  refine gw_iadd C dL_law_177 ?_
  refine gw_ialdX C hX hb (x := x1) (i + 1) (by omega) (by omega) (by omega) ex1 dL_law_178 ?_
  refine gw_aloadA_n C 0 dL_law_179 rfl rfl ?_
  refine gw_iload C dL_law_180 rfl ?_
  refine gw_iconst C dL_law_182 ?_
  refine gw_iadd C dL_law_183 ?_
  refine gw_ialdX C hX hb (x := x2) (i + 2) (by omega) (by omega) (by omega) ex2 dL_law_184 ?_
  refine gw_aload_n C 3 dL_law_185 rfl rfl ?_
  refine gw_callSH C (as := [vR 0, vI x1, vI x2, vR 236]) (st := []) (c_L_set hl0 G I J hCI x1 x2 hx1 hx2) dL_law_186 kL_104 qL_set hdL_set ⟨Nat.le_of_ble_eq_true rfl, Nat.le_of_ble_eq_true rfl⟩ ⟨(show _ ≤ 601024 from by omega), (show _ ≤ 7293034 from by omega)⟩ (Nat.le_of_ble_eq_true rfl) rfl (fun _ _ _ _ h => h.elim) ?_
  intro v9 z9 I1 J1 hv9
  obtain ⟨ev, w0, w1⟩ := hv9
  rw [ev]
  have hf := lm_fr w0 w1
  have e32 : I1 232 = I 232 := frC_q hf (by decide)
  have e31 : I1 231 = I 231 := frC_q hf (by decide)
  show GW G p l e room_1 s m args below meth c 7 z9 N0 SH RR I1 J1 (k1 + 1) (k2 + 6) Q 189 [some (vA b), some (vR 0), some (vR 231), some (vR 236), some (vI (i : Int)), none, none] [vI (kSet x1 x2)]
  refine gw_istore C (lo1 := [some (vA b), some (vR 0), some (vR 231), some (vR 236), some (vI (i : Int)), some (vI (kSet x1 x2)), none]) dL_law_189 (by decide) rfl ?_
  refine gw_aload_n C 2 dL_law_191 rfl rfl ?_
  refine gw_aloadA_n C 0 dL_law_192 rfl rfl ?_
  refine gw_iload C dL_law_193 rfl ?_
  refine gw_iconst C dL_law_195 ?_
  refine gw_iadd C dL_law_196 ?_
  refine gw_ialdX C hX hb (x := x1) (i + 1) (by omega) (by omega) (by omega) ex1 dL_law_197 ?_
  refine gw_aloadA_n C 0 dL_law_198 rfl rfl ?_
  refine gw_iload C dL_law_199 rfl ?_
  refine gw_iconst C dL_law_201 ?_
  refine gw_iadd C dL_law_202 ?_
  refine gw_ialdX C hX hb (x := x2) (i + 2) (by omega) (by omega) (by omega) ex2 dL_law_203 ?_
  refine gw_callV C (as := [vI x1, vI x2]) (st := []) (ci := 7) (T0 := TX8) (N := 10) (c_X8_set hl0 G I1 J1 (by rw [e32]; exact ho) (by rw [e31]; exact hp) (by rw [e31]; omega) x1 x2 hx1 hx2) dL_law_204 kL_109 qX8_set hdX8_set ⟨Nat.le_of_ble_eq_true rfl, Nat.le_of_ble_eq_true rfl⟩ ⟨(show _ ≤ 601024 from by omega), (show _ ≤ 7293034 from by omega)⟩ (Nat.le_of_ble_eq_true rfl) rfl xs_231 xn_231 rfl (fun _ _ _ _ h => h.elim) ?_
  intro v8 z8 I2 J2 hv8
  rw [e32] at hv8
  obtain ⟨ev8, ⟨t6, n6, m6⟩, eJ8⟩ := hv8
  rw [ev8, eJ8]
  refine gw_norm ?_
  show GW G p l e room_1 s m args below meth c 7 z8 N0 SH RR I2 J1 (k1 + 1) (k2 + 6) Q 207 [some (vA b), some (vR 0), some (vR 231), some (vR 236), some (vI (i : Int)), some (vI (kSet x1 x2)), none] [vI (i32 (if kSet x1 x2 = 0 then ((I 232) x1.toNat) else 0))]
  refine gw_istore C (lo1 := [some (vA b), some (vR 0), some (vR 231), some (vR 236), some (vI (i : Int)), some (vI (kSet x1 x2)), some (vI (i32 (if kSet x1 x2 = 0 then ((I 232) x1.toNat) else 0)))]) dL_law_207 (by decide) rfl ?_
  refine gw_aload_n C 2 dL_law_209 rfl rfl ?_
  refine gw_callVm C (as := []) (st := []) (ci := 7) (T0 := TX8) (N := 10) (c_X8_thrown hl0 G I2 J1) dL_law_210 kL_110 qX8_thrown hdX8_thrown ⟨Nat.le_of_ble_eq_true rfl, Nat.le_of_ble_eq_true rfl⟩ ⟨(show _ ≤ 601024 from by omega), (show _ ≤ 7293034 from by omega)⟩ (Nat.le_of_ble_eq_true rfl) rfl xs_231 xn_231 rfl (fun z_210 => ?_)
  rw [t6]
  refine gw_iload C dL_law_213 rfl ?_
  refine gw_icmp_eq C (tgt := 220) dL_law_215 (by decide) hkb hkb (fun _ => ?_) (fun h => absurd h (by exact fun q => q rfl))
  refine gw_iload C dL_law_220 rfl ?_
  refine gw_if_ne C (tgt := 237) dL_law_222 (by decide) hkb (fun h_222 => ?_) (fun h_222 => ?_)
  · skip
    have hne := h_222
    refine gw_goto C (tgt := 1965) dL_law_237 (by decide) ?_
    exact gw_weak (lo' := [some (vA b), some (vR 0), some (vR 231), some (vR 236), some (vI (i : Int)), none, none]) ⟨rfl, rfl, rfl, rfl, rfl, trivial⟩ (kk _ _ _ _ _ (by omega) (by omega) (li_fr hLI (fun q f _ h9 => by rw [n6 hne q f (by omega), (w1 hne).1])))
  · skip
    have hne : (kSet x1 x2) = 0 := h_222
    refine gw_aload_n C 3 dL_law_225 rfl rfl ?_
    refine gw_iconst C dL_law_226 ?_
    refine gw_lald C 0 dL_law_227 xs_236 xn_236 (by omega) (by omega) (by decide) ?_
    refine gw_iload C dL_law_228 rfl ?_
    refine gw_i2l C dL_law_230 (i32_in _) ?_
    refine gw_lcmpE C dL_law_231 (by rw [(w0 hne).2, up_eq, if_pos hne]) ?_
    refine gw_if_eq C (tgt := 237) dL_law_232 (by decide) ⟨by decide, by decide⟩ (fun _ => ?_) (fun h => absurd h (by decide))
    refine gw_goto C (tgt := 1965) dL_law_237 (by decide) ?_
    exact gw_weak (lo' := [some (vA b), some (vR 0), some (vR 231), some (vR 236), some (vI (i : Int)), none, none]) ⟨rfl, rfl, rfl, rfl, rfl, trivial⟩ (kk _ _ _ _ _ (by omega) (by omega) (li_mut hLI hD (w0 hne).1 (m6 hne) (fun q hq => z_set ho hne hq)))
set_option maxHeartbeats 4000000 in
set_option maxRecDepth 100000 in
theorem law_hang {l : Launch} (hl0 : l.stackTraces = false) {G : GG} {p : Program} {e : Env} {s : State} {m : MethodId} {args : Array Value} {below : List Frame} {meth : Method} {c : Code} {Q : State → Prop} {nm9 : String} (C : gC G p l s m args meth c cL_law 7 RL (some .boolean) nm9) {b L : Nat} {xs : Nat → Int32} (hX : va_X b L xs s s.heap) (hb : b < G.1) (hL : L ≤ 3584) {i : Nat} (hi : i + 7 ≤ L) {k1 k2 : Nat} (hk1 : k1 + 1 ≤ 601024) (hk2 : k2 + 6 ≤ 7293034) {z : Nat} {I J : GI} (hLI : LI I)
    (kk : ∀ (z2 : Nat) (I2 J2 : GI) (a1 a2 : Nat), a1 ≤ k1 + 1 → a2 ≤ k2 + 6 → LI I2 → GW G p l e room_1 s m args below meth c 7 z2 N0 SH RR I2 J2 a1 a2 Q 1965 [some (vA b), some (vR 0), some (vR 231), some (vR 236), some (vI (i : Int)), none, none] []) :
    GW G p l e room_1 s m args below meth c 7 z N0 SH RR I J k1 k2 Q 296 [some (vA b), some (vR 0), some (vR 231), some (vR 236), some (vI (i : Int)), none, none] [] := by
  obtain ⟨x1, hx1, ex1⟩ := xi_ex (xs (i + 1))
  obtain ⟨x2, hx2, ex2⟩ := xi_ex (xs (i + 2))
  have hLI9 := hLI
  obtain ⟨⟨D9, hCI, hD⟩, hz, ⟨hp, h30⟩, hs⟩ := hLI9
  have ho := hCI.1.1.2.1
  have hkb : inI (kHang (I 232) x1 x2) := by unfold kHang; (repeat' split) <;> exact ⟨by decide, by decide⟩
  refine gw_aload_n C 1 dL_law_296 rfl rfl ?_
  refine gw_aloadA_n C 0 dL_law_297 rfl rfl ?_
  refine gw_iload C dL_law_298 rfl ?_
  refine gw_iconst C dL_law_300 ?_
  refine gw_iadd C dL_law_301 ?_
  refine gw_ialdX C hX hb (x := x1) (i + 1) (by omega) (by omega) (by omega) ex1 dL_law_302 ?_
  refine gw_aloadA_n C 0 dL_law_303 rfl rfl ?_
  refine gw_iload C dL_law_304 rfl ?_
  refine gw_iconst C dL_law_306 ?_
  refine gw_iadd C dL_law_307 ?_
  refine gw_ialdX C hX hb (x := x2) (i + 2) (by omega) (by omega) (by omega) ex2 dL_law_308 ?_
  refine gw_aload_n C 3 dL_law_309 rfl rfl ?_
  refine gw_callSH C (as := [vR 0, vI x1, vI x2, vR 236]) (st := []) (c_L_hang hl0 G I J hCI x1 x2 hx1 hx2) dL_law_310 kL_117 qL_hang hdL_hang ⟨Nat.le_of_ble_eq_true rfl, Nat.le_of_ble_eq_true rfl⟩ ⟨(show _ ≤ 601024 from by omega), (show _ ≤ 7293034 from by omega)⟩ (Nat.le_of_ble_eq_true rfl) rfl (fun _ _ _ _ h => h.elim) ?_
  intro v9 z9 I1 J1 hv9
  obtain ⟨ev, w0, w1⟩ := hv9
  rw [ev]
  have hf := lm_fr w0 w1
  have e32 : I1 232 = I 232 := frC_q hf (by decide)
  have e31 : I1 231 = I 231 := frC_q hf (by decide)
  show GW G p l e room_1 s m args below meth c 7 z9 N0 SH RR I1 J1 (k1 + 1) (k2 + 6) Q 313 [some (vA b), some (vR 0), some (vR 231), some (vR 236), some (vI (i : Int)), none, none] [vI (kHang (I 232) x1 x2)]
  refine gw_istore C (lo1 := [some (vA b), some (vR 0), some (vR 231), some (vR 236), some (vI (i : Int)), some (vI (kHang (I 232) x1 x2)), none]) dL_law_313 (by decide) rfl ?_
  refine gw_aload_n C 2 dL_law_315 rfl rfl ?_
  refine gw_aloadA_n C 0 dL_law_316 rfl rfl ?_
  refine gw_iload C dL_law_317 rfl ?_
  refine gw_iconst C dL_law_319 ?_
  refine gw_iadd C dL_law_320 ?_
  refine gw_ialdX C hX hb (x := x1) (i + 1) (by omega) (by omega) (by omega) ex1 dL_law_321 ?_
  refine gw_aloadA_n C 0 dL_law_322 rfl rfl ?_
  refine gw_iload C dL_law_323 rfl ?_
  refine gw_iconst C dL_law_325 ?_
  refine gw_iadd C dL_law_326 ?_
  refine gw_ialdX C hX hb (x := x2) (i + 2) (by omega) (by omega) (by omega) ex2 dL_law_327 ?_
  refine gw_callV C (as := [vI x1, vI x2]) (st := []) (ci := 7) (T0 := TX8) (N := 10) (c_X8_hang hl0 G I1 J1 (by rw [e32]; exact ho) (by rw [e31]; exact hp) (by rw [e31]; omega) x1 x2 hx1 hx2) dL_law_328 kL_119 qX8_hang hdX8_hang ⟨Nat.le_of_ble_eq_true rfl, Nat.le_of_ble_eq_true rfl⟩ ⟨(show _ ≤ 601024 from by omega), (show _ ≤ 7293034 from by omega)⟩ (Nat.le_of_ble_eq_true rfl) rfl xs_231 xn_231 rfl (fun _ _ _ _ h => h.elim) ?_
  intro v8 z8 I2 J2 hv8
  rw [e32] at hv8
  obtain ⟨ev8, ⟨t6, n6, m6⟩, eJ8⟩ := hv8
  rw [ev8, eJ8]
  refine gw_norm ?_
  show GW G p l e room_1 s m args below meth c 7 z8 N0 SH RR I2 J1 (k1 + 1) (k2 + 6) Q 331 [some (vA b), some (vR 0), some (vR 231), some (vR 236), some (vI (i : Int)), some (vI (kHang (I 232) x1 x2)), none] [vI (i32 (if kHang (I 232) x1 x2 = 0 then ((I 232) 3) else 0))]
  refine gw_istore C (lo1 := [some (vA b), some (vR 0), some (vR 231), some (vR 236), some (vI (i : Int)), some (vI (kHang (I 232) x1 x2)), some (vI (i32 (if kHang (I 232) x1 x2 = 0 then ((I 232) 3) else 0)))]) dL_law_331 (by decide) rfl ?_
  refine gw_aload_n C 2 dL_law_333 rfl rfl ?_
  refine gw_callVm C (as := []) (st := []) (ci := 7) (T0 := TX8) (N := 10) (c_X8_thrown hl0 G I2 J1) dL_law_334 kL_110 qX8_thrown hdX8_thrown ⟨Nat.le_of_ble_eq_true rfl, Nat.le_of_ble_eq_true rfl⟩ ⟨(show _ ≤ 601024 from by omega), (show _ ≤ 7293034 from by omega)⟩ (Nat.le_of_ble_eq_true rfl) rfl xs_231 xn_231 rfl (fun z_334 => ?_)
  rw [t6]
  refine gw_iload C dL_law_337 rfl ?_
  refine gw_icmp_eq C (tgt := 344) dL_law_339 (by decide) hkb hkb (fun _ => ?_) (fun h => absurd h (by exact fun q => q rfl))
  refine gw_iload C dL_law_344 rfl ?_
  refine gw_if_ne C (tgt := 361) dL_law_346 (by decide) hkb (fun h_346 => ?_) (fun h_346 => ?_)
  · skip
    have hne := h_346
    refine gw_goto C (tgt := 1965) dL_law_361 (by decide) ?_
    exact gw_weak (lo' := [some (vA b), some (vR 0), some (vR 231), some (vR 236), some (vI (i : Int)), none, none]) ⟨rfl, rfl, rfl, rfl, rfl, trivial⟩ (kk _ _ _ _ _ (by omega) (by omega) (li_fr hLI (fun q f _ h9 => by rw [n6 hne q f (by omega), (w1 hne).1])))
  · skip
    have hne : (kHang (I 232) x1 x2) = 0 := h_346
    refine gw_aload_n C 3 dL_law_349 rfl rfl ?_
    refine gw_iconst C dL_law_350 ?_
    refine gw_lald C 0 dL_law_351 xs_236 xn_236 (by omega) (by omega) (by decide) ?_
    refine gw_iload C dL_law_352 rfl ?_
    refine gw_i2l C dL_law_354 (i32_in _) ?_
    refine gw_lcmpE C dL_law_355 (by rw [(w0 hne).2, up_eq, if_pos hne]) ?_
    refine gw_if_eq C (tgt := 361) dL_law_356 (by decide) ⟨by decide, by decide⟩ (fun _ => ?_) (fun h => absurd h (by decide))
    refine gw_goto C (tgt := 1965) dL_law_361 (by decide) ?_
    exact gw_weak (lo' := [some (vA b), some (vR 0), some (vR 231), some (vR 236), some (vI (i : Int)), none, none]) ⟨rfl, rfl, rfl, rfl, rfl, trivial⟩ (kk _ _ _ _ _ (by omega) (by omega) (li_mut hLI hD (w0 hne).1 (m6 hne) (fun q hq => z_hang ho hne hq)))
set_option maxHeartbeats 4000000 in
set_option maxRecDepth 100000 in
theorem law_swing {l : Launch} (hl0 : l.stackTraces = false) {G : GG} {p : Program} {e : Env} {s : State} {m : MethodId} {args : Array Value} {below : List Frame} {meth : Method} {c : Code} {Q : State → Prop} {nm9 : String} (C : gC G p l s m args meth c cL_law 7 RL (some .boolean) nm9) {b L : Nat} {xs : Nat → Int32} (hX : va_X b L xs s s.heap) (hb : b < G.1) (hL : L ≤ 3584) {i : Nat} (hi : i + 7 ≤ L) {k1 k2 : Nat} (hk1 : k1 + 1 ≤ 601024) (hk2 : k2 + 6 ≤ 7293034) {z : Nat} {I J : GI} (hLI : LI I)
    (kk : ∀ (z2 : Nat) (I2 J2 : GI) (a1 a2 : Nat), a1 ≤ k1 + 1 → a2 ≤ k2 + 6 → LI I2 → GW G p l e room_1 s m args below meth c 7 z2 N0 SH RR I2 J2 a1 a2 Q 1965 [some (vA b), some (vR 0), some (vR 231), some (vR 236), some (vI (i : Int)), none, none] []) :
    GW G p l e room_1 s m args below meth c 7 z N0 SH RR I J k1 k2 Q 364 [some (vA b), some (vR 0), some (vR 231), some (vR 236), some (vI (i : Int)), none, none] [] := by
  obtain ⟨x1, hx1, ex1⟩ := xi_ex (xs (i + 1))
  obtain ⟨x2, hx2, ex2⟩ := xi_ex (xs (i + 2))
  have hLI9 := hLI
  obtain ⟨⟨D9, hCI, hD⟩, hz, ⟨hp, h30⟩, hs⟩ := hLI9
  have ho := hCI.1.1.2.1
  have hkb : inI (rfT (I 232) x1 x2) := by unfold rfT; (repeat' split) <;> exact ⟨by decide, by decide⟩
  refine gw_aload_n C 1 dL_law_364 rfl rfl ?_
  refine gw_aloadA_n C 0 dL_law_365 rfl rfl ?_
  refine gw_iload C dL_law_366 rfl ?_
  refine gw_iconst C dL_law_368 ?_
  refine gw_iadd C dL_law_369 ?_
  refine gw_ialdX C hX hb (x := x1) (i + 1) (by omega) (by omega) (by omega) ex1 dL_law_370 ?_
  refine gw_aloadA_n C 0 dL_law_371 rfl rfl ?_
  refine gw_iload C dL_law_372 rfl ?_
  refine gw_iconst C dL_law_374 ?_
  refine gw_iadd C dL_law_375 ?_
  refine gw_ialdX C hX hb (x := x2) (i + 2) (by omega) (by omega) (by omega) ex2 dL_law_376 ?_
  refine gw_aload_n C 3 dL_law_377 rfl rfl ?_
  refine gw_callSH C (as := [vR 0, vI x1, vI x2, vR 236]) (st := []) (c_L_swing hl0 G I J hCI x1 x2 hx1 hx2) dL_law_378 kL_120 qL_swing hdL_swing ⟨Nat.le_of_ble_eq_true rfl, Nat.le_of_ble_eq_true rfl⟩ ⟨(show _ ≤ 601024 from by omega), (show _ ≤ 7293034 from by omega)⟩ (Nat.le_of_ble_eq_true rfl) rfl (fun _ _ _ _ h => h.elim) ?_
  intro v9 z9 I1 J1 hv9
  obtain ⟨ev, w0, w1⟩ := hv9
  rw [ev]
  have hf := lm_fr w0 w1
  have e32 : I1 232 = I 232 := frC_q hf (by decide)
  have e31 : I1 231 = I 231 := frC_q hf (by decide)
  show GW G p l e room_1 s m args below meth c 7 z9 N0 SH RR I1 J1 (k1 + 1) (k2 + 6) Q 381 [some (vA b), some (vR 0), some (vR 231), some (vR 236), some (vI (i : Int)), none, none] [vI (rfT (I 232) x1 x2)]
  refine gw_istore C (lo1 := [some (vA b), some (vR 0), some (vR 231), some (vR 236), some (vI (i : Int)), some (vI (rfT (I 232) x1 x2)), none]) dL_law_381 (by decide) rfl ?_
  refine gw_aload_n C 2 dL_law_383 rfl rfl ?_
  refine gw_aloadA_n C 0 dL_law_384 rfl rfl ?_
  refine gw_iload C dL_law_385 rfl ?_
  refine gw_iconst C dL_law_387 ?_
  refine gw_iadd C dL_law_388 ?_
  refine gw_ialdX C hX hb (x := x1) (i + 1) (by omega) (by omega) (by omega) ex1 dL_law_389 ?_
  refine gw_aloadA_n C 0 dL_law_390 rfl rfl ?_
  refine gw_iload C dL_law_391 rfl ?_
  refine gw_iconst C dL_law_393 ?_
  refine gw_iadd C dL_law_394 ?_
  refine gw_ialdX C hX hb (x := x2) (i + 2) (by omega) (by omega) (by omega) ex2 dL_law_395 ?_
  refine gw_callV C (as := [vI x1, vI x2]) (st := []) (ci := 7) (T0 := TX8) (N := 10) (c_X8_swing hl0 G I1 J1 (by rw [e32]; exact ho) (by rw [e31]; exact hp) (by rw [e31]; omega) x1 x2 hx1 hx2) dL_law_396 kL_122 qX8_swing hdX8_swing ⟨Nat.le_of_ble_eq_true rfl, Nat.le_of_ble_eq_true rfl⟩ ⟨(show _ ≤ 601024 from by omega), (show _ ≤ 7293034 from by omega)⟩ (Nat.le_of_ble_eq_true rfl) rfl xs_231 xn_231 rfl (fun _ _ _ _ h => h.elim) ?_
  intro v8 z8 I2 J2 hv8
  rw [e32] at hv8
  obtain ⟨ev8, ⟨t6, n6, m6⟩, eJ8⟩ := hv8
  rw [ev8, eJ8]
  refine gw_norm ?_
  show GW G p l e room_1 s m args below meth c 7 z8 N0 SH RR I2 J1 (k1 + 1) (k2 + 6) Q 399 [some (vA b), some (vR 0), some (vR 231), some (vR 236), some (vI (i : Int)), some (vI (rfT (I 232) x1 x2)), none] [vI (i32 (if rfT (I 232) x1 x2 = 0 then ((I 232) (8 + 12 * x1.toNat) + 1) else 0))]
  refine gw_istore C (lo1 := [some (vA b), some (vR 0), some (vR 231), some (vR 236), some (vI (i : Int)), some (vI (rfT (I 232) x1 x2)), some (vI (i32 (if rfT (I 232) x1 x2 = 0 then ((I 232) (8 + 12 * x1.toNat) + 1) else 0)))]) dL_law_399 (by decide) rfl ?_
  refine gw_aload_n C 2 dL_law_401 rfl rfl ?_
  refine gw_callVm C (as := []) (st := []) (ci := 7) (T0 := TX8) (N := 10) (c_X8_thrown hl0 G I2 J1) dL_law_402 kL_110 qX8_thrown hdX8_thrown ⟨Nat.le_of_ble_eq_true rfl, Nat.le_of_ble_eq_true rfl⟩ ⟨(show _ ≤ 601024 from by omega), (show _ ≤ 7293034 from by omega)⟩ (Nat.le_of_ble_eq_true rfl) rfl xs_231 xn_231 rfl (fun z_402 => ?_)
  rw [t6]
  refine gw_iload C dL_law_405 rfl ?_
  refine gw_icmp_eq C (tgt := 412) dL_law_407 (by decide) hkb hkb (fun _ => ?_) (fun h => absurd h (by exact fun q => q rfl))
  refine gw_iload C dL_law_412 rfl ?_
  refine gw_if_ne C (tgt := 429) dL_law_414 (by decide) hkb (fun h_414 => ?_) (fun h_414 => ?_)
  · skip
    have hne := h_414
    refine gw_goto C (tgt := 1965) dL_law_429 (by decide) ?_
    exact gw_weak (lo' := [some (vA b), some (vR 0), some (vR 231), some (vR 236), some (vI (i : Int)), none, none]) ⟨rfl, rfl, rfl, rfl, rfl, trivial⟩ (kk _ _ _ _ _ (by omega) (by omega) (li_fr hLI (fun q f _ h9 => by rw [n6 hne q f (by omega), (w1 hne).1])))
  · skip
    have hne : (rfT (I 232) x1 x2) = 0 := h_414
    refine gw_aload_n C 3 dL_law_417 rfl rfl ?_
    refine gw_iconst C dL_law_418 ?_
    refine gw_lald C 0 dL_law_419 xs_236 xn_236 (by omega) (by omega) (by decide) ?_
    refine gw_iload C dL_law_420 rfl ?_
    refine gw_i2l C dL_law_422 (i32_in _) ?_
    refine gw_lcmpE C dL_law_423 (by rw [(w0 hne).2, up_eq, if_pos hne]) ?_
    refine gw_if_eq C (tgt := 429) dL_law_424 (by decide) ⟨by decide, by decide⟩ (fun _ => ?_) (fun h => absurd h (by decide))
    refine gw_goto C (tgt := 1965) dL_law_429 (by decide) ?_
    exact gw_weak (lo' := [some (vA b), some (vR 0), some (vR 231), some (vR 236), some (vI (i : Int)), none, none]) ⟨rfl, rfl, rfl, rfl, rfl, trivial⟩ (kk _ _ _ _ _ (by omega) (by omega) (li_mut hLI hD (w0 hne).1 (m6 hne) (fun q hq => z_swing ho hne hq)))
set_option maxHeartbeats 4000000 in
set_option maxRecDepth 100000 in
theorem law_still {l : Launch} (hl0 : l.stackTraces = false) {G : GG} {p : Program} {e : Env} {s : State} {m : MethodId} {args : Array Value} {below : List Frame} {meth : Method} {c : Code} {Q : State → Prop} {nm9 : String} (C : gC G p l s m args meth c cL_law 7 RL (some .boolean) nm9) {b L : Nat} {xs : Nat → Int32} (hX : va_X b L xs s s.heap) (hb : b < G.1) (hL : L ≤ 3584) {i : Nat} (hi : i + 7 ≤ L) {k1 k2 : Nat} (hk1 : k1 + 1 ≤ 601024) (hk2 : k2 + 6 ≤ 7293034) {z : Nat} {I J : GI} (hLI : LI I)
    (kk : ∀ (z2 : Nat) (I2 J2 : GI) (a1 a2 : Nat), a1 ≤ k1 + 1 → a2 ≤ k2 + 6 → LI I2 → GW G p l e room_1 s m args below meth c 7 z2 N0 SH RR I2 J2 a1 a2 Q 1965 [some (vA b), some (vR 0), some (vR 231), some (vR 236), some (vI (i : Int)), none, none] []) :
    GW G p l e room_1 s m args below meth c 7 z N0 SH RR I J k1 k2 Q 432 [some (vA b), some (vR 0), some (vR 231), some (vR 236), some (vI (i : Int)), none, none] [] := by
  obtain ⟨x1, hx1, ex1⟩ := xi_ex (xs (i + 1))
  have hLI9 := hLI
  obtain ⟨⟨D9, hCI, hD⟩, hz, ⟨hp, h30⟩, hs⟩ := hLI9
  have ho := hCI.1.1.2.1
  have hkb : inI (kStill (I 232) x1) := by unfold kStill; (repeat' split) <;> exact ⟨by decide, by decide⟩
  refine gw_aload_n C 1 dL_law_432 rfl rfl ?_
  refine gw_aloadA_n C 0 dL_law_433 rfl rfl ?_
  refine gw_iload C dL_law_434 rfl ?_
  refine gw_iconst C dL_law_436 ?_
  refine gw_iadd C dL_law_437 ?_
  refine gw_ialdX C hX hb (x := x1) (i + 1) (by omega) (by omega) (by omega) ex1 dL_law_438 ?_
  refine gw_aload_n C 3 dL_law_439 rfl rfl ?_
  refine gw_callSH C (as := [vR 0, vI x1, vR 236]) (st := []) (c_L_still hl0 G I J hCI x1 hx1) dL_law_440 kL_123 qL_still hdL_still ⟨Nat.le_of_ble_eq_true rfl, Nat.le_of_ble_eq_true rfl⟩ ⟨(show _ ≤ 601024 from by omega), (show _ ≤ 7293034 from by omega)⟩ (Nat.le_of_ble_eq_true rfl) rfl (fun _ _ _ _ h => h.elim) ?_
  intro v9 z9 I1 J1 hv9
  obtain ⟨ev, w0, w1⟩ := hv9
  rw [ev]
  have hf := lm_fr w0 w1
  have e32 : I1 232 = I 232 := frC_q hf (by decide)
  have e31 : I1 231 = I 231 := frC_q hf (by decide)
  show GW G p l e room_1 s m args below meth c 7 z9 N0 SH RR I1 J1 (k1 + 1) (k2 + 6) Q 443 [some (vA b), some (vR 0), some (vR 231), some (vR 236), some (vI (i : Int)), none, none] [vI (kStill (I 232) x1)]
  refine gw_istore C (lo1 := [some (vA b), some (vR 0), some (vR 231), some (vR 236), some (vI (i : Int)), some (vI (kStill (I 232) x1)), none]) dL_law_443 (by decide) rfl ?_
  refine gw_aload_n C 2 dL_law_445 rfl rfl ?_
  refine gw_aloadA_n C 0 dL_law_446 rfl rfl ?_
  refine gw_iload C dL_law_447 rfl ?_
  refine gw_iconst C dL_law_449 ?_
  refine gw_iadd C dL_law_450 ?_
  refine gw_ialdX C hX hb (x := x1) (i + 1) (by omega) (by omega) (by omega) ex1 dL_law_451 ?_
  refine gw_callV C (as := [vI x1]) (st := []) (ci := 7) (T0 := TX8) (N := 10) (c_X8_still hl0 G I1 J1 (by rw [e32]; exact ho) (by rw [e31]; exact hp) (by rw [e31]; omega) x1 hx1) dL_law_452 kL_125 qX8_still hdX8_still ⟨Nat.le_of_ble_eq_true rfl, Nat.le_of_ble_eq_true rfl⟩ ⟨(show _ ≤ 601024 from by omega), (show _ ≤ 7293034 from by omega)⟩ (Nat.le_of_ble_eq_true rfl) rfl xs_231 xn_231 rfl (fun _ _ _ _ h => h.elim) ?_
  intro v8 z8 I2 J2 hv8
  rw [e32] at hv8
  obtain ⟨ev8, ⟨t6, n6, m6⟩, eJ8⟩ := hv8
  rw [ev8, eJ8]
  refine gw_norm ?_
  show GW G p l e room_1 s m args below meth c 7 z8 N0 SH RR I2 J1 (k1 + 1) (k2 + 6) Q 455 [some (vA b), some (vR 0), some (vR 231), some (vR 236), some (vI (i : Int)), some (vI (kStill (I 232) x1)), none] [vI (i32 (if kStill (I 232) x1 = 0 then ((I 232) (8 + 12 * x1.toNat)) else 0))]
  refine gw_istore C (lo1 := [some (vA b), some (vR 0), some (vR 231), some (vR 236), some (vI (i : Int)), some (vI (kStill (I 232) x1)), some (vI (i32 (if kStill (I 232) x1 = 0 then ((I 232) (8 + 12 * x1.toNat)) else 0)))]) dL_law_455 (by decide) rfl ?_
  refine gw_aload_n C 2 dL_law_457 rfl rfl ?_
  refine gw_callVm C (as := []) (st := []) (ci := 7) (T0 := TX8) (N := 10) (c_X8_thrown hl0 G I2 J1) dL_law_458 kL_110 qX8_thrown hdX8_thrown ⟨Nat.le_of_ble_eq_true rfl, Nat.le_of_ble_eq_true rfl⟩ ⟨(show _ ≤ 601024 from by omega), (show _ ≤ 7293034 from by omega)⟩ (Nat.le_of_ble_eq_true rfl) rfl xs_231 xn_231 rfl (fun z_458 => ?_)
  rw [t6]
  refine gw_iload C dL_law_461 rfl ?_
  refine gw_icmp_eq C (tgt := 468) dL_law_463 (by decide) hkb hkb (fun _ => ?_) (fun h => absurd h (by exact fun q => q rfl))
  refine gw_iload C dL_law_468 rfl ?_
  refine gw_if_ne C (tgt := 485) dL_law_470 (by decide) hkb (fun h_470 => ?_) (fun h_470 => ?_)
  · skip
    have hne := h_470
    refine gw_goto C (tgt := 1965) dL_law_485 (by decide) ?_
    exact gw_weak (lo' := [some (vA b), some (vR 0), some (vR 231), some (vR 236), some (vI (i : Int)), none, none]) ⟨rfl, rfl, rfl, rfl, rfl, trivial⟩ (kk _ _ _ _ _ (by omega) (by omega) (li_fr hLI (fun q f _ h9 => by rw [n6 hne q f (by omega), (w1 hne).1])))
  · skip
    have hne : (kStill (I 232) x1) = 0 := h_470
    refine gw_aload_n C 3 dL_law_473 rfl rfl ?_
    refine gw_iconst C dL_law_474 ?_
    refine gw_lald C 0 dL_law_475 xs_236 xn_236 (by omega) (by omega) (by decide) ?_
    refine gw_iload C dL_law_476 rfl ?_
    refine gw_i2l C dL_law_478 (i32_in _) ?_
    refine gw_lcmpE C dL_law_479 (by rw [(w0 hne).2, up_eq, if_pos hne]) ?_
    refine gw_if_eq C (tgt := 485) dL_law_480 (by decide) ⟨by decide, by decide⟩ (fun _ => ?_) (fun h => absurd h (by decide))
    refine gw_goto C (tgt := 1965) dL_law_485 (by decide) ?_
    exact gw_weak (lo' := [some (vA b), some (vR 0), some (vR 231), some (vR 236), some (vI (i : Int)), none, none]) ⟨rfl, rfl, rfl, rfl, rfl, trivial⟩ (kk _ _ _ _ _ (by omega) (by omega) (li_mut hLI hD (w0 hne).1 (m6 hne) (fun q hq => z_still ho hne hq)))
set_option maxHeartbeats 4000000 in
set_option maxRecDepth 100000 in
theorem law_join {l : Launch} (hl0 : l.stackTraces = false) {G : GG} {p : Program} {e : Env} {s : State} {m : MethodId} {args : Array Value} {below : List Frame} {meth : Method} {c : Code} {Q : State → Prop} {nm9 : String} (C : gC G p l s m args meth c cL_law 7 RL (some .boolean) nm9) {b L : Nat} {xs : Nat → Int32} (hX : va_X b L xs s s.heap) (hb : b < G.1) (hL : L ≤ 3584) {i : Nat} (hi : i + 7 ≤ L) {k1 k2 : Nat} (hk1 : k1 + 1 ≤ 601024) (hk2 : k2 + 6 ≤ 7293034) {z : Nat} {I J : GI} (hLI : LI I)
    (kk : ∀ (z2 : Nat) (I2 J2 : GI) (a1 a2 : Nat), a1 ≤ k1 + 1 → a2 ≤ k2 + 6 → LI I2 → GW G p l e room_1 s m args below meth c 7 z2 N0 SH RR I2 J2 a1 a2 Q 1965 [some (vA b), some (vR 0), some (vR 231), some (vR 236), some (vI (i : Int)), none, none] []) :
    GW G p l e room_1 s m args below meth c 7 z N0 SH RR I J k1 k2 Q 556 [some (vA b), some (vR 0), some (vR 231), some (vR 236), some (vI (i : Int)), none, none] [] := by
  obtain ⟨x1, hx1, ex1⟩ := xi_ex (xs (i + 1))
  obtain ⟨x2, hx2, ex2⟩ := xi_ex (xs (i + 2))
  obtain ⟨x3, hx3, ex3⟩ := xi_ex (xs (i + 3))
  obtain ⟨x4, hx4, ex4⟩ := xi_ex (xs (i + 4))
  obtain ⟨x5, hx5, ex5⟩ := xi_ex (xs (i + 5))
  obtain ⟨x6, hx6, ex6⟩ := xi_ex (xs (i + 6))
  have hLI9 := hLI
  obtain ⟨⟨D9, hCI, hD⟩, hz, ⟨hp, h30⟩, hs⟩ := hLI9
  have ho := hCI.1.1.2.1
  have hkb : inI (kJoin (I 232) x1 x2 x3 x4 x5 x6) := by unfold kJoin; (repeat' split) <;> exact ⟨by decide, by decide⟩
  refine gw_aload_n C 1 dL_law_556 rfl rfl ?_
  refine gw_aloadA_n C 0 dL_law_557 rfl rfl ?_
  refine gw_iload C dL_law_558 rfl ?_
  refine gw_iconst C dL_law_560 ?_
  refine gw_iadd C dL_law_561 ?_
  refine gw_ialdX C hX hb (x := x1) (i + 1) (by omega) (by omega) (by omega) ex1 dL_law_562 ?_
  refine gw_aloadA_n C 0 dL_law_563 rfl rfl ?_
  refine gw_iload C dL_law_564 rfl ?_
  refine gw_iconst C dL_law_566 ?_
  refine gw_iadd C dL_law_567 ?_
  refine gw_ialdX C hX hb (x := x2) (i + 2) (by omega) (by omega) (by omega) ex2 dL_law_568 ?_
  refine gw_aloadA_n C 0 dL_law_569 rfl rfl ?_
  refine gw_iload C dL_law_570 rfl ?_
  refine gw_iconst C dL_law_572 ?_
  refine gw_iadd C dL_law_573 ?_
  refine gw_ialdX C hX hb (x := x3) (i + 3) (by omega) (by omega) (by omega) ex3 dL_law_574 ?_
  refine gw_aloadA_n C 0 dL_law_575 rfl rfl ?_
  refine gw_iload C dL_law_576 rfl ?_
  refine gw_iconst C dL_law_578 ?_
  refine gw_iadd C dL_law_579 ?_
  refine gw_ialdX C hX hb (x := x4) (i + 4) (by omega) (by omega) (by omega) ex4 dL_law_580 ?_
  refine gw_aloadA_n C 0 dL_law_581 rfl rfl ?_
  refine gw_iload C dL_law_582 rfl ?_
  refine gw_iconst C dL_law_584 ?_
  refine gw_iadd C dL_law_585 ?_
  refine gw_ialdX C hX hb (x := x5) (i + 5) (by omega) (by omega) (by omega) ex5 dL_law_586 ?_
  refine gw_aloadA_n C 0 dL_law_587 rfl rfl ?_
  refine gw_iload C dL_law_588 rfl ?_
  refine gw_bipush C dL_law_590 rfl ?_
  refine gw_iadd C dL_law_592 ?_
  refine gw_ialdX C hX hb (x := x6) (i + 6) (by omega) (by omega) (by omega) ex6 dL_law_593 ?_
  refine gw_aload_n C 3 dL_law_594 rfl rfl ?_
  refine gw_callSH C (as := [vR 0, vI x1, vI x2, vI x3, vI x4, vI x5, vI x6, vR 236]) (st := []) (c_L_join hl0 G I J hCI x1 x2 x3 x4 x5 x6 hx1 hx2 hx3 hx4 hx5 hx6) dL_law_595 kL_129 qL_join hdL_join ⟨Nat.le_of_ble_eq_true rfl, Nat.le_of_ble_eq_true rfl⟩ ⟨(show _ ≤ 601024 from by omega), (show _ ≤ 7293034 from by omega)⟩ (Nat.le_of_ble_eq_true rfl) rfl (fun _ _ _ _ h => h.elim) ?_
  intro v9 z9 I1 J1 hv9
  obtain ⟨ev, w0, w1⟩ := hv9
  rw [ev]
  have hf := lm_fr w0 w1
  have e32 : I1 232 = I 232 := frC_q hf (by decide)
  have e31 : I1 231 = I 231 := frC_q hf (by decide)
  show GW G p l e room_1 s m args below meth c 7 z9 N0 SH RR I1 J1 (k1 + 1) (k2 + 6) Q 598 [some (vA b), some (vR 0), some (vR 231), some (vR 236), some (vI (i : Int)), none, none] [vI (kJoin (I 232) x1 x2 x3 x4 x5 x6)]
  refine gw_istore C (lo1 := [some (vA b), some (vR 0), some (vR 231), some (vR 236), some (vI (i : Int)), some (vI (kJoin (I 232) x1 x2 x3 x4 x5 x6)), none]) dL_law_598 (by decide) rfl ?_
  refine gw_aload_n C 2 dL_law_600 rfl rfl ?_
  refine gw_aloadA_n C 0 dL_law_601 rfl rfl ?_
  refine gw_iload C dL_law_602 rfl ?_
  refine gw_iconst C dL_law_604 ?_
  refine gw_iadd C dL_law_605 ?_
  refine gw_ialdX C hX hb (x := x1) (i + 1) (by omega) (by omega) (by omega) ex1 dL_law_606 ?_
  refine gw_aloadA_n C 0 dL_law_607 rfl rfl ?_
  refine gw_iload C dL_law_608 rfl ?_
  refine gw_iconst C dL_law_610 ?_
  refine gw_iadd C dL_law_611 ?_
  refine gw_ialdX C hX hb (x := x2) (i + 2) (by omega) (by omega) (by omega) ex2 dL_law_612 ?_
  refine gw_aloadA_n C 0 dL_law_613 rfl rfl ?_
  refine gw_iload C dL_law_614 rfl ?_
  refine gw_iconst C dL_law_616 ?_
  refine gw_iadd C dL_law_617 ?_
  refine gw_ialdX C hX hb (x := x3) (i + 3) (by omega) (by omega) (by omega) ex3 dL_law_618 ?_
  refine gw_aloadA_n C 0 dL_law_619 rfl rfl ?_
  refine gw_iload C dL_law_620 rfl ?_
  refine gw_iconst C dL_law_622 ?_
  refine gw_iadd C dL_law_623 ?_
  refine gw_ialdX C hX hb (x := x4) (i + 4) (by omega) (by omega) (by omega) ex4 dL_law_624 ?_
  refine gw_aloadA_n C 0 dL_law_625 rfl rfl ?_
  refine gw_iload C dL_law_626 rfl ?_
  refine gw_iconst C dL_law_628 ?_
  refine gw_iadd C dL_law_629 ?_
  refine gw_ialdX C hX hb (x := x5) (i + 5) (by omega) (by omega) (by omega) ex5 dL_law_630 ?_
  refine gw_aloadA_n C 0 dL_law_631 rfl rfl ?_
  refine gw_iload C dL_law_632 rfl ?_
  refine gw_bipush C dL_law_634 rfl ?_
  refine gw_iadd C dL_law_636 ?_
  refine gw_ialdX C hX hb (x := x6) (i + 6) (by omega) (by omega) (by omega) ex6 dL_law_637 ?_
  refine gw_callV C (as := [vI x1, vI x2, vI x3, vI x4, vI x5, vI x6]) (st := []) (ci := 7) (T0 := TX8) (N := 10) (c_X8_join hl0 G I1 J1 (by rw [e32]; exact ho) (by rw [e31]; exact hp) (by rw [e31]; omega) x1 x2 x3 x4 x5 x6 hx1 hx2 hx3 hx4 hx5 hx6) dL_law_638 kL_132 qX8_join hdX8_join ⟨Nat.le_of_ble_eq_true rfl, Nat.le_of_ble_eq_true rfl⟩ ⟨(show _ ≤ 601024 from by omega), (show _ ≤ 7293034 from by omega)⟩ (Nat.le_of_ble_eq_true rfl) rfl xs_231 xn_231 rfl (fun _ _ _ _ h => h.elim) ?_
  intro v8 z8 I2 J2 hv8
  rw [e32] at hv8
  obtain ⟨ev8, ⟨t6, n6, m6⟩, eJ8⟩ := hv8
  rw [ev8, eJ8]
  refine gw_norm ?_
  show GW G p l e room_1 s m args below meth c 7 z8 N0 SH RR I2 J1 (k1 + 1) (k2 + 6) Q 641 [some (vA b), some (vR 0), some (vR 231), some (vR 236), some (vI (i : Int)), some (vI (kJoin (I 232) x1 x2 x3 x4 x5 x6)), none] [vI (i32 (if kJoin (I 232) x1 x2 x3 x4 x5 x6 = 0 then ((I 232) 4) else 0))]
  refine gw_istore C (lo1 := [some (vA b), some (vR 0), some (vR 231), some (vR 236), some (vI (i : Int)), some (vI (kJoin (I 232) x1 x2 x3 x4 x5 x6)), some (vI (i32 (if kJoin (I 232) x1 x2 x3 x4 x5 x6 = 0 then ((I 232) 4) else 0)))]) dL_law_641 (by decide) rfl ?_
  refine gw_aload_n C 2 dL_law_643 rfl rfl ?_
  refine gw_callVm C (as := []) (st := []) (ci := 7) (T0 := TX8) (N := 10) (c_X8_thrown hl0 G I2 J1) dL_law_644 kL_110 qX8_thrown hdX8_thrown ⟨Nat.le_of_ble_eq_true rfl, Nat.le_of_ble_eq_true rfl⟩ ⟨(show _ ≤ 601024 from by omega), (show _ ≤ 7293034 from by omega)⟩ (Nat.le_of_ble_eq_true rfl) rfl xs_231 xn_231 rfl (fun z_644 => ?_)
  rw [t6]
  refine gw_iload C dL_law_647 rfl ?_
  refine gw_icmp_eq C (tgt := 654) dL_law_649 (by decide) hkb hkb (fun _ => ?_) (fun h => absurd h (by exact fun q => q rfl))
  refine gw_iload C dL_law_654 rfl ?_
  refine gw_if_ne C (tgt := 671) dL_law_656 (by decide) hkb (fun h_656 => ?_) (fun h_656 => ?_)
  · skip
    have hne := h_656
    refine gw_goto C (tgt := 1965) dL_law_671 (by decide) ?_
    exact gw_weak (lo' := [some (vA b), some (vR 0), some (vR 231), some (vR 236), some (vI (i : Int)), none, none]) ⟨rfl, rfl, rfl, rfl, rfl, trivial⟩ (kk _ _ _ _ _ (by omega) (by omega) (li_fr hLI (fun q f _ h9 => by rw [n6 hne q f (by omega), (w1 hne).1])))
  · skip
    have hne : (kJoin (I 232) x1 x2 x3 x4 x5 x6) = 0 := h_656
    refine gw_aload_n C 3 dL_law_659 rfl rfl ?_
    refine gw_iconst C dL_law_660 ?_
    refine gw_lald C 0 dL_law_661 xs_236 xn_236 (by omega) (by omega) (by decide) ?_
    refine gw_iload C dL_law_662 rfl ?_
    refine gw_i2l C dL_law_664 (i32_in _) ?_
    refine gw_lcmpE C dL_law_665 (by rw [(w0 hne).2, up_eq, if_pos hne]) ?_
    refine gw_if_eq C (tgt := 671) dL_law_666 (by decide) ⟨by decide, by decide⟩ (fun _ => ?_) (fun h => absurd h (by decide))
    refine gw_goto C (tgt := 1965) dL_law_671 (by decide) ?_
    exact gw_weak (lo' := [some (vA b), some (vR 0), some (vR 231), some (vR 236), some (vI (i : Int)), none, none]) ⟨rfl, rfl, rfl, rfl, rfl, trivial⟩ (kk _ _ _ _ _ (by omega) (by omega) (li_mut hLI hD (w0 hne).1 (m6 hne) (fun q hq => z_join ho hne hq)))
set_option maxHeartbeats 4000000 in
set_option maxRecDepth 100000 in
theorem law_measure {l : Launch} (hl0 : l.stackTraces = false) {G : GG} {p : Program} {e : Env} {s : State} {m : MethodId} {args : Array Value} {below : List Frame} {meth : Method} {c : Code} {Q : State → Prop} {nm9 : String} (C : gC G p l s m args meth c cL_law 7 RL (some .boolean) nm9) {b L : Nat} {xs : Nat → Int32} (hX : va_X b L xs s s.heap) (hb : b < G.1) (hL : L ≤ 3584) {i : Nat} (hi : i + 7 ≤ L) {k1 k2 : Nat} (hk1 : k1 + 1 ≤ 601024) (hk2 : k2 + 6 ≤ 7293034) {z : Nat} {I J : GI} (hLI : LI I)
    (kk : ∀ (z2 : Nat) (I2 J2 : GI) (a1 a2 : Nat), a1 ≤ k1 + 1 → a2 ≤ k2 + 6 → LI I2 → GW G p l e room_1 s m args below meth c 7 z2 N0 SH RR I2 J2 a1 a2 Q 1965 [some (vA b), some (vR 0), some (vR 231), some (vR 236), some (vI (i : Int)), none, none] []) :
    GW G p l e room_1 s m args below meth c 7 z N0 SH RR I J k1 k2 Q 674 [some (vA b), some (vR 0), some (vR 231), some (vR 236), some (vI (i : Int)), none, none] [] := by
  obtain ⟨x1, hx1, ex1⟩ := xi_ex (xs (i + 1))
  obtain ⟨x2, hx2, ex2⟩ := xi_ex (xs (i + 2))
  have hLI9 := hLI
  obtain ⟨⟨D9, hCI, hD⟩, hz, ⟨hp, h30⟩, hs⟩ := hLI9
  have ho := hCI.1.1.2.1
  have hkb : inI (kMeas (I 232) x1 x2) := by unfold kMeas; (repeat' split) <;> exact ⟨by decide, by decide⟩
  refine gw_aload_n C 1 dL_law_674 rfl rfl ?_
  refine gw_aloadA_n C 0 dL_law_675 rfl rfl ?_
  refine gw_iload C dL_law_676 rfl ?_
  refine gw_iconst C dL_law_678 ?_
  refine gw_iadd C dL_law_679 ?_
  refine gw_ialdX C hX hb (x := x1) (i + 1) (by omega) (by omega) (by omega) ex1 dL_law_680 ?_
  refine gw_aloadA_n C 0 dL_law_681 rfl rfl ?_
  refine gw_iload C dL_law_682 rfl ?_
  refine gw_iconst C dL_law_684 ?_
  refine gw_iadd C dL_law_685 ?_
  refine gw_ialdX C hX hb (x := x2) (i + 2) (by omega) (by omega) (by omega) ex2 dL_law_686 ?_
  refine gw_aload_n C 3 dL_law_687 rfl rfl ?_
  refine gw_callSH C (as := [vR 0, vI x1, vI x2, vR 236]) (st := []) (c_L_measure hl0 G I J hCI x1 x2 hx1 hx2) dL_law_688 kL_133 qL_measure hdL_measure ⟨Nat.le_of_ble_eq_true rfl, Nat.le_of_ble_eq_true rfl⟩ ⟨(show _ ≤ 601024 from by omega), (show _ ≤ 7293034 from by omega)⟩ (Nat.le_of_ble_eq_true rfl) rfl (fun _ _ _ _ h => h.elim) ?_
  intro v9 z9 I1 J1 hv9
  obtain ⟨ev, w0, w1⟩ := hv9
  rw [ev]
  have hf := lm_fr w0 w1
  have e32 : I1 232 = I 232 := frC_q hf (by decide)
  have e31 : I1 231 = I 231 := frC_q hf (by decide)
  show GW G p l e room_1 s m args below meth c 7 z9 N0 SH RR I1 J1 (k1 + 1) (k2 + 6) Q 691 [some (vA b), some (vR 0), some (vR 231), some (vR 236), some (vI (i : Int)), none, none] [vI (kMeas (I 232) x1 x2)]
  refine gw_istore C (lo1 := [some (vA b), some (vR 0), some (vR 231), some (vR 236), some (vI (i : Int)), some (vI (kMeas (I 232) x1 x2)), none]) dL_law_691 (by decide) rfl ?_
  refine gw_aload_n C 2 dL_law_693 rfl rfl ?_
  refine gw_aloadA_n C 0 dL_law_694 rfl rfl ?_
  refine gw_iload C dL_law_695 rfl ?_
  refine gw_iconst C dL_law_697 ?_
  refine gw_iadd C dL_law_698 ?_
  refine gw_ialdX C hX hb (x := x1) (i + 1) (by omega) (by omega) (by omega) ex1 dL_law_699 ?_
  refine gw_aloadA_n C 0 dL_law_700 rfl rfl ?_
  refine gw_iload C dL_law_701 rfl ?_
  refine gw_iconst C dL_law_703 ?_
  refine gw_iadd C dL_law_704 ?_
  refine gw_ialdX C hX hb (x := x2) (i + 2) (by omega) (by omega) (by omega) ex2 dL_law_705 ?_
  refine gw_callV C (as := [vI x1, vI x2]) (st := []) (ci := 7) (T0 := TX8) (N := 10) (c_X8_measure hl0 G I1 J1 (by rw [e32]; exact ho) (by rw [e31]; exact hp) (by rw [e31]; omega) x1 x2 hx1 hx2) dL_law_706 kL_135 qX8_measure hdX8_measure ⟨Nat.le_of_ble_eq_true rfl, Nat.le_of_ble_eq_true rfl⟩ ⟨(show _ ≤ 601024 from by omega), (show _ ≤ 7293034 from by omega)⟩ (Nat.le_of_ble_eq_true rfl) rfl xs_231 xn_231 rfl (fun _ _ _ _ h => h.elim) ?_
  intro v8 z8 I2 J2 hv8
  rw [e32] at hv8
  obtain ⟨ev8, ⟨t6, n6, m6⟩, eJ8⟩ := hv8
  rw [ev8, eJ8]
  refine gw_norm ?_
  show GW G p l e room_1 s m args below meth c 7 z8 N0 SH RR I2 J1 (k1 + 1) (k2 + 6) Q 709 [some (vA b), some (vR 0), some (vR 231), some (vR 236), some (vI (i : Int)), some (vI (kMeas (I 232) x1 x2)), none] [vI (i32 (if kMeas (I 232) x1 x2 = 0 then ((I 232) (83 + 6 * x1.toNat)) else 0))]
  refine gw_istore C (lo1 := [some (vA b), some (vR 0), some (vR 231), some (vR 236), some (vI (i : Int)), some (vI (kMeas (I 232) x1 x2)), some (vI (i32 (if kMeas (I 232) x1 x2 = 0 then ((I 232) (83 + 6 * x1.toNat)) else 0)))]) dL_law_709 (by decide) rfl ?_
  refine gw_aload_n C 2 dL_law_711 rfl rfl ?_
  refine gw_callVm C (as := []) (st := []) (ci := 7) (T0 := TX8) (N := 10) (c_X8_thrown hl0 G I2 J1) dL_law_712 kL_110 qX8_thrown hdX8_thrown ⟨Nat.le_of_ble_eq_true rfl, Nat.le_of_ble_eq_true rfl⟩ ⟨(show _ ≤ 601024 from by omega), (show _ ≤ 7293034 from by omega)⟩ (Nat.le_of_ble_eq_true rfl) rfl xs_231 xn_231 rfl (fun z_712 => ?_)
  rw [t6]
  refine gw_iload C dL_law_715 rfl ?_
  refine gw_icmp_eq C (tgt := 722) dL_law_717 (by decide) hkb hkb (fun _ => ?_) (fun h => absurd h (by exact fun q => q rfl))
  refine gw_iload C dL_law_722 rfl ?_
  refine gw_if_ne C (tgt := 739) dL_law_724 (by decide) hkb (fun h_724 => ?_) (fun h_724 => ?_)
  · skip
    have hne := h_724
    refine gw_goto C (tgt := 1965) dL_law_739 (by decide) ?_
    exact gw_weak (lo' := [some (vA b), some (vR 0), some (vR 231), some (vR 236), some (vI (i : Int)), none, none]) ⟨rfl, rfl, rfl, rfl, rfl, trivial⟩ (kk _ _ _ _ _ (by omega) (by omega) (li_fr hLI (fun q f _ h9 => by rw [n6 hne q f (by omega), (w1 hne).1])))
  · skip
    have hne : (kMeas (I 232) x1 x2) = 0 := h_724
    refine gw_aload_n C 3 dL_law_727 rfl rfl ?_
    refine gw_iconst C dL_law_728 ?_
    refine gw_lald C 0 dL_law_729 xs_236 xn_236 (by omega) (by omega) (by decide) ?_
    refine gw_iload C dL_law_730 rfl ?_
    refine gw_i2l C dL_law_732 (i32_in _) ?_
    refine gw_lcmpE C dL_law_733 (by rw [(w0 hne).2, up_eq, if_pos hne]) ?_
    refine gw_if_eq C (tgt := 739) dL_law_734 (by decide) ⟨by decide, by decide⟩ (fun _ => ?_) (fun h => absurd h (by decide))
    refine gw_goto C (tgt := 1965) dL_law_739 (by decide) ?_
    exact gw_weak (lo' := [some (vA b), some (vR 0), some (vR 231), some (vR 236), some (vI (i : Int)), none, none]) ⟨rfl, rfl, rfl, rfl, rfl, trivial⟩ (kk _ _ _ _ _ (by omega) (by omega) (li_mut hLI hD (w0 hne).1 (m6 hne) (fun q hq => z_measure ho hne hq)))
set_option maxHeartbeats 4000000 in
set_option maxRecDepth 100000 in
theorem law_begin {l : Launch} (hl0 : l.stackTraces = false) {G : GG} {p : Program} {e : Env} {s : State} {m : MethodId} {args : Array Value} {below : List Frame} {meth : Method} {c : Code} {Q : State → Prop} {nm9 : String} (C : gC G p l s m args meth c cL_law 7 RL (some .boolean) nm9) {b L : Nat} {xs : Nat → Int32} (hX : va_X b L xs s s.heap) (hb : b < G.1) (hL : L ≤ 3584) {i : Nat} (hi : i + 7 ≤ L) {k1 k2 : Nat} (hk1 : k1 + 1 ≤ 601024) (hk2 : k2 + 6 ≤ 7293034) {z : Nat} {I J : GI} (hLI : LI I)
    (kk : ∀ (z2 : Nat) (I2 J2 : GI) (a1 a2 : Nat), a1 ≤ k1 + 1 → a2 ≤ k2 + 6 → LI I2 → GW G p l e room_1 s m args below meth c 7 z2 N0 SH RR I2 J2 a1 a2 Q 1965 [some (vA b), some (vR 0), some (vR 231), some (vR 236), some (vI (i : Int)), none, none] []) :
    GW G p l e room_1 s m args below meth c 7 z N0 SH RR I J k1 k2 Q 810 [some (vA b), some (vR 0), some (vR 231), some (vR 236), some (vI (i : Int)), none, none] [] := by
  obtain ⟨x1, hx1, ex1⟩ := xi_ex (xs (i + 1))
  have hLI9 := hLI
  obtain ⟨⟨D9, hCI, hD⟩, hz, ⟨hp, h30⟩, hs⟩ := hLI9
  have ho := hCI.1.1.2.1
  have hkb : inI (kBegin (I 232) x1) := by unfold kBegin; (repeat' split) <;> exact ⟨by decide, by decide⟩
  refine gw_aload_n C 1 dL_law_810 rfl rfl ?_
  refine gw_aloadA_n C 0 dL_law_811 rfl rfl ?_
  refine gw_iload C dL_law_812 rfl ?_
  refine gw_iconst C dL_law_814 ?_
  refine gw_iadd C dL_law_815 ?_
  refine gw_ialdX C hX hb (x := x1) (i + 1) (by omega) (by omega) (by omega) ex1 dL_law_816 ?_
  refine gw_aload_n C 3 dL_law_817 rfl rfl ?_
  refine gw_callSH C (as := [vR 0, vI x1, vR 236]) (st := []) (c_L_begin hl0 G I J hCI x1 hx1) dL_law_818 kL_139 qL_begin hdL_begin ⟨Nat.le_of_ble_eq_true rfl, Nat.le_of_ble_eq_true rfl⟩ ⟨(show _ ≤ 601024 from by omega), (show _ ≤ 7293034 from by omega)⟩ (Nat.le_of_ble_eq_true rfl) rfl (fun _ _ _ _ h => h.elim) ?_
  intro v9 z9 I1 J1 hv9
  obtain ⟨ev, w0, w1⟩ := hv9
  rw [ev]
  have hf := lm_fr w0 w1
  have e32 : I1 232 = I 232 := frC_q hf (by decide)
  have e31 : I1 231 = I 231 := frC_q hf (by decide)
  show GW G p l e room_1 s m args below meth c 7 z9 N0 SH RR I1 J1 (k1 + 1) (k2 + 6) Q 821 [some (vA b), some (vR 0), some (vR 231), some (vR 236), some (vI (i : Int)), none, none] [vI (kBegin (I 232) x1)]
  refine gw_istore C (lo1 := [some (vA b), some (vR 0), some (vR 231), some (vR 236), some (vI (i : Int)), some (vI (kBegin (I 232) x1)), none]) dL_law_821 (by decide) rfl ?_
  refine gw_aload_n C 2 dL_law_823 rfl rfl ?_
  refine gw_aloadA_n C 0 dL_law_824 rfl rfl ?_
  refine gw_iload C dL_law_825 rfl ?_
  refine gw_iconst C dL_law_827 ?_
  refine gw_iadd C dL_law_828 ?_
  refine gw_ialdX C hX hb (x := x1) (i + 1) (by omega) (by omega) (by omega) ex1 dL_law_829 ?_
  refine gw_callV C (as := [vI x1]) (st := []) (ci := 7) (T0 := TX8) (N := 10) (c_X8_begin hl0 G I1 J1 (by rw [e32]; exact ho) (by rw [e31]; exact hp) (by rw [e31]; omega) x1 hx1) dL_law_830 kL_141 qX8_begin hdX8_begin ⟨Nat.le_of_ble_eq_true rfl, Nat.le_of_ble_eq_true rfl⟩ ⟨(show _ ≤ 601024 from by omega), (show _ ≤ 7293034 from by omega)⟩ (Nat.le_of_ble_eq_true rfl) rfl xs_231 xn_231 rfl (fun _ _ _ _ h => h.elim) ?_
  intro v8 z8 I2 J2 hv8
  rw [e32] at hv8
  obtain ⟨ev8, ⟨t6, n6, m6⟩, eJ8⟩ := hv8
  rw [ev8, eJ8]
  refine gw_norm ?_
  show GW G p l e room_1 s m args below meth c 7 z8 N0 SH RR I2 J1 (k1 + 1) (k2 + 6) Q 833 [some (vA b), some (vR 0), some (vR 231), some (vR 236), some (vI (i : Int)), some (vI (kBegin (I 232) x1)), none] [vI (i32 (if kBegin (I 232) x1 = 0 then ((I 232) 5) else 0))]
  refine gw_istore C (lo1 := [some (vA b), some (vR 0), some (vR 231), some (vR 236), some (vI (i : Int)), some (vI (kBegin (I 232) x1)), some (vI (i32 (if kBegin (I 232) x1 = 0 then ((I 232) 5) else 0)))]) dL_law_833 (by decide) rfl ?_
  refine gw_aload_n C 2 dL_law_835 rfl rfl ?_
  refine gw_callVm C (as := []) (st := []) (ci := 7) (T0 := TX8) (N := 10) (c_X8_thrown hl0 G I2 J1) dL_law_836 kL_110 qX8_thrown hdX8_thrown ⟨Nat.le_of_ble_eq_true rfl, Nat.le_of_ble_eq_true rfl⟩ ⟨(show _ ≤ 601024 from by omega), (show _ ≤ 7293034 from by omega)⟩ (Nat.le_of_ble_eq_true rfl) rfl xs_231 xn_231 rfl (fun z_836 => ?_)
  rw [t6]
  refine gw_iload C dL_law_839 rfl ?_
  refine gw_icmp_eq C (tgt := 846) dL_law_841 (by decide) hkb hkb (fun _ => ?_) (fun h => absurd h (by exact fun q => q rfl))
  refine gw_iload C dL_law_846 rfl ?_
  refine gw_if_ne C (tgt := 863) dL_law_848 (by decide) hkb (fun h_848 => ?_) (fun h_848 => ?_)
  · skip
    have hne := h_848
    refine gw_goto C (tgt := 1965) dL_law_863 (by decide) ?_
    exact gw_weak (lo' := [some (vA b), some (vR 0), some (vR 231), some (vR 236), some (vI (i : Int)), none, none]) ⟨rfl, rfl, rfl, rfl, rfl, trivial⟩ (kk _ _ _ _ _ (by omega) (by omega) (li_fr hLI (fun q f _ h9 => by rw [n6 hne q f (by omega), (w1 hne).1])))
  · skip
    have hne : (kBegin (I 232) x1) = 0 := h_848
    refine gw_aload_n C 3 dL_law_851 rfl rfl ?_
    refine gw_iconst C dL_law_852 ?_
    refine gw_lald C 0 dL_law_853 xs_236 xn_236 (by omega) (by omega) (by decide) ?_
    refine gw_iload C dL_law_854 rfl ?_
    refine gw_i2l C dL_law_856 (i32_in _) ?_
    refine gw_lcmpE C dL_law_857 (by rw [(w0 hne).2, up_eq, if_pos hne]) ?_
    refine gw_if_eq C (tgt := 863) dL_law_858 (by decide) ⟨by decide, by decide⟩ (fun _ => ?_) (fun h => absurd h (by decide))
    refine gw_goto C (tgt := 1965) dL_law_863 (by decide) ?_
    exact gw_weak (lo' := [some (vA b), some (vR 0), some (vR 231), some (vR 236), some (vI (i : Int)), none, none]) ⟨rfl, rfl, rfl, rfl, rfl, trivial⟩ (kk _ _ _ _ _ (by omega) (by omega) (li_mut hLI hD (w0 hne).1 (m6 hne) (fun q hq => z_begin ho hne hq)))
set_option maxHeartbeats 4000000 in
set_option maxRecDepth 100000 in
theorem law_addLeg {l : Launch} (hl0 : l.stackTraces = false) {G : GG} {p : Program} {e : Env} {s : State} {m : MethodId} {args : Array Value} {below : List Frame} {meth : Method} {c : Code} {Q : State → Prop} {nm9 : String} (C : gC G p l s m args meth c cL_law 7 RL (some .boolean) nm9) {b L : Nat} {xs : Nat → Int32} (hX : va_X b L xs s s.heap) (hb : b < G.1) (hL : L ≤ 3584) {i : Nat} (hi : i + 7 ≤ L) {k1 k2 : Nat} (hk1 : k1 + 1 ≤ 601024) (hk2 : k2 + 6 ≤ 7293034) {z : Nat} {I J : GI} (hLI : LI I)
    (kk : ∀ (z2 : Nat) (I2 J2 : GI) (a1 a2 : Nat), a1 ≤ k1 + 1 → a2 ≤ k2 + 6 → LI I2 → GW G p l e room_1 s m args below meth c 7 z2 N0 SH RR I2 J2 a1 a2 Q 1965 [some (vA b), some (vR 0), some (vR 231), some (vR 236), some (vI (i : Int)), none, none] []) :
    GW G p l e room_1 s m args below meth c 7 z N0 SH RR I J k1 k2 Q 866 [some (vA b), some (vR 0), some (vR 231), some (vR 236), some (vI (i : Int)), none, none] [] := by
  obtain ⟨x1, hx1, ex1⟩ := xi_ex (xs (i + 1))
  obtain ⟨x2, hx2, ex2⟩ := xi_ex (xs (i + 2))
  obtain ⟨x3, hx3, ex3⟩ := xi_ex (xs (i + 3))
  have hLI9 := hLI
  obtain ⟨⟨D9, hCI, hD⟩, hz, ⟨hp, h30⟩, hs⟩ := hLI9
  have ho := hCI.1.1.2.1
  have hkb : inI (rfL (I 232) x1 x2 x3) := by unfold rfL; (repeat' split) <;> exact ⟨by decide, by decide⟩
  refine gw_aload_n C 1 dL_law_866 rfl rfl ?_
  refine gw_aloadA_n C 0 dL_law_867 rfl rfl ?_
  refine gw_iload C dL_law_868 rfl ?_
  refine gw_iconst C dL_law_870 ?_
  refine gw_iadd C dL_law_871 ?_
  refine gw_ialdX C hX hb (x := x1) (i + 1) (by omega) (by omega) (by omega) ex1 dL_law_872 ?_
  refine gw_aloadA_n C 0 dL_law_873 rfl rfl ?_
  refine gw_iload C dL_law_874 rfl ?_
  refine gw_iconst C dL_law_876 ?_
  refine gw_iadd C dL_law_877 ?_
  refine gw_ialdX C hX hb (x := x2) (i + 2) (by omega) (by omega) (by omega) ex2 dL_law_878 ?_
  refine gw_aloadA_n C 0 dL_law_879 rfl rfl ?_
  refine gw_iload C dL_law_880 rfl ?_
  refine gw_iconst C dL_law_882 ?_
  refine gw_iadd C dL_law_883 ?_
  refine gw_ialdX C hX hb (x := x3) (i + 3) (by omega) (by omega) (by omega) ex3 dL_law_884 ?_
  refine gw_aload_n C 3 dL_law_885 rfl rfl ?_
  refine gw_callSH C (as := [vR 0, vI x1, vI x2, vI x3, vR 236]) (st := []) (c_L_addLeg hl0 G I J hCI x1 x2 x3 hx1 hx2 hx3) dL_law_886 kL_142 qL_addLeg hdL_addLeg ⟨Nat.le_of_ble_eq_true rfl, Nat.le_of_ble_eq_true rfl⟩ ⟨(show _ ≤ 601024 from by omega), (show _ ≤ 7293034 from by omega)⟩ (Nat.le_of_ble_eq_true rfl) rfl (fun _ _ _ _ h => h.elim) ?_
  intro v9 z9 I1 J1 hv9
  obtain ⟨ev, w0, w1⟩ := hv9
  rw [ev]
  have hf := lm_fr w0 w1
  have e32 : I1 232 = I 232 := frC_q hf (by decide)
  have e31 : I1 231 = I 231 := frC_q hf (by decide)
  show GW G p l e room_1 s m args below meth c 7 z9 N0 SH RR I1 J1 (k1 + 1) (k2 + 6) Q 889 [some (vA b), some (vR 0), some (vR 231), some (vR 236), some (vI (i : Int)), none, none] [vI (rfL (I 232) x1 x2 x3)]
  refine gw_istore C (lo1 := [some (vA b), some (vR 0), some (vR 231), some (vR 236), some (vI (i : Int)), some (vI (rfL (I 232) x1 x2 x3)), none]) dL_law_889 (by decide) rfl ?_
  refine gw_aload_n C 2 dL_law_891 rfl rfl ?_
  refine gw_aloadA_n C 0 dL_law_892 rfl rfl ?_
  refine gw_iload C dL_law_893 rfl ?_
  refine gw_iconst C dL_law_895 ?_
  refine gw_iadd C dL_law_896 ?_
  refine gw_ialdX C hX hb (x := x1) (i + 1) (by omega) (by omega) (by omega) ex1 dL_law_897 ?_
  refine gw_aloadA_n C 0 dL_law_898 rfl rfl ?_
  refine gw_iload C dL_law_899 rfl ?_
  refine gw_iconst C dL_law_901 ?_
  refine gw_iadd C dL_law_902 ?_
  refine gw_ialdX C hX hb (x := x2) (i + 2) (by omega) (by omega) (by omega) ex2 dL_law_903 ?_
  refine gw_aloadA_n C 0 dL_law_904 rfl rfl ?_
  refine gw_iload C dL_law_905 rfl ?_
  refine gw_iconst C dL_law_907 ?_
  refine gw_iadd C dL_law_908 ?_
  refine gw_ialdX C hX hb (x := x3) (i + 3) (by omega) (by omega) (by omega) ex3 dL_law_909 ?_
  refine gw_callV C (as := [vI x1, vI x2, vI x3]) (st := []) (ci := 7) (T0 := TX8) (N := 10) (c_X8_addLeg hl0 G I1 J1 (by rw [e32]; exact ho) (by rw [e31]; exact hp) (by rw [e31]; omega) x1 x2 x3 hx1 hx2 hx3) dL_law_910 kL_145 qX8_addLeg hdX8_addLeg ⟨Nat.le_of_ble_eq_true rfl, Nat.le_of_ble_eq_true rfl⟩ ⟨(show _ ≤ 601024 from by omega), (show _ ≤ 7293034 from by omega)⟩ (Nat.le_of_ble_eq_true rfl) rfl xs_231 xn_231 rfl (fun _ _ _ _ h => h.elim) ?_
  intro v8 z8 I2 J2 hv8
  rw [e32] at hv8
  obtain ⟨ev8, ⟨t6, n6, m6⟩, eJ8⟩ := hv8
  rw [ev8, eJ8]
  refine gw_norm ?_
  show GW G p l e room_1 s m args below meth c 7 z8 N0 SH RR I2 J1 (k1 + 1) (k2 + 6) Q 913 [some (vA b), some (vR 0), some (vR 231), some (vR 236), some (vI (i : Int)), some (vI (rfL (I 232) x1 x2 x3)), none] [vI (i32 (if rfL (I 232) x1 x2 x3 = 0 then ((I 232) (103 + 28 * x1.toNat)) else 0))]
  refine gw_istore C (lo1 := [some (vA b), some (vR 0), some (vR 231), some (vR 236), some (vI (i : Int)), some (vI (rfL (I 232) x1 x2 x3)), some (vI (i32 (if rfL (I 232) x1 x2 x3 = 0 then ((I 232) (103 + 28 * x1.toNat)) else 0)))]) dL_law_913 (by decide) rfl ?_
  refine gw_aload_n C 2 dL_law_915 rfl rfl ?_
  refine gw_callVm C (as := []) (st := []) (ci := 7) (T0 := TX8) (N := 10) (c_X8_thrown hl0 G I2 J1) dL_law_916 kL_110 qX8_thrown hdX8_thrown ⟨Nat.le_of_ble_eq_true rfl, Nat.le_of_ble_eq_true rfl⟩ ⟨(show _ ≤ 601024 from by omega), (show _ ≤ 7293034 from by omega)⟩ (Nat.le_of_ble_eq_true rfl) rfl xs_231 xn_231 rfl (fun z_916 => ?_)
  rw [t6]
  refine gw_iload C dL_law_919 rfl ?_
  refine gw_icmp_eq C (tgt := 926) dL_law_921 (by decide) hkb hkb (fun _ => ?_) (fun h => absurd h (by exact fun q => q rfl))
  refine gw_iload C dL_law_926 rfl ?_
  refine gw_if_ne C (tgt := 943) dL_law_928 (by decide) hkb (fun h_928 => ?_) (fun h_928 => ?_)
  · skip
    have hne := h_928
    refine gw_goto C (tgt := 1965) dL_law_943 (by decide) ?_
    exact gw_weak (lo' := [some (vA b), some (vR 0), some (vR 231), some (vR 236), some (vI (i : Int)), none, none]) ⟨rfl, rfl, rfl, rfl, rfl, trivial⟩ (kk _ _ _ _ _ (by omega) (by omega) (li_fr hLI (fun q f _ h9 => by rw [n6 hne q f (by omega), (w1 hne).1])))
  · skip
    have hne : (rfL (I 232) x1 x2 x3) = 0 := h_928
    refine gw_aload_n C 3 dL_law_931 rfl rfl ?_
    refine gw_iconst C dL_law_932 ?_
    refine gw_lald C 0 dL_law_933 xs_236 xn_236 (by omega) (by omega) (by decide) ?_
    refine gw_iload C dL_law_934 rfl ?_
    refine gw_i2l C dL_law_936 (i32_in _) ?_
    refine gw_lcmpE C dL_law_937 (by rw [(w0 hne).2, up_eq, if_pos hne]) ?_
    refine gw_if_eq C (tgt := 943) dL_law_938 (by decide) ⟨by decide, by decide⟩ (fun _ => ?_) (fun h => absurd h (by decide))
    refine gw_goto C (tgt := 1965) dL_law_943 (by decide) ?_
    exact gw_weak (lo' := [some (vA b), some (vR 0), some (vR 231), some (vR 236), some (vI (i : Int)), none, none]) ⟨rfl, rfl, rfl, rfl, rfl, trivial⟩ (kk _ _ _ _ _ (by omega) (by omega) (li_mut hLI hD (w0 hne).1 (m6 hne) (fun q hq => z_addLeg ho hne hq)))
set_option maxHeartbeats 4000000 in
set_option maxRecDepth 100000 in
theorem law_dropLeg {l : Launch} (hl0 : l.stackTraces = false) {G : GG} {p : Program} {e : Env} {s : State} {m : MethodId} {args : Array Value} {below : List Frame} {meth : Method} {c : Code} {Q : State → Prop} {nm9 : String} (C : gC G p l s m args meth c cL_law 7 RL (some .boolean) nm9) {b L : Nat} {xs : Nat → Int32} (hX : va_X b L xs s s.heap) (hb : b < G.1) (hL : L ≤ 3584) {i : Nat} (hi : i + 7 ≤ L) {k1 k2 : Nat} (hk1 : k1 + 1 ≤ 601024) (hk2 : k2 + 6 ≤ 7293034) {z : Nat} {I J : GI} (hLI : LI I)
    (kk : ∀ (z2 : Nat) (I2 J2 : GI) (a1 a2 : Nat), a1 ≤ k1 + 1 → a2 ≤ k2 + 6 → LI I2 → GW G p l e room_1 s m args below meth c 7 z2 N0 SH RR I2 J2 a1 a2 Q 1965 [some (vA b), some (vR 0), some (vR 231), some (vR 236), some (vI (i : Int)), none, none] []) :
    GW G p l e room_1 s m args below meth c 7 z N0 SH RR I J k1 k2 Q 946 [some (vA b), some (vR 0), some (vR 231), some (vR 236), some (vI (i : Int)), none, none] [] := by
  obtain ⟨x1, hx1, ex1⟩ := xi_ex (xs (i + 1))
  have hLI9 := hLI
  obtain ⟨⟨D9, hCI, hD⟩, hz, ⟨hp, h30⟩, hs⟩ := hLI9
  have ho := hCI.1.1.2.1
  have hkb : inI (kDrop (I 232) x1) := by unfold kDrop; (repeat' split) <;> exact ⟨by decide, by decide⟩
  refine gw_aload_n C 1 dL_law_946 rfl rfl ?_
  refine gw_aloadA_n C 0 dL_law_947 rfl rfl ?_
  refine gw_iload C dL_law_948 rfl ?_
  refine gw_iconst C dL_law_950 ?_
  refine gw_iadd C dL_law_951 ?_
  refine gw_ialdX C hX hb (x := x1) (i + 1) (by omega) (by omega) (by omega) ex1 dL_law_952 ?_
  refine gw_aload_n C 3 dL_law_953 rfl rfl ?_
  refine gw_callSH C (as := [vR 0, vI x1, vR 236]) (st := []) (c_L_dropLeg hl0 G I J hCI x1 hx1) dL_law_954 kL_146 qL_dropLeg hdL_dropLeg ⟨Nat.le_of_ble_eq_true rfl, Nat.le_of_ble_eq_true rfl⟩ ⟨(show _ ≤ 601024 from by omega), (show _ ≤ 7293034 from by omega)⟩ (Nat.le_of_ble_eq_true rfl) rfl (fun _ _ _ _ h => h.elim) ?_
  intro v9 z9 I1 J1 hv9
  obtain ⟨ev, w0, w1⟩ := hv9
  rw [ev]
  have hf := lm_fr w0 w1
  have e32 : I1 232 = I 232 := frC_q hf (by decide)
  have e31 : I1 231 = I 231 := frC_q hf (by decide)
  show GW G p l e room_1 s m args below meth c 7 z9 N0 SH RR I1 J1 (k1 + 1) (k2 + 6) Q 957 [some (vA b), some (vR 0), some (vR 231), some (vR 236), some (vI (i : Int)), none, none] [vI (kDrop (I 232) x1)]
  refine gw_istore C (lo1 := [some (vA b), some (vR 0), some (vR 231), some (vR 236), some (vI (i : Int)), some (vI (kDrop (I 232) x1)), none]) dL_law_957 (by decide) rfl ?_
  refine gw_aload_n C 2 dL_law_959 rfl rfl ?_
  refine gw_aloadA_n C 0 dL_law_960 rfl rfl ?_
  refine gw_iload C dL_law_961 rfl ?_
  refine gw_iconst C dL_law_963 ?_
  refine gw_iadd C dL_law_964 ?_
  refine gw_ialdX C hX hb (x := x1) (i + 1) (by omega) (by omega) (by omega) ex1 dL_law_965 ?_
  refine gw_callV C (as := [vI x1]) (st := []) (ci := 7) (T0 := TX8) (N := 10) (c_X8_dropLeg hl0 G I1 J1 (by rw [e32]; exact ho) (by rw [e31]; exact hp) (by rw [e31]; omega) x1 hx1) dL_law_966 kL_148 qX8_dropLeg hdX8_dropLeg ⟨Nat.le_of_ble_eq_true rfl, Nat.le_of_ble_eq_true rfl⟩ ⟨(show _ ≤ 601024 from by omega), (show _ ≤ 7293034 from by omega)⟩ (Nat.le_of_ble_eq_true rfl) rfl xs_231 xn_231 rfl (fun _ _ _ _ h => h.elim) ?_
  intro v8 z8 I2 J2 hv8
  rw [e32] at hv8
  obtain ⟨ev8, ⟨t6, n6, m6⟩, eJ8⟩ := hv8
  rw [ev8, eJ8]
  refine gw_norm ?_
  show GW G p l e room_1 s m args below meth c 7 z8 N0 SH RR I2 J1 (k1 + 1) (k2 + 6) Q 969 [some (vA b), some (vR 0), some (vR 231), some (vR 236), some (vI (i : Int)), some (vI (kDrop (I 232) x1)), none] [vI (i32 (if kDrop (I 232) x1 = 0 then ((I 232) (103 + 28 * x1.toNat) - 1) else 0))]
  refine gw_istore C (lo1 := [some (vA b), some (vR 0), some (vR 231), some (vR 236), some (vI (i : Int)), some (vI (kDrop (I 232) x1)), some (vI (i32 (if kDrop (I 232) x1 = 0 then ((I 232) (103 + 28 * x1.toNat) - 1) else 0)))]) dL_law_969 (by decide) rfl ?_
  refine gw_aload_n C 2 dL_law_971 rfl rfl ?_
  refine gw_callVm C (as := []) (st := []) (ci := 7) (T0 := TX8) (N := 10) (c_X8_thrown hl0 G I2 J1) dL_law_972 kL_110 qX8_thrown hdX8_thrown ⟨Nat.le_of_ble_eq_true rfl, Nat.le_of_ble_eq_true rfl⟩ ⟨(show _ ≤ 601024 from by omega), (show _ ≤ 7293034 from by omega)⟩ (Nat.le_of_ble_eq_true rfl) rfl xs_231 xn_231 rfl (fun z_972 => ?_)
  rw [t6]
  refine gw_iload C dL_law_975 rfl ?_
  refine gw_icmp_eq C (tgt := 982) dL_law_977 (by decide) hkb hkb (fun _ => ?_) (fun h => absurd h (by exact fun q => q rfl))
  refine gw_iload C dL_law_982 rfl ?_
  refine gw_if_ne C (tgt := 999) dL_law_984 (by decide) hkb (fun h_984 => ?_) (fun h_984 => ?_)
  · skip
    have hne := h_984
    refine gw_goto C (tgt := 1965) dL_law_999 (by decide) ?_
    exact gw_weak (lo' := [some (vA b), some (vR 0), some (vR 231), some (vR 236), some (vI (i : Int)), none, none]) ⟨rfl, rfl, rfl, rfl, rfl, trivial⟩ (kk _ _ _ _ _ (by omega) (by omega) (li_fr hLI (fun q f _ h9 => by rw [n6 hne q f (by omega), (w1 hne).1])))
  · skip
    have hne : (kDrop (I 232) x1) = 0 := h_984
    refine gw_aload_n C 3 dL_law_987 rfl rfl ?_
    refine gw_iconst C dL_law_988 ?_
    refine gw_lald C 0 dL_law_989 xs_236 xn_236 (by omega) (by omega) (by decide) ?_
    refine gw_iload C dL_law_990 rfl ?_
    refine gw_i2l C dL_law_992 (i32_in _) ?_
    refine gw_lcmpE C dL_law_993 (by rw [(w0 hne).2, up_eq, if_pos hne]) ?_
    refine gw_if_eq C (tgt := 999) dL_law_994 (by decide) ⟨by decide, by decide⟩ (fun _ => ?_) (fun h => absurd h (by decide))
    refine gw_goto C (tgt := 1965) dL_law_999 (by decide) ?_
    exact gw_weak (lo' := [some (vA b), some (vR 0), some (vR 231), some (vR 236), some (vI (i : Int)), none, none]) ⟨rfl, rfl, rfl, rfl, rfl, trivial⟩ (kk _ _ _ _ _ (by omega) (by omega) (li_mut hLI hD (w0 hne).1 (m6 hne) (fun q hq => z_dropLeg ho hne hq)))
set_option maxHeartbeats 4000000 in
set_option maxRecDepth 100000 in
theorem law_close {l : Launch} (hl0 : l.stackTraces = false) {G : GG} {p : Program} {e : Env} {s : State} {m : MethodId} {args : Array Value} {below : List Frame} {meth : Method} {c : Code} {Q : State → Prop} {nm9 : String} (C : gC G p l s m args meth c cL_law 7 RL (some .boolean) nm9) {b L : Nat} {xs : Nat → Int32} (hX : va_X b L xs s s.heap) (hb : b < G.1) (hL : L ≤ 3584) {i : Nat} (hi : i + 7 ≤ L) {k1 k2 : Nat} (hk1 : k1 + 1 ≤ 601024) (hk2 : k2 + 6 ≤ 7293034) {z : Nat} {I J : GI} (hLI : LI I)
    (kk : ∀ (z2 : Nat) (I2 J2 : GI) (a1 a2 : Nat), a1 ≤ k1 + 1 → a2 ≤ k2 + 6 → LI I2 → GW G p l e room_1 s m args below meth c 7 z2 N0 SH RR I2 J2 a1 a2 Q 1965 [some (vA b), some (vR 0), some (vR 231), some (vR 236), some (vI (i : Int)), none, none] []) :
    GW G p l e room_1 s m args below meth c 7 z N0 SH RR I J k1 k2 Q 1002 [some (vA b), some (vR 0), some (vR 231), some (vR 236), some (vI (i : Int)), none, none] [] := by
  obtain ⟨x1, hx1, ex1⟩ := xi_ex (xs (i + 1))
  obtain ⟨x2, hx2, ex2⟩ := xi_ex (xs (i + 2))
  obtain ⟨x3, hx3, ex3⟩ := xi_ex (xs (i + 3))
  have hLI9 := hLI
  obtain ⟨⟨D9, hCI, hD⟩, hz, ⟨hp, h30⟩, hs⟩ := hLI9
  have ho := hCI.1.1.2.1
  have hkb : inI (kClose (I 232) x1 x2 x3) := by unfold kClose; (repeat' split) <;> exact ⟨by decide, by decide⟩
  refine gw_aload_n C 1 dL_law_1002 rfl rfl ?_
  refine gw_aloadA_n C 0 dL_law_1003 rfl rfl ?_
  refine gw_iload C dL_law_1004 rfl ?_
  refine gw_iconst C dL_law_1006 ?_
  refine gw_iadd C dL_law_1007 ?_
  refine gw_ialdX C hX hb (x := x1) (i + 1) (by omega) (by omega) (by omega) ex1 dL_law_1008 ?_
  refine gw_aloadA_n C 0 dL_law_1009 rfl rfl ?_
  refine gw_iload C dL_law_1010 rfl ?_
  refine gw_iconst C dL_law_1012 ?_
  refine gw_iadd C dL_law_1013 ?_
  refine gw_ialdX C hX hb (x := x2) (i + 2) (by omega) (by omega) (by omega) ex2 dL_law_1014 ?_
  refine gw_aloadA_n C 0 dL_law_1015 rfl rfl ?_
  refine gw_iload C dL_law_1016 rfl ?_
  refine gw_iconst C dL_law_1018 ?_
  refine gw_iadd C dL_law_1019 ?_
  refine gw_ialdX C hX hb (x := x3) (i + 3) (by omega) (by omega) (by omega) ex3 dL_law_1020 ?_
  refine gw_aload_n C 3 dL_law_1021 rfl rfl ?_
  refine gw_callSH C (as := [vR 0, vI x1, vI x2, vI x3, vR 236]) (st := []) (c_L_close hl0 G I J hCI x1 x2 x3 hx1 hx2 hx3) dL_law_1022 kL_149 qL_close hdL_close ⟨Nat.le_of_ble_eq_true rfl, Nat.le_of_ble_eq_true rfl⟩ ⟨(show _ ≤ 601024 from by omega), (show _ ≤ 7293034 from by omega)⟩ (Nat.le_of_ble_eq_true rfl) rfl (fun _ _ _ _ h => h.elim) ?_
  intro v9 z9 I1 J1 hv9
  obtain ⟨ev, w0, w1⟩ := hv9
  rw [ev]
  have hf := lm_fr w0 w1
  have e32 : I1 232 = I 232 := frC_q hf (by decide)
  have e31 : I1 231 = I 231 := frC_q hf (by decide)
  show GW G p l e room_1 s m args below meth c 7 z9 N0 SH RR I1 J1 (k1 + 1) (k2 + 6) Q 1025 [some (vA b), some (vR 0), some (vR 231), some (vR 236), some (vI (i : Int)), none, none] [vI (kClose (I 232) x1 x2 x3)]
  refine gw_istore C (lo1 := [some (vA b), some (vR 0), some (vR 231), some (vR 236), some (vI (i : Int)), some (vI (kClose (I 232) x1 x2 x3)), none]) dL_law_1025 (by decide) rfl ?_
  refine gw_aload_n C 2 dL_law_1027 rfl rfl ?_
  refine gw_aloadA_n C 0 dL_law_1028 rfl rfl ?_
  refine gw_iload C dL_law_1029 rfl ?_
  refine gw_iconst C dL_law_1031 ?_
  refine gw_iadd C dL_law_1032 ?_
  refine gw_ialdX C hX hb (x := x1) (i + 1) (by omega) (by omega) (by omega) ex1 dL_law_1033 ?_
  refine gw_aloadA_n C 0 dL_law_1034 rfl rfl ?_
  refine gw_iload C dL_law_1035 rfl ?_
  refine gw_iconst C dL_law_1037 ?_
  refine gw_iadd C dL_law_1038 ?_
  refine gw_ialdX C hX hb (x := x2) (i + 2) (by omega) (by omega) (by omega) ex2 dL_law_1039 ?_
  refine gw_aloadA_n C 0 dL_law_1040 rfl rfl ?_
  refine gw_iload C dL_law_1041 rfl ?_
  refine gw_iconst C dL_law_1043 ?_
  refine gw_iadd C dL_law_1044 ?_
  refine gw_ialdX C hX hb (x := x3) (i + 3) (by omega) (by omega) (by omega) ex3 dL_law_1045 ?_
  refine gw_callV C (as := [vI x1, vI x2, vI x3]) (st := []) (ci := 7) (T0 := TX8) (N := 10) (c_X8_close hl0 G I1 J1 (by rw [e32]; exact ho) (by rw [e31]; exact hp) (by rw [e31]; omega) x1 x2 x3 hx1 hx2 hx3) dL_law_1046 kL_151 qX8_close hdX8_close ⟨Nat.le_of_ble_eq_true rfl, Nat.le_of_ble_eq_true rfl⟩ ⟨(show _ ≤ 601024 from by omega), (show _ ≤ 7293034 from by omega)⟩ (Nat.le_of_ble_eq_true rfl) rfl xs_231 xn_231 rfl (fun _ _ _ _ h => h.elim) ?_
  intro v8 z8 I2 J2 hv8
  rw [e32] at hv8
  obtain ⟨ev8, ⟨t6, n6, m6⟩, eJ8⟩ := hv8
  rw [ev8, eJ8]
  refine gw_norm ?_
  show GW G p l e room_1 s m args below meth c 7 z8 N0 SH RR I2 J1 (k1 + 1) (k2 + 6) Q 1049 [some (vA b), some (vR 0), some (vR 231), some (vR 236), some (vI (i : Int)), some (vI (kClose (I 232) x1 x2 x3)), none] [vI (i32 (if kClose (I 232) x1 x2 x3 = 0 then (sTT (oClose (I 232) x1.toNat x2 x3) x1.toNat) else 0))]
  refine gw_istore C (lo1 := [some (vA b), some (vR 0), some (vR 231), some (vR 236), some (vI (i : Int)), some (vI (kClose (I 232) x1 x2 x3)), some (vI (i32 (if kClose (I 232) x1 x2 x3 = 0 then (sTT (oClose (I 232) x1.toNat x2 x3) x1.toNat) else 0)))]) dL_law_1049 (by decide) rfl ?_
  refine gw_aload_n C 2 dL_law_1051 rfl rfl ?_
  refine gw_callVm C (as := []) (st := []) (ci := 7) (T0 := TX8) (N := 10) (c_X8_thrown hl0 G I2 J1) dL_law_1052 kL_110 qX8_thrown hdX8_thrown ⟨Nat.le_of_ble_eq_true rfl, Nat.le_of_ble_eq_true rfl⟩ ⟨(show _ ≤ 601024 from by omega), (show _ ≤ 7293034 from by omega)⟩ (Nat.le_of_ble_eq_true rfl) rfl xs_231 xn_231 rfl (fun z_1052 => ?_)
  rw [t6]
  refine gw_iload C dL_law_1055 rfl ?_
  refine gw_icmp_eq C (tgt := 1062) dL_law_1057 (by decide) hkb hkb (fun _ => ?_) (fun h => absurd h (by exact fun q => q rfl))
  refine gw_iload C dL_law_1062 rfl ?_
  refine gw_if_ne C (tgt := 1079) dL_law_1064 (by decide) hkb (fun h_1064 => ?_) (fun h_1064 => ?_)
  · skip
    have hne := h_1064
    refine gw_goto C (tgt := 1965) dL_law_1079 (by decide) ?_
    exact gw_weak (lo' := [some (vA b), some (vR 0), some (vR 231), some (vR 236), some (vI (i : Int)), none, none]) ⟨rfl, rfl, rfl, rfl, rfl, trivial⟩ (kk _ _ _ _ _ (by omega) (by omega) (li_fr hLI (fun q f _ h9 => by rw [n6 hne q f (by omega), (w1 hne).1])))
  · skip
    have hne : (kClose (I 232) x1 x2 x3) = 0 := h_1064
    refine gw_aload_n C 3 dL_law_1067 rfl rfl ?_
    refine gw_iconst C dL_law_1068 ?_
    refine gw_lald C 0 dL_law_1069 xs_236 xn_236 (by omega) (by omega) (by decide) ?_
    refine gw_iload C dL_law_1070 rfl ?_
    refine gw_i2l C dL_law_1072 (i32_in _) ?_
    refine gw_lcmpE C dL_law_1073 (by rw [(w0 hne).2, up_eq, if_pos hne]) ?_
    refine gw_if_eq C (tgt := 1079) dL_law_1074 (by decide) ⟨by decide, by decide⟩ (fun _ => ?_) (fun h => absurd h (by decide))
    refine gw_goto C (tgt := 1965) dL_law_1079 (by decide) ?_
    exact gw_weak (lo' := [some (vA b), some (vR 0), some (vR 231), some (vR 236), some (vI (i : Int)), none, none]) ⟨rfl, rfl, rfl, rfl, rfl, trivial⟩ (kk _ _ _ _ _ (by omega) (by omega) (li_mut hLI hD (w0 hne).1 (m6 hne) (fun q hq => z_close ho hne hq)))
set_option maxHeartbeats 4000000 in
set_option maxRecDepth 100000 in
theorem law_adjust {l : Launch} (hl0 : l.stackTraces = false) {G : GG} {p : Program} {e : Env} {s : State} {m : MethodId} {args : Array Value} {below : List Frame} {meth : Method} {c : Code} {Q : State → Prop} {nm9 : String} (C : gC G p l s m args meth c cL_law 7 RL (some .boolean) nm9) {b L : Nat} {xs : Nat → Int32} (hX : va_X b L xs s s.heap) (hb : b < G.1) (hL : L ≤ 3584) {i : Nat} (hi : i + 7 ≤ L) {k1 k2 : Nat} (hk1 : k1 + 1 ≤ 601024) (hk2 : k2 + 6 ≤ 7293034) {z : Nat} {I J : GI} (hLI : LI I)
    (kk : ∀ (z2 : Nat) (I2 J2 : GI) (a1 a2 : Nat), a1 ≤ k1 + 1 → a2 ≤ k2 + 6 → LI I2 → GW G p l e room_1 s m args below meth c 7 z2 N0 SH RR I2 J2 a1 a2 Q 1965 [some (vA b), some (vR 0), some (vR 231), some (vR 236), some (vI (i : Int)), none, none] []) :
    GW G p l e room_1 s m args below meth c 7 z N0 SH RR I J k1 k2 Q 1082 [some (vA b), some (vR 0), some (vR 231), some (vR 236), some (vI (i : Int)), none, none] [] := by
  obtain ⟨x1, hx1, ex1⟩ := xi_ex (xs (i + 1))
  have hLI9 := hLI
  obtain ⟨⟨D9, hCI, hD⟩, hz, ⟨hp, h30⟩, hs⟩ := hLI9
  have ho := hCI.1.1.2.1
  have hkb : inI (kAdj (I 232) x1) := by unfold kAdj; (repeat' split) <;> exact ⟨by decide, by decide⟩
  refine gw_aload_n C 1 dL_law_1082 rfl rfl ?_
  refine gw_aloadA_n C 0 dL_law_1083 rfl rfl ?_
  refine gw_iload C dL_law_1084 rfl ?_
  refine gw_iconst C dL_law_1086 ?_
  refine gw_iadd C dL_law_1087 ?_
  refine gw_ialdX C hX hb (x := x1) (i + 1) (by omega) (by omega) (by omega) ex1 dL_law_1088 ?_
  refine gw_aload_n C 3 dL_law_1089 rfl rfl ?_
  refine gw_callSH C (as := [vR 0, vI x1, vR 236]) (st := []) (c_L_adjust hl0 G I J hCI x1 hx1) dL_law_1090 kL_152 qL_adjust hdL_adjust ⟨Nat.le_of_ble_eq_true rfl, Nat.le_of_ble_eq_true rfl⟩ ⟨(show _ ≤ 601024 from by omega), (show _ ≤ 7293034 from by omega)⟩ (Nat.le_of_ble_eq_true rfl) rfl (fun _ _ _ _ h => h.elim) ?_
  intro v9 z9 I1 J1 hv9
  obtain ⟨ev, w0, w1⟩ := hv9
  rw [ev]
  have hf := lm_fr w0 w1
  have e32 : I1 232 = I 232 := frC_q hf (by decide)
  have e31 : I1 231 = I 231 := frC_q hf (by decide)
  show GW G p l e room_1 s m args below meth c 7 z9 N0 SH RR I1 J1 (k1 + 1) (k2 + 6) Q 1093 [some (vA b), some (vR 0), some (vR 231), some (vR 236), some (vI (i : Int)), none, none] [vI (kAdj (I 232) x1)]
  refine gw_istore C (lo1 := [some (vA b), some (vR 0), some (vR 231), some (vR 236), some (vI (i : Int)), some (vI (kAdj (I 232) x1)), none]) dL_law_1093 (by decide) rfl ?_
  refine gw_aload_n C 2 dL_law_1095 rfl rfl ?_
  refine gw_aloadA_n C 0 dL_law_1096 rfl rfl ?_
  refine gw_iload C dL_law_1097 rfl ?_
  refine gw_iconst C dL_law_1099 ?_
  refine gw_iadd C dL_law_1100 ?_
  refine gw_ialdX C hX hb (x := x1) (i + 1) (by omega) (by omega) (by omega) ex1 dL_law_1101 ?_
  refine gw_callV C (as := [vI x1]) (st := []) (ci := 7) (T0 := TX8) (N := 10) (c_X8_adjust hl0 G I1 J1 (by rw [e32]; exact ho) (by rw [e31]; exact hp) (by rw [e31]; omega) x1 hx1) dL_law_1102 kL_154 qX8_adjust hdX8_adjust ⟨Nat.le_of_ble_eq_true rfl, Nat.le_of_ble_eq_true rfl⟩ ⟨(show _ ≤ 601024 from by omega), (show _ ≤ 7293034 from by omega)⟩ (Nat.le_of_ble_eq_true rfl) rfl xs_231 xn_231 rfl (fun _ _ _ _ h => h.elim) ?_
  intro v8 z8 I2 J2 hv8
  rw [e32] at hv8
  obtain ⟨ev8, ⟨t6, n6, m6⟩, eJ8⟩ := hv8
  rw [ev8, eJ8]
  refine gw_norm ?_
  show GW G p l e room_1 s m args below meth c 7 z8 N0 SH RR I2 J1 (k1 + 1) (k2 + 6) Q 1105 [some (vA b), some (vR 0), some (vR 231), some (vR 236), some (vI (i : Int)), some (vI (kAdj (I 232) x1)), none] [vI (i32 (if kAdj (I 232) x1 = 0 then (sG (I 232) x1.toNat) else 0))]
  refine gw_istore C (lo1 := [some (vA b), some (vR 0), some (vR 231), some (vR 236), some (vI (i : Int)), some (vI (kAdj (I 232) x1)), some (vI (i32 (if kAdj (I 232) x1 = 0 then (sG (I 232) x1.toNat) else 0)))]) dL_law_1105 (by decide) rfl ?_
  refine gw_aload_n C 2 dL_law_1107 rfl rfl ?_
  refine gw_callVm C (as := []) (st := []) (ci := 7) (T0 := TX8) (N := 10) (c_X8_thrown hl0 G I2 J1) dL_law_1108 kL_110 qX8_thrown hdX8_thrown ⟨Nat.le_of_ble_eq_true rfl, Nat.le_of_ble_eq_true rfl⟩ ⟨(show _ ≤ 601024 from by omega), (show _ ≤ 7293034 from by omega)⟩ (Nat.le_of_ble_eq_true rfl) rfl xs_231 xn_231 rfl (fun z_1108 => ?_)
  rw [t6]
  refine gw_iload C dL_law_1111 rfl ?_
  refine gw_icmp_eq C (tgt := 1118) dL_law_1113 (by decide) hkb hkb (fun _ => ?_) (fun h => absurd h (by exact fun q => q rfl))
  refine gw_iload C dL_law_1118 rfl ?_
  refine gw_if_ne C (tgt := 1135) dL_law_1120 (by decide) hkb (fun h_1120 => ?_) (fun h_1120 => ?_)
  · skip
    have hne := h_1120
    refine gw_goto C (tgt := 1965) dL_law_1135 (by decide) ?_
    exact gw_weak (lo' := [some (vA b), some (vR 0), some (vR 231), some (vR 236), some (vI (i : Int)), none, none]) ⟨rfl, rfl, rfl, rfl, rfl, trivial⟩ (kk _ _ _ _ _ (by omega) (by omega) (li_fr hLI (fun q f _ h9 => by rw [n6 hne q f (by omega), (w1 hne).1])))
  · skip
    have hne : (kAdj (I 232) x1) = 0 := h_1120
    refine gw_aload_n C 3 dL_law_1123 rfl rfl ?_
    refine gw_iconst C dL_law_1124 ?_
    refine gw_lald C 0 dL_law_1125 xs_236 xn_236 (by omega) (by omega) (by decide) ?_
    refine gw_iload C dL_law_1126 rfl ?_
    refine gw_i2l C dL_law_1128 (i32_in _) ?_
    refine gw_lcmpE C dL_law_1129 (by rw [(w0 hne).2, up_eq, if_pos hne]) ?_
    refine gw_if_eq C (tgt := 1135) dL_law_1130 (by decide) ⟨by decide, by decide⟩ (fun _ => ?_) (fun h => absurd h (by decide))
    refine gw_goto C (tgt := 1965) dL_law_1135 (by decide) ?_
    exact gw_weak (lo' := [some (vA b), some (vR 0), some (vR 231), some (vR 236), some (vI (i : Int)), none, none]) ⟨rfl, rfl, rfl, rfl, rfl, trivial⟩ (kk _ _ _ _ _ (by omega) (by omega) (li_mut hLI hD (w0 hne).1 (m6 hne) (fun q hq => z_adjust ho hne hq)))
set_option maxHeartbeats 4000000 in
set_option maxRecDepth 100000 in
theorem law_info {l : Launch} (hl0 : l.stackTraces = false) {G : GG} {p : Program} {e : Env} {s : State} {m : MethodId} {args : Array Value} {below : List Frame} {meth : Method} {c : Code} {Q : State → Prop} {nm9 : String} (C : gC G p l s m args meth c cL_law 7 RL (some .boolean) nm9) {b L : Nat} {xs : Nat → Int32} (hX : va_X b L xs s s.heap) (hb : b < G.1) (hL : L ≤ 3584) {i : Nat} (hi : i + 7 ≤ L) {k1 k2 : Nat} (hk1 : k1 + 1 ≤ 601024) (hk2 : k2 + 6 ≤ 7293034) {z : Nat} {I J : GI} (hLI : LI I)
    (kk : ∀ (z2 : Nat) (I2 J2 : GI) (a1 a2 : Nat), a1 ≤ k1 + 1 → a2 ≤ k2 + 6 → LI I2 → GW G p l e room_1 s m args below meth c 7 z2 N0 SH RR I2 J2 a1 a2 Q 1965 [some (vA b), some (vR 0), some (vR 231), some (vR 236), some (vI (i : Int)), none, none] []) :
    GW G p l e room_1 s m args below meth c 7 z N0 SH RR I J k1 k2 Q 240 [some (vA b), some (vR 0), some (vR 231), some (vR 236), some (vI (i : Int)), none, none] [] := by
  obtain ⟨x1, hx1, ex1⟩ := xi_ex (xs (i + 1))
  have hLI9 := hLI
  obtain ⟨⟨D9, hCI, hD⟩, hz, ⟨hp, h30⟩, hs⟩ := hLI9
  have ho := hCI.1.1.2.1
  have hkb : inI (kInfo x1) := by unfold kInfo; (repeat' split) <;> exact ⟨by decide, by decide⟩
  refine gw_aload_n C 1 dL_law_240 rfl rfl ?_
  refine gw_aloadA_n C 0 dL_law_241 rfl rfl ?_
  refine gw_iload C dL_law_242 rfl ?_
  refine gw_iconst C dL_law_244 ?_
  refine gw_iadd C dL_law_245 ?_
  refine gw_ialdX C hX hb (x := x1) (i + 1) (by omega) (by omega) (by omega) ex1 dL_law_246 ?_
  refine gw_aload_n C 3 dL_law_247 rfl rfl ?_
  refine gw_callSH C (as := [vR 0, vI x1, vR 236]) (st := []) (c_L_info hl0 G I J hCI x1 hx1) dL_law_248 kL_113 qL_info hdL_info ⟨Nat.le_of_ble_eq_true rfl, Nat.le_of_ble_eq_true rfl⟩ ⟨(show _ ≤ 601024 from by omega), (show _ ≤ 7293034 from by omega)⟩ (Nat.le_of_ble_eq_true rfl) rfl (fun _ _ _ _ h => h.elim) ?_
  intro v9 z9 I1 J1 hv9
  obtain ⟨ev, eI, w0, w1⟩ := hv9
  rw [ev, eI]
  show GW G p l e room_1 s m args below meth c 7 z9 N0 SH RR I J1 (k1 + 1) (k2 + 6) Q 251 [some (vA b), some (vR 0), some (vR 231), some (vR 236), some (vI (i : Int)), none, none] [vI (kInfo x1)]
  refine gw_istore C (lo1 := [some (vA b), some (vR 0), some (vR 231), some (vR 236), some (vI (i : Int)), some (vI (kInfo x1)), none]) dL_law_251 (by decide) rfl ?_
  refine gw_aload_n C 2 dL_law_253 rfl rfl ?_
  refine gw_aloadA_n C 0 dL_law_254 rfl rfl ?_
  refine gw_iload C dL_law_255 rfl ?_
  refine gw_iconst C dL_law_257 ?_
  refine gw_iadd C dL_law_258 ?_
  refine gw_ialdX C hX hb (x := x1) (i + 1) (by omega) (by omega) (by omega) ex1 dL_law_259 ?_
  refine gw_callV C (as := [vI x1]) (st := []) (ci := 7) (T0 := TX8) (N := 10) (c_X8_info hl0 G I J1 ho x1 hx1) dL_law_260 kL_116 qX8_info hdX8_info ⟨Nat.le_of_ble_eq_true rfl, Nat.le_of_ble_eq_true rfl⟩ ⟨(show _ ≤ 601024 from by omega), (show _ ≤ 7293034 from by omega)⟩ (Nat.le_of_ble_eq_true rfl) rfl xs_231 xn_231 rfl (fun _ _ _ _ h => h.elim) ?_
  intro v8 z8 I2 J2 hv8
  obtain ⟨ev8, eI8, eJ8⟩ := hv8
  have t6 : I2 231 6 = kInfo x1 := by rw [eI8, up_eq]
  rw [ev8, eJ8]
  refine gw_norm ?_
  show GW G p l e room_1 s m args below meth c 7 z8 N0 SH RR I2 J1 (k1 + 1) (k2 + 6) Q 263 [some (vA b), some (vR 0), some (vR 231), some (vR 236), some (vI (i : Int)), some (vI (kInfo x1)), none] [vI (i32 (if kInfo x1 = 0 then (rInfo (I 232) x1) else 0))]
  refine gw_istore C (lo1 := [some (vA b), some (vR 0), some (vR 231), some (vR 236), some (vI (i : Int)), some (vI (kInfo x1)), some (vI (i32 (if kInfo x1 = 0 then (rInfo (I 232) x1) else 0)))]) dL_law_263 (by decide) rfl ?_
  refine gw_aload_n C 2 dL_law_265 rfl rfl ?_
  refine gw_callVm C (as := []) (st := []) (ci := 7) (T0 := TX8) (N := 10) (c_X8_thrown hl0 G I2 J1) dL_law_266 kL_110 qX8_thrown hdX8_thrown ⟨Nat.le_of_ble_eq_true rfl, Nat.le_of_ble_eq_true rfl⟩ ⟨(show _ ≤ 601024 from by omega), (show _ ≤ 7293034 from by omega)⟩ (Nat.le_of_ble_eq_true rfl) rfl xs_231 xn_231 rfl (fun z_266 => ?_)
  rw [t6]
  refine gw_iload C dL_law_269 rfl ?_
  refine gw_icmp_eq C (tgt := 276) dL_law_271 (by decide) hkb hkb (fun _ => ?_) (fun h => absurd h (by exact fun q => q rfl))
  refine gw_iload C dL_law_276 rfl ?_
  refine gw_if_ne C (tgt := 293) dL_law_278 (by decide) hkb (fun h_278 => ?_) (fun h_278 => ?_)
  · skip
    have hne := h_278
    refine gw_goto C (tgt := 1965) dL_law_293 (by decide) ?_
    exact gw_weak (lo' := [some (vA b), some (vR 0), some (vR 231), some (vR 236), some (vI (i : Int)), none, none]) ⟨rfl, rfl, rfl, rfl, rfl, trivial⟩ (kk _ _ _ _ _ (by omega) (by omega) (li_fr hLI (fun q f _ h9 => by rw [eI8]; exact up_nn (by omega))))
  · skip
    have hne : (kInfo x1) = 0 := h_278
    refine gw_aload_n C 3 dL_law_281 rfl rfl ?_
    refine gw_iconst C dL_law_282 ?_
    refine gw_lald C 0 dL_law_283 xs_236 xn_236 (by omega) (by omega) (by decide) ?_
    refine gw_iload C dL_law_284 rfl ?_
    refine gw_i2l C dL_law_286 (i32_in _) ?_
    refine gw_lcmpE C dL_law_287 (by rw [w0 hne, up_eq, if_pos hne]) ?_
    refine gw_if_eq C (tgt := 293) dL_law_288 (by decide) ⟨by decide, by decide⟩ (fun _ => ?_) (fun h => absurd h (by decide))
    refine gw_goto C (tgt := 1965) dL_law_293 (by decide) ?_
    exact gw_weak (lo' := [some (vA b), some (vR 0), some (vR 231), some (vR 236), some (vI (i : Int)), none, none]) ⟨rfl, rfl, rfl, rfl, rfl, trivial⟩ (kk _ _ _ _ _ (by omega) (by omega) (li_fr hLI (fun q f _ h9 => by rw [eI8]; exact up_nn (by omega))))
set_option maxHeartbeats 4000000 in
set_option maxRecDepth 100000 in
theorem law_wire {l : Launch} (hl0 : l.stackTraces = false) {G : GG} {p : Program} {e : Env} {s : State} {m : MethodId} {args : Array Value} {below : List Frame} {meth : Method} {c : Code} {Q : State → Prop} {nm9 : String} (C : gC G p l s m args meth c cL_law 7 RL (some .boolean) nm9) {b L : Nat} {xs : Nat → Int32} (hX : va_X b L xs s s.heap) (hb : b < G.1) (hL : L ≤ 3584) {i : Nat} (hi : i + 7 ≤ L) {k1 k2 : Nat} (hk1 : k1 + 1 ≤ 601024) (hk2 : k2 + 6 ≤ 7293034) {z : Nat} {I J : GI} (hLI : LI I)
    (kk : ∀ (z2 : Nat) (I2 J2 : GI) (a1 a2 : Nat), a1 ≤ k1 + 1 → a2 ≤ k2 + 6 → LI I2 → GW G p l e room_1 s m args below meth c 7 z2 N0 SH RR I2 J2 a1 a2 Q 1965 [some (vA b), some (vR 0), some (vR 231), some (vR 236), some (vI (i : Int)), none, none] []) :
    GW G p l e room_1 s m args below meth c 7 z N0 SH RR I J k1 k2 Q 488 [some (vA b), some (vR 0), some (vR 231), some (vR 236), some (vI (i : Int)), none, none] [] := by
  obtain ⟨x1, hx1, ex1⟩ := xi_ex (xs (i + 1))
  obtain ⟨x2, hx2, ex2⟩ := xi_ex (xs (i + 2))
  have hLI9 := hLI
  obtain ⟨⟨D9, hCI, hD⟩, hz, ⟨hp, h30⟩, hs⟩ := hLI9
  have ho := hCI.1.1.2.1
  have hkb : inI (kWire (I 232) x1 x2) := by unfold kWire; (repeat' split) <;> exact ⟨by decide, by decide⟩
  refine gw_aload_n C 1 dL_law_488 rfl rfl ?_
  refine gw_aloadA_n C 0 dL_law_489 rfl rfl ?_
  refine gw_iload C dL_law_490 rfl ?_
  refine gw_iconst C dL_law_492 ?_
  refine gw_iadd C dL_law_493 ?_
  refine gw_ialdX C hX hb (x := x1) (i + 1) (by omega) (by omega) (by omega) ex1 dL_law_494 ?_
  refine gw_aloadA_n C 0 dL_law_495 rfl rfl ?_
  refine gw_iload C dL_law_496 rfl ?_
  refine gw_iconst C dL_law_498 ?_
  refine gw_iadd C dL_law_499 ?_
  refine gw_ialdX C hX hb (x := x2) (i + 2) (by omega) (by omega) (by omega) ex2 dL_law_500 ?_
  refine gw_aload_n C 3 dL_law_501 rfl rfl ?_
  refine gw_callSH C (as := [vR 0, vI x1, vI x2, vR 236]) (st := []) (c_L_wire hl0 G I J hCI x1 x2 hx1 hx2) dL_law_502 kL_126 qL_wire hdL_wire ⟨Nat.le_of_ble_eq_true rfl, Nat.le_of_ble_eq_true rfl⟩ ⟨(show _ ≤ 601024 from by omega), (show _ ≤ 7293034 from by omega)⟩ (Nat.le_of_ble_eq_true rfl) rfl (fun _ _ _ _ h => h.elim) ?_
  intro v9 z9 I1 J1 hv9
  obtain ⟨ev, eI, w0, w1⟩ := hv9
  rw [ev, eI]
  show GW G p l e room_1 s m args below meth c 7 z9 N0 SH RR I J1 (k1 + 1) (k2 + 6) Q 505 [some (vA b), some (vR 0), some (vR 231), some (vR 236), some (vI (i : Int)), none, none] [vI (kWire (I 232) x1 x2)]
  refine gw_istore C (lo1 := [some (vA b), some (vR 0), some (vR 231), some (vR 236), some (vI (i : Int)), some (vI (kWire (I 232) x1 x2)), none]) dL_law_505 (by decide) rfl ?_
  refine gw_aload_n C 2 dL_law_507 rfl rfl ?_
  refine gw_aloadA_n C 0 dL_law_508 rfl rfl ?_
  refine gw_iload C dL_law_509 rfl ?_
  refine gw_iconst C dL_law_511 ?_
  refine gw_iadd C dL_law_512 ?_
  refine gw_ialdX C hX hb (x := x1) (i + 1) (by omega) (by omega) (by omega) ex1 dL_law_513 ?_
  refine gw_aloadA_n C 0 dL_law_514 rfl rfl ?_
  refine gw_iload C dL_law_515 rfl ?_
  refine gw_iconst C dL_law_517 ?_
  refine gw_iadd C dL_law_518 ?_
  refine gw_ialdX C hX hb (x := x2) (i + 2) (by omega) (by omega) (by omega) ex2 dL_law_519 ?_
  refine gw_callV C (as := [vI x1, vI x2]) (st := []) (ci := 7) (T0 := TX8) (N := 10) (c_X8_wire hl0 G I J1 ho x1 x2 hx1 hx2) dL_law_520 kL_128 qX8_wire hdX8_wire ⟨Nat.le_of_ble_eq_true rfl, Nat.le_of_ble_eq_true rfl⟩ ⟨(show _ ≤ 601024 from by omega), (show _ ≤ 7293034 from by omega)⟩ (Nat.le_of_ble_eq_true rfl) rfl xs_231 xn_231 rfl (fun _ _ _ _ h => h.elim) ?_
  intro v8 z8 I2 J2 hv8
  obtain ⟨ev8, eI8, eJ8⟩ := hv8
  have t6 : I2 231 6 = kWire (I 232) x1 x2 := by rw [eI8, up_eq]
  rw [ev8, eJ8]
  refine gw_norm ?_
  show GW G p l e room_1 s m args below meth c 7 z8 N0 SH RR I2 J1 (k1 + 1) (k2 + 6) Q 523 [some (vA b), some (vR 0), some (vR 231), some (vR 236), some (vI (i : Int)), some (vI (kWire (I 232) x1 x2)), none] [vI (i32 (if kWire (I 232) x1 x2 = 0 then (rWire (I 232) x1.toNat x2) else 0))]
  refine gw_istore C (lo1 := [some (vA b), some (vR 0), some (vR 231), some (vR 236), some (vI (i : Int)), some (vI (kWire (I 232) x1 x2)), some (vI (i32 (if kWire (I 232) x1 x2 = 0 then (rWire (I 232) x1.toNat x2) else 0)))]) dL_law_523 (by decide) rfl ?_
  refine gw_aload_n C 2 dL_law_525 rfl rfl ?_
  refine gw_callVm C (as := []) (st := []) (ci := 7) (T0 := TX8) (N := 10) (c_X8_thrown hl0 G I2 J1) dL_law_526 kL_110 qX8_thrown hdX8_thrown ⟨Nat.le_of_ble_eq_true rfl, Nat.le_of_ble_eq_true rfl⟩ ⟨(show _ ≤ 601024 from by omega), (show _ ≤ 7293034 from by omega)⟩ (Nat.le_of_ble_eq_true rfl) rfl xs_231 xn_231 rfl (fun z_526 => ?_)
  rw [t6]
  refine gw_iload C dL_law_529 rfl ?_
  refine gw_icmp_eq C (tgt := 536) dL_law_531 (by decide) hkb hkb (fun _ => ?_) (fun h => absurd h (by exact fun q => q rfl))
  refine gw_iload C dL_law_536 rfl ?_
  refine gw_if_ne C (tgt := 553) dL_law_538 (by decide) hkb (fun h_538 => ?_) (fun h_538 => ?_)
  · skip
    have hne := h_538
    refine gw_goto C (tgt := 1965) dL_law_553 (by decide) ?_
    exact gw_weak (lo' := [some (vA b), some (vR 0), some (vR 231), some (vR 236), some (vI (i : Int)), none, none]) ⟨rfl, rfl, rfl, rfl, rfl, trivial⟩ (kk _ _ _ _ _ (by omega) (by omega) (li_fr hLI (fun q f _ h9 => by rw [eI8]; exact up_nn (by omega))))
  · skip
    have hne : (kWire (I 232) x1 x2) = 0 := h_538
    refine gw_aload_n C 3 dL_law_541 rfl rfl ?_
    refine gw_iconst C dL_law_542 ?_
    refine gw_lald C 0 dL_law_543 xs_236 xn_236 (by omega) (by omega) (by decide) ?_
    refine gw_iload C dL_law_544 rfl ?_
    refine gw_i2l C dL_law_546 (i32_in _) ?_
    refine gw_lcmpE C dL_law_547 (by rw [w0 hne, up_eq, if_pos hne]) ?_
    refine gw_if_eq C (tgt := 553) dL_law_548 (by decide) ⟨by decide, by decide⟩ (fun _ => ?_) (fun h => absurd h (by decide))
    refine gw_goto C (tgt := 1965) dL_law_553 (by decide) ?_
    exact gw_weak (lo' := [some (vA b), some (vR 0), some (vR 231), some (vR 236), some (vI (i : Int)), none, none]) ⟨rfl, rfl, rfl, rfl, rfl, trivial⟩ (kk _ _ _ _ _ (by omega) (by omega) (li_fr hLI (fun q f _ h9 => by rw [eI8]; exact up_nn (by omega))))
set_option maxHeartbeats 4000000 in
set_option maxRecDepth 100000 in
theorem law_joinOf {l : Launch} (hl0 : l.stackTraces = false) {G : GG} {p : Program} {e : Env} {s : State} {m : MethodId} {args : Array Value} {below : List Frame} {meth : Method} {c : Code} {Q : State → Prop} {nm9 : String} (C : gC G p l s m args meth c cL_law 7 RL (some .boolean) nm9) {b L : Nat} {xs : Nat → Int32} (hX : va_X b L xs s s.heap) (hb : b < G.1) (hL : L ≤ 3584) {i : Nat} (hi : i + 7 ≤ L) {k1 k2 : Nat} (hk1 : k1 + 1 ≤ 601024) (hk2 : k2 + 6 ≤ 7293034) {z : Nat} {I J : GI} (hLI : LI I)
    (kk : ∀ (z2 : Nat) (I2 J2 : GI) (a1 a2 : Nat), a1 ≤ k1 + 1 → a2 ≤ k2 + 6 → LI I2 → GW G p l e room_1 s m args below meth c 7 z2 N0 SH RR I2 J2 a1 a2 Q 1965 [some (vA b), some (vR 0), some (vR 231), some (vR 236), some (vI (i : Int)), none, none] []) :
    GW G p l e room_1 s m args below meth c 7 z N0 SH RR I J k1 k2 Q 742 [some (vA b), some (vR 0), some (vR 231), some (vR 236), some (vI (i : Int)), none, none] [] := by
  obtain ⟨x1, hx1, ex1⟩ := xi_ex (xs (i + 1))
  obtain ⟨x2, hx2, ex2⟩ := xi_ex (xs (i + 2))
  have hLI9 := hLI
  obtain ⟨⟨D9, hCI, hD⟩, hz, ⟨hp, h30⟩, hs⟩ := hLI9
  have ho := hCI.1.1.2.1
  have hkb : inI (kJoinOf (I 232) x1 x2) := by unfold kJoinOf; (repeat' split) <;> exact ⟨by decide, by decide⟩
  refine gw_aload_n C 1 dL_law_742 rfl rfl ?_
  refine gw_aloadA_n C 0 dL_law_743 rfl rfl ?_
  refine gw_iload C dL_law_744 rfl ?_
  refine gw_iconst C dL_law_746 ?_
  refine gw_iadd C dL_law_747 ?_
  refine gw_ialdX C hX hb (x := x1) (i + 1) (by omega) (by omega) (by omega) ex1 dL_law_748 ?_
  refine gw_aloadA_n C 0 dL_law_749 rfl rfl ?_
  refine gw_iload C dL_law_750 rfl ?_
  refine gw_iconst C dL_law_752 ?_
  refine gw_iadd C dL_law_753 ?_
  refine gw_ialdX C hX hb (x := x2) (i + 2) (by omega) (by omega) (by omega) ex2 dL_law_754 ?_
  refine gw_aload_n C 3 dL_law_755 rfl rfl ?_
  refine gw_callSH C (as := [vR 0, vI x1, vI x2, vR 236]) (st := []) (c_L_joinOf hl0 G I J hCI x1 x2 hx1 hx2) dL_law_756 kL_136 qL_joinOf hdL_joinOf ⟨Nat.le_of_ble_eq_true rfl, Nat.le_of_ble_eq_true rfl⟩ ⟨(show _ ≤ 601024 from by omega), (show _ ≤ 7293034 from by omega)⟩ (Nat.le_of_ble_eq_true rfl) rfl (fun _ _ _ _ h => h.elim) ?_
  intro v9 z9 I1 J1 hv9
  obtain ⟨ev, eI, w0, w1⟩ := hv9
  rw [ev, eI]
  show GW G p l e room_1 s m args below meth c 7 z9 N0 SH RR I J1 (k1 + 1) (k2 + 6) Q 759 [some (vA b), some (vR 0), some (vR 231), some (vR 236), some (vI (i : Int)), none, none] [vI (kJoinOf (I 232) x1 x2)]
  refine gw_istore C (lo1 := [some (vA b), some (vR 0), some (vR 231), some (vR 236), some (vI (i : Int)), some (vI (kJoinOf (I 232) x1 x2)), none]) dL_law_759 (by decide) rfl ?_
  refine gw_aload_n C 2 dL_law_761 rfl rfl ?_
  refine gw_aloadA_n C 0 dL_law_762 rfl rfl ?_
  refine gw_iload C dL_law_763 rfl ?_
  refine gw_iconst C dL_law_765 ?_
  refine gw_iadd C dL_law_766 ?_
  refine gw_ialdX C hX hb (x := x1) (i + 1) (by omega) (by omega) (by omega) ex1 dL_law_767 ?_
  refine gw_aloadA_n C 0 dL_law_768 rfl rfl ?_
  refine gw_iload C dL_law_769 rfl ?_
  refine gw_iconst C dL_law_771 ?_
  refine gw_iadd C dL_law_772 ?_
  refine gw_ialdX C hX hb (x := x2) (i + 2) (by omega) (by omega) (by omega) ex2 dL_law_773 ?_
  refine gw_callV C (as := [vI x1, vI x2]) (st := []) (ci := 7) (T0 := TX8) (N := 10) (c_X8_joinOf hl0 G I J1 ho x1 x2 hx1 hx2) dL_law_774 kL_138 qX8_joinOf hdX8_joinOf ⟨Nat.le_of_ble_eq_true rfl, Nat.le_of_ble_eq_true rfl⟩ ⟨(show _ ≤ 601024 from by omega), (show _ ≤ 7293034 from by omega)⟩ (Nat.le_of_ble_eq_true rfl) rfl xs_231 xn_231 rfl (fun _ _ _ _ h => h.elim) ?_
  intro v8 z8 I2 J2 hv8
  obtain ⟨ev8, eI8, eJ8⟩ := hv8
  have t6 : I2 231 6 = kJoinOf (I 232) x1 x2 := by rw [eI8, up_eq]
  rw [ev8, eJ8]
  refine gw_norm ?_
  show GW G p l e room_1 s m args below meth c 7 z8 N0 SH RR I2 J1 (k1 + 1) (k2 + 6) Q 777 [some (vA b), some (vR 0), some (vR 231), some (vR 236), some (vI (i : Int)), some (vI (kJoinOf (I 232) x1 x2)), none] [vI (i32 (if kJoinOf (I 232) x1 x2 = 0 then (rJoinOf (I 232) x1.toNat x2) else 0))]
  refine gw_istore C (lo1 := [some (vA b), some (vR 0), some (vR 231), some (vR 236), some (vI (i : Int)), some (vI (kJoinOf (I 232) x1 x2)), some (vI (i32 (if kJoinOf (I 232) x1 x2 = 0 then (rJoinOf (I 232) x1.toNat x2) else 0)))]) dL_law_777 (by decide) rfl ?_
  refine gw_aload_n C 2 dL_law_779 rfl rfl ?_
  refine gw_callVm C (as := []) (st := []) (ci := 7) (T0 := TX8) (N := 10) (c_X8_thrown hl0 G I2 J1) dL_law_780 kL_110 qX8_thrown hdX8_thrown ⟨Nat.le_of_ble_eq_true rfl, Nat.le_of_ble_eq_true rfl⟩ ⟨(show _ ≤ 601024 from by omega), (show _ ≤ 7293034 from by omega)⟩ (Nat.le_of_ble_eq_true rfl) rfl xs_231 xn_231 rfl (fun z_780 => ?_)
  rw [t6]
  refine gw_iload C dL_law_783 rfl ?_
  refine gw_icmp_eq C (tgt := 790) dL_law_785 (by decide) hkb hkb (fun _ => ?_) (fun h => absurd h (by exact fun q => q rfl))
  refine gw_iload C dL_law_790 rfl ?_
  refine gw_if_ne C (tgt := 807) dL_law_792 (by decide) hkb (fun h_792 => ?_) (fun h_792 => ?_)
  · skip
    have hne := h_792
    refine gw_goto C (tgt := 1965) dL_law_807 (by decide) ?_
    exact gw_weak (lo' := [some (vA b), some (vR 0), some (vR 231), some (vR 236), some (vI (i : Int)), none, none]) ⟨rfl, rfl, rfl, rfl, rfl, trivial⟩ (kk _ _ _ _ _ (by omega) (by omega) (li_fr hLI (fun q f _ h9 => by rw [eI8]; exact up_nn (by omega))))
  · skip
    have hne : (kJoinOf (I 232) x1 x2) = 0 := h_792
    refine gw_aload_n C 3 dL_law_795 rfl rfl ?_
    refine gw_iconst C dL_law_796 ?_
    refine gw_lald C 0 dL_law_797 xs_236 xn_236 (by omega) (by omega) (by decide) ?_
    refine gw_iload C dL_law_798 rfl ?_
    refine gw_i2l C dL_law_800 (i32_in _) ?_
    refine gw_lcmpE C dL_law_801 (by rw [w0 hne, up_eq, if_pos hne]) ?_
    refine gw_if_eq C (tgt := 807) dL_law_802 (by decide) ⟨by decide, by decide⟩ (fun _ => ?_) (fun h => absurd h (by decide))
    refine gw_goto C (tgt := 1965) dL_law_807 (by decide) ?_
    exact gw_weak (lo' := [some (vA b), some (vR 0), some (vR 231), some (vR 236), some (vI (i : Int)), none, none]) ⟨rfl, rfl, rfl, rfl, rfl, trivial⟩ (kk _ _ _ _ _ (by omega) (by omega) (li_fr hLI (fun q f _ h9 => by rw [eI8]; exact up_nn (by omega))))
set_option maxHeartbeats 4000000 in
set_option maxRecDepth 100000 in
theorem law_traverse {l : Launch} (hl0 : l.stackTraces = false) {G : GG} {p : Program} {e : Env} {s : State} {m : MethodId} {args : Array Value} {below : List Frame} {meth : Method} {c : Code} {Q : State → Prop} {nm9 : String} (C : gC G p l s m args meth c cL_law 7 RL (some .boolean) nm9) {b L : Nat} {xs : Nat → Int32} (hX : va_X b L xs s s.heap) (hb : b < G.1) (hL : L ≤ 3584) {i : Nat} (hi : i + 7 ≤ L) {k1 k2 : Nat} (hk1 : k1 + 1 ≤ 601024) (hk2 : k2 + 6 ≤ 7293034) {z : Nat} {I J : GI} (hLI : LI I)
    (kk : ∀ (z2 : Nat) (I2 J2 : GI) (a1 a2 : Nat), a1 ≤ k1 + 1 → a2 ≤ k2 + 6 → LI I2 → GW G p l e room_1 s m args below meth c 7 z2 N0 SH RR I2 J2 a1 a2 Q 1965 [some (vA b), some (vR 0), some (vR 231), some (vR 236), some (vI (i : Int)), none, none] []) :
    GW G p l e room_1 s m args below meth c 7 z N0 SH RR I J k1 k2 Q 1138 [some (vA b), some (vR 0), some (vR 231), some (vR 236), some (vI (i : Int)), none, none] [] := by
  obtain ⟨x1, hx1, ex1⟩ := xi_ex (xs (i + 1))
  obtain ⟨x2, hx2, ex2⟩ := xi_ex (xs (i + 2))
  have hLI9 := hLI
  obtain ⟨⟨D9, hCI, hD⟩, hz, ⟨hp, h30⟩, hs⟩ := hLI9
  have ho := hCI.1.1.2.1
  have hkb : inI (kTrav (I 232) x1 x2) := by unfold kTrav; (repeat' split) <;> exact ⟨by decide, by decide⟩
  refine gw_aload_n C 1 dL_law_1138 rfl rfl ?_
  refine gw_aloadA_n C 0 dL_law_1139 rfl rfl ?_
  refine gw_iload C dL_law_1140 rfl ?_
  refine gw_iconst C dL_law_1142 ?_
  refine gw_iadd C dL_law_1143 ?_
  refine gw_ialdX C hX hb (x := x1) (i + 1) (by omega) (by omega) (by omega) ex1 dL_law_1144 ?_
  refine gw_aloadA_n C 0 dL_law_1145 rfl rfl ?_
  refine gw_iload C dL_law_1146 rfl ?_
  refine gw_iconst C dL_law_1148 ?_
  refine gw_iadd C dL_law_1149 ?_
  refine gw_ialdX C hX hb (x := x2) (i + 2) (by omega) (by omega) (by omega) ex2 dL_law_1150 ?_
  refine gw_aload_n C 3 dL_law_1151 rfl rfl ?_
  refine gw_callSH C (as := [vR 0, vI x1, vI x2, vR 236]) (st := []) (c_L_traverse hl0 G I J hCI x1 x2 hx1 hx2) dL_law_1152 kL_155 qL_traverse hdL_traverse ⟨Nat.le_of_ble_eq_true rfl, Nat.le_of_ble_eq_true rfl⟩ ⟨(show _ ≤ 601024 from by omega), (show _ ≤ 7293034 from by omega)⟩ (Nat.le_of_ble_eq_true rfl) rfl (fun _ _ _ _ h => h.elim) ?_
  intro v9 z9 I1 J1 hv9
  obtain ⟨ev, eI, w0, w1⟩ := hv9
  rw [ev, eI]
  show GW G p l e room_1 s m args below meth c 7 z9 N0 SH RR I J1 (k1 + 1) (k2 + 6) Q 1155 [some (vA b), some (vR 0), some (vR 231), some (vR 236), some (vI (i : Int)), none, none] [vI (kTrav (I 232) x1 x2)]
  refine gw_istore C (lo1 := [some (vA b), some (vR 0), some (vR 231), some (vR 236), some (vI (i : Int)), some (vI (kTrav (I 232) x1 x2)), none]) dL_law_1155 (by decide) rfl ?_
  refine gw_aload_n C 2 dL_law_1157 rfl rfl ?_
  refine gw_aloadA_n C 0 dL_law_1158 rfl rfl ?_
  refine gw_iload C dL_law_1159 rfl ?_
  refine gw_iconst C dL_law_1161 ?_
  refine gw_iadd C dL_law_1162 ?_
  refine gw_ialdX C hX hb (x := x1) (i + 1) (by omega) (by omega) (by omega) ex1 dL_law_1163 ?_
  refine gw_aloadA_n C 0 dL_law_1164 rfl rfl ?_
  refine gw_iload C dL_law_1165 rfl ?_
  refine gw_iconst C dL_law_1167 ?_
  refine gw_iadd C dL_law_1168 ?_
  refine gw_ialdX C hX hb (x := x2) (i + 2) (by omega) (by omega) (by omega) ex2 dL_law_1169 ?_
  refine gw_callV C (as := [vI x1, vI x2]) (st := []) (ci := 7) (T0 := TX8) (N := 10) (c_X8_traverse hl0 G I J1 ho x1 x2 hx1 hx2) dL_law_1170 kL_157 qX8_traverse hdX8_traverse ⟨Nat.le_of_ble_eq_true rfl, Nat.le_of_ble_eq_true rfl⟩ ⟨(show _ ≤ 601024 from by omega), (show _ ≤ 7293034 from by omega)⟩ (Nat.le_of_ble_eq_true rfl) rfl xs_231 xn_231 rfl (fun _ _ _ _ h => h.elim) ?_
  intro v8 z8 I2 J2 hv8
  obtain ⟨ev8, eI8, eJ8⟩ := hv8
  have t6 : I2 231 6 = kTrav (I 232) x1 x2 := by rw [eI8, up_eq]
  rw [ev8, eJ8]
  refine gw_norm ?_
  show GW G p l e room_1 s m args below meth c 7 z8 N0 SH RR I2 J1 (k1 + 1) (k2 + 6) Q 1173 [some (vA b), some (vR 0), some (vR 231), some (vR 236), some (vI (i : Int)), some (vI (kTrav (I 232) x1 x2)), none] [vI (i32 (if kTrav (I 232) x1 x2 = 0 then (rTrav (I 232) x1.toNat x2) else 0))]
  refine gw_istore C (lo1 := [some (vA b), some (vR 0), some (vR 231), some (vR 236), some (vI (i : Int)), some (vI (kTrav (I 232) x1 x2)), some (vI (i32 (if kTrav (I 232) x1 x2 = 0 then (rTrav (I 232) x1.toNat x2) else 0)))]) dL_law_1173 (by decide) rfl ?_
  refine gw_aload_n C 2 dL_law_1175 rfl rfl ?_
  refine gw_callVm C (as := []) (st := []) (ci := 7) (T0 := TX8) (N := 10) (c_X8_thrown hl0 G I2 J1) dL_law_1176 kL_110 qX8_thrown hdX8_thrown ⟨Nat.le_of_ble_eq_true rfl, Nat.le_of_ble_eq_true rfl⟩ ⟨(show _ ≤ 601024 from by omega), (show _ ≤ 7293034 from by omega)⟩ (Nat.le_of_ble_eq_true rfl) rfl xs_231 xn_231 rfl (fun z_1176 => ?_)
  rw [t6]
  refine gw_iload C dL_law_1179 rfl ?_
  refine gw_icmp_eq C (tgt := 1186) dL_law_1181 (by decide) hkb hkb (fun _ => ?_) (fun h => absurd h (by exact fun q => q rfl))
  refine gw_iload C dL_law_1186 rfl ?_
  refine gw_if_ne C (tgt := 1203) dL_law_1188 (by decide) hkb (fun h_1188 => ?_) (fun h_1188 => ?_)
  · skip
    have hne := h_1188
    refine gw_goto C (tgt := 1965) dL_law_1203 (by decide) ?_
    exact gw_weak (lo' := [some (vA b), some (vR 0), some (vR 231), some (vR 236), some (vI (i : Int)), none, none]) ⟨rfl, rfl, rfl, rfl, rfl, trivial⟩ (kk _ _ _ _ _ (by omega) (by omega) (li_fr hLI (fun q f _ h9 => by rw [eI8]; exact up_nn (by omega))))
  · skip
    have hne : (kTrav (I 232) x1 x2) = 0 := h_1188
    refine gw_aload_n C 3 dL_law_1191 rfl rfl ?_
    refine gw_iconst C dL_law_1192 ?_
    refine gw_lald C 0 dL_law_1193 xs_236 xn_236 (by omega) (by omega) (by decide) ?_
    refine gw_iload C dL_law_1194 rfl ?_
    refine gw_i2l C dL_law_1196 (i32_in _) ?_
    refine gw_lcmpE C dL_law_1197 (by rw [w0 hne, up_eq, if_pos hne]) ?_
    refine gw_if_eq C (tgt := 1203) dL_law_1198 (by decide) ⟨by decide, by decide⟩ (fun _ => ?_) (fun h => absurd h (by decide))
    refine gw_goto C (tgt := 1965) dL_law_1203 (by decide) ?_
    exact gw_weak (lo' := [some (vA b), some (vR 0), some (vR 231), some (vR 236), some (vI (i : Int)), none, none]) ⟨rfl, rfl, rfl, rfl, rfl, trivial⟩ (kk _ _ _ _ _ (by omega) (by omega) (li_fr hLI (fun q f _ h9 => by rw [eI8]; exact up_nn (by omega))))
set_option maxHeartbeats 4000000 in
set_option maxRecDepth 100000 in
theorem law_leg {l : Launch} (hl0 : l.stackTraces = false) {G : GG} {p : Program} {e : Env} {s : State} {m : MethodId} {args : Array Value} {below : List Frame} {meth : Method} {c : Code} {Q : State → Prop} {nm9 : String} (C : gC G p l s m args meth c cL_law 7 RL (some .boolean) nm9) {b L : Nat} {xs : Nat → Int32} (hX : va_X b L xs s s.heap) (hb : b < G.1) (hL : L ≤ 3584) {i : Nat} (hi : i + 7 ≤ L) {k1 k2 : Nat} (hk1 : k1 + 1 ≤ 601024) (hk2 : k2 + 6 ≤ 7293034) {z : Nat} {I J : GI} (hLI : LI I)
    (kk : ∀ (z2 : Nat) (I2 J2 : GI) (a1 a2 : Nat), a1 ≤ k1 + 1 → a2 ≤ k2 + 6 → LI I2 → GW G p l e room_1 s m args below meth c 7 z2 N0 SH RR I2 J2 a1 a2 Q 1965 [some (vA b), some (vR 0), some (vR 231), some (vR 236), some (vI (i : Int)), none, none] []) :
    GW G p l e room_1 s m args below meth c 7 z N0 SH RR I J k1 k2 Q 1206 [some (vA b), some (vR 0), some (vR 231), some (vR 236), some (vI (i : Int)), none, none] [] := by
  obtain ⟨x1, hx1, ex1⟩ := xi_ex (xs (i + 1))
  obtain ⟨x2, hx2, ex2⟩ := xi_ex (xs (i + 2))
  obtain ⟨x3, hx3, ex3⟩ := xi_ex (xs (i + 3))
  have hLI9 := hLI
  obtain ⟨⟨D9, hCI, hD⟩, hz, ⟨hp, h30⟩, hs⟩ := hLI9
  have ho := hCI.1.1.2.1
  have hkb : inI (kLeg (I 232) x1 x2 x3) := by unfold kLeg; (repeat' split) <;> exact ⟨by decide, by decide⟩
  refine gw_aload_n C 1 dL_law_1206 rfl rfl ?_
  refine gw_aloadA_n C 0 dL_law_1207 rfl rfl ?_
  refine gw_iload C dL_law_1208 rfl ?_
  refine gw_iconst C dL_law_1210 ?_
  refine gw_iadd C dL_law_1211 ?_
  refine gw_ialdX C hX hb (x := x1) (i + 1) (by omega) (by omega) (by omega) ex1 dL_law_1212 ?_
  refine gw_aloadA_n C 0 dL_law_1213 rfl rfl ?_
  refine gw_iload C dL_law_1214 rfl ?_
  refine gw_iconst C dL_law_1216 ?_
  refine gw_iadd C dL_law_1217 ?_
  refine gw_ialdX C hX hb (x := x2) (i + 2) (by omega) (by omega) (by omega) ex2 dL_law_1218 ?_
  refine gw_aloadA_n C 0 dL_law_1219 rfl rfl ?_
  refine gw_iload C dL_law_1220 rfl ?_
  refine gw_iconst C dL_law_1222 ?_
  refine gw_iadd C dL_law_1223 ?_
  refine gw_ialdX C hX hb (x := x3) (i + 3) (by omega) (by omega) (by omega) ex3 dL_law_1224 ?_
  refine gw_aload_n C 3 dL_law_1225 rfl rfl ?_
  refine gw_callSH C (as := [vR 0, vI x1, vI x2, vI x3, vR 236]) (st := []) (c_L_leg hl0 G I J hCI x1 x2 x3 hx1 hx2 hx3) dL_law_1226 kL_158 qL_leg hdL_leg ⟨Nat.le_of_ble_eq_true rfl, Nat.le_of_ble_eq_true rfl⟩ ⟨(show _ ≤ 601024 from by omega), (show _ ≤ 7293034 from by omega)⟩ (Nat.le_of_ble_eq_true rfl) rfl (fun _ _ _ _ h => h.elim) ?_
  intro v9 z9 I1 J1 hv9
  obtain ⟨ev, eI, w0, w1⟩ := hv9
  rw [ev, eI]
  show GW G p l e room_1 s m args below meth c 7 z9 N0 SH RR I J1 (k1 + 1) (k2 + 6) Q 1229 [some (vA b), some (vR 0), some (vR 231), some (vR 236), some (vI (i : Int)), none, none] [vI (kLeg (I 232) x1 x2 x3)]
  refine gw_istore C (lo1 := [some (vA b), some (vR 0), some (vR 231), some (vR 236), some (vI (i : Int)), some (vI (kLeg (I 232) x1 x2 x3)), none]) dL_law_1229 (by decide) rfl ?_
  refine gw_aload_n C 2 dL_law_1231 rfl rfl ?_
  refine gw_aloadA_n C 0 dL_law_1232 rfl rfl ?_
  refine gw_iload C dL_law_1233 rfl ?_
  refine gw_iconst C dL_law_1235 ?_
  refine gw_iadd C dL_law_1236 ?_
  refine gw_ialdX C hX hb (x := x1) (i + 1) (by omega) (by omega) (by omega) ex1 dL_law_1237 ?_
  refine gw_aloadA_n C 0 dL_law_1238 rfl rfl ?_
  refine gw_iload C dL_law_1239 rfl ?_
  refine gw_iconst C dL_law_1241 ?_
  refine gw_iadd C dL_law_1242 ?_
  refine gw_ialdX C hX hb (x := x2) (i + 2) (by omega) (by omega) (by omega) ex2 dL_law_1243 ?_
  refine gw_aloadA_n C 0 dL_law_1244 rfl rfl ?_
  refine gw_iload C dL_law_1245 rfl ?_
  refine gw_iconst C dL_law_1247 ?_
  refine gw_iadd C dL_law_1248 ?_
  refine gw_ialdX C hX hb (x := x3) (i + 3) (by omega) (by omega) (by omega) ex3 dL_law_1249 ?_
  refine gw_callV C (as := [vI x1, vI x2, vI x3]) (st := []) (ci := 7) (T0 := TX8) (N := 10) (c_X8_leg hl0 G I J1 ho x1 x2 x3 hx1 hx2 hx3) dL_law_1250 kL_160 qX8_leg hdX8_leg ⟨Nat.le_of_ble_eq_true rfl, Nat.le_of_ble_eq_true rfl⟩ ⟨(show _ ≤ 601024 from by omega), (show _ ≤ 7293034 from by omega)⟩ (Nat.le_of_ble_eq_true rfl) rfl xs_231 xn_231 rfl (fun _ _ _ _ h => h.elim) ?_
  intro v8 z8 I2 J2 hv8
  obtain ⟨ev8, eI8, eJ8⟩ := hv8
  have t6 : I2 231 6 = kLeg (I 232) x1 x2 x3 := by rw [eI8, up_eq]
  rw [ev8, eJ8]
  refine gw_norm ?_
  show GW G p l e room_1 s m args below meth c 7 z8 N0 SH RR I2 J1 (k1 + 1) (k2 + 6) Q 1253 [some (vA b), some (vR 0), some (vR 231), some (vR 236), some (vI (i : Int)), some (vI (kLeg (I 232) x1 x2 x3)), none] [vI (i32 (if kLeg (I 232) x1 x2 x3 = 0 then (rLeg (I 232) x1.toNat x2.toNat x3) else 0))]
  refine gw_istore C (lo1 := [some (vA b), some (vR 0), some (vR 231), some (vR 236), some (vI (i : Int)), some (vI (kLeg (I 232) x1 x2 x3)), some (vI (i32 (if kLeg (I 232) x1 x2 x3 = 0 then (rLeg (I 232) x1.toNat x2.toNat x3) else 0)))]) dL_law_1253 (by decide) rfl ?_
  refine gw_aload_n C 2 dL_law_1255 rfl rfl ?_
  refine gw_callVm C (as := []) (st := []) (ci := 7) (T0 := TX8) (N := 10) (c_X8_thrown hl0 G I2 J1) dL_law_1256 kL_110 qX8_thrown hdX8_thrown ⟨Nat.le_of_ble_eq_true rfl, Nat.le_of_ble_eq_true rfl⟩ ⟨(show _ ≤ 601024 from by omega), (show _ ≤ 7293034 from by omega)⟩ (Nat.le_of_ble_eq_true rfl) rfl xs_231 xn_231 rfl (fun z_1256 => ?_)
  rw [t6]
  refine gw_iload C dL_law_1259 rfl ?_
  refine gw_icmp_eq C (tgt := 1266) dL_law_1261 (by decide) hkb hkb (fun _ => ?_) (fun h => absurd h (by exact fun q => q rfl))
  refine gw_iload C dL_law_1266 rfl ?_
  refine gw_if_ne C (tgt := 1283) dL_law_1268 (by decide) hkb (fun h_1268 => ?_) (fun h_1268 => ?_)
  · skip
    have hne := h_1268
    refine gw_goto C (tgt := 1965) dL_law_1283 (by decide) ?_
    exact gw_weak (lo' := [some (vA b), some (vR 0), some (vR 231), some (vR 236), some (vI (i : Int)), none, none]) ⟨rfl, rfl, rfl, rfl, rfl, trivial⟩ (kk _ _ _ _ _ (by omega) (by omega) (li_fr hLI (fun q f _ h9 => by rw [eI8]; exact up_nn (by omega))))
  · skip
    have hne : (kLeg (I 232) x1 x2 x3) = 0 := h_1268
    refine gw_aload_n C 3 dL_law_1271 rfl rfl ?_
    refine gw_iconst C dL_law_1272 ?_
    refine gw_lald C 0 dL_law_1273 xs_236 xn_236 (by omega) (by omega) (by decide) ?_
    refine gw_iload C dL_law_1274 rfl ?_
    refine gw_i2l C dL_law_1276 (i32_in _) ?_
    refine gw_lcmpE C dL_law_1277 (by rw [w0 hne, up_eq, if_pos hne]) ?_
    refine gw_if_eq C (tgt := 1283) dL_law_1278 (by decide) ⟨by decide, by decide⟩ (fun _ => ?_) (fun h => absurd h (by decide))
    refine gw_goto C (tgt := 1965) dL_law_1283 (by decide) ?_
    exact gw_weak (lo' := [some (vA b), some (vR 0), some (vR 231), some (vR 236), some (vI (i : Int)), none, none]) ⟨rfl, rfl, rfl, rfl, rfl, trivial⟩ (kk _ _ _ _ _ (by omega) (by omega) (li_fr hLI (fun q f _ h9 => by rw [eI8]; exact up_nn (by omega))))
set_option maxHeartbeats 4000000 in
set_option maxRecDepth 100000 in
theorem law_trouble {l : Launch} (hl0 : l.stackTraces = false) {G : GG} {p : Program} {e : Env} {s : State} {m : MethodId} {args : Array Value} {below : List Frame} {meth : Method} {c : Code} {Q : State → Prop} {nm9 : String} (C : gC G p l s m args meth c cL_law 7 RL (some .boolean) nm9) {b L : Nat} {xs : Nat → Int32} (hX : va_X b L xs s s.heap) (hb : b < G.1) (hL : L ≤ 3584) {i : Nat} (hi : i + 7 ≤ L) {k1 k2 : Nat} (hk1 : k1 + 1 ≤ 601024) (hk2 : k2 + 6 ≤ 7293034) {z : Nat} {I J : GI} (hLI : LI I)
    (kk : ∀ (z2 : Nat) (I2 J2 : GI) (a1 a2 : Nat), a1 ≤ k1 + 1 → a2 ≤ k2 + 6 → LI I2 → GW G p l e room_1 s m args below meth c 7 z2 N0 SH RR I2 J2 a1 a2 Q 1965 [some (vA b), some (vR 0), some (vR 231), some (vR 236), some (vI (i : Int)), none, none] []) :
    GW G p l e room_1 s m args below meth c 7 z N0 SH RR I J k1 k2 Q 1286 [some (vA b), some (vR 0), some (vR 231), some (vR 236), some (vI (i : Int)), none, none] [] := by
  obtain ⟨x1, hx1, ex1⟩ := xi_ex (xs (i + 1))
  obtain ⟨x2, hx2, ex2⟩ := xi_ex (xs (i + 2))
  have hLI9 := hLI
  obtain ⟨⟨D9, hCI, hD⟩, hz, ⟨hp, h30⟩, hs⟩ := hLI9
  have ho := hCI.1.1.2.1
  have hkb : inI (kTrb (I 232) x1) := by unfold kTrb; (repeat' split) <;> exact ⟨by decide, by decide⟩
  refine gw_aload_n C 1 dL_law_1286 rfl rfl ?_
  refine gw_aloadA_n C 0 dL_law_1287 rfl rfl ?_
  refine gw_iload C dL_law_1288 rfl ?_
  refine gw_iconst C dL_law_1290 ?_
  refine gw_iadd C dL_law_1291 ?_
  refine gw_ialdX C hX hb (x := x1) (i + 1) (by omega) (by omega) (by omega) ex1 dL_law_1292 ?_
  refine gw_aloadA_n C 0 dL_law_1293 rfl rfl ?_
  refine gw_iload C dL_law_1294 rfl ?_
  refine gw_iconst C dL_law_1296 ?_
  refine gw_iadd C dL_law_1297 ?_
  refine gw_ialdX C hX hb (x := x2) (i + 2) (by omega) (by omega) (by omega) ex2 dL_law_1298 ?_
  refine gw_aload_n C 3 dL_law_1299 rfl rfl ?_
  refine gw_callSH C (as := [vR 0, vI x1, vI x2, vR 236]) (st := []) (c_L_trouble hl0 G I J hCI x1 x2 hx1 hx2) dL_law_1300 kL_161 qL_trouble hdL_trouble ⟨Nat.le_of_ble_eq_true rfl, Nat.le_of_ble_eq_true rfl⟩ ⟨(show _ ≤ 601024 from by omega), (show _ ≤ 7293034 from by omega)⟩ (Nat.le_of_ble_eq_true rfl) rfl (fun _ _ _ _ h => h.elim) ?_
  intro v9 z9 I1 J1 hv9
  obtain ⟨ev, eI, w0, w1⟩ := hv9
  rw [ev, eI]
  show GW G p l e room_1 s m args below meth c 7 z9 N0 SH RR I J1 (k1 + 1) (k2 + 6) Q 1303 [some (vA b), some (vR 0), some (vR 231), some (vR 236), some (vI (i : Int)), none, none] [vI (kTrb (I 232) x1)]
  refine gw_istore C (lo1 := [some (vA b), some (vR 0), some (vR 231), some (vR 236), some (vI (i : Int)), some (vI (kTrb (I 232) x1)), none]) dL_law_1303 (by decide) rfl ?_
  refine gw_aload_n C 2 dL_law_1305 rfl rfl ?_
  refine gw_aloadA_n C 0 dL_law_1306 rfl rfl ?_
  refine gw_iload C dL_law_1307 rfl ?_
  refine gw_iconst C dL_law_1309 ?_
  refine gw_iadd C dL_law_1310 ?_
  refine gw_ialdX C hX hb (x := x1) (i + 1) (by omega) (by omega) (by omega) ex1 dL_law_1311 ?_
  refine gw_aloadA_n C 0 dL_law_1312 rfl rfl ?_
  refine gw_iload C dL_law_1313 rfl ?_
  refine gw_iconst C dL_law_1315 ?_
  refine gw_iadd C dL_law_1316 ?_
  refine gw_ialdX C hX hb (x := x2) (i + 2) (by omega) (by omega) (by omega) ex2 dL_law_1317 ?_
  refine gw_callV C (as := [vI x1, vI x2]) (st := []) (ci := 7) (T0 := TX8) (N := 10) (c_X8_trouble hl0 G I J1 ho x1 x2 hx1 hx2) dL_law_1318 kL_163 qX8_trouble hdX8_trouble ⟨Nat.le_of_ble_eq_true rfl, Nat.le_of_ble_eq_true rfl⟩ ⟨(show _ ≤ 601024 from by omega), (show _ ≤ 7293034 from by omega)⟩ (Nat.le_of_ble_eq_true rfl) rfl xs_231 xn_231 rfl (fun _ _ _ _ h => h.elim) ?_
  intro v8 z8 I2 J2 hv8
  obtain ⟨ev8, eI8, eJ8⟩ := hv8
  have t6 : I2 231 6 = kTrb (I 232) x1 := by rw [eI8, up_eq]
  rw [ev8, eJ8]
  refine gw_norm ?_
  show GW G p l e room_1 s m args below meth c 7 z8 N0 SH RR I2 J1 (k1 + 1) (k2 + 6) Q 1321 [some (vA b), some (vR 0), some (vR 231), some (vR 236), some (vI (i : Int)), some (vI (kTrb (I 232) x1)), none] [vI (i32 (if kTrb (I 232) x1 = 0 then (rTrb (I 232) x1.toNat x2) else 0))]
  refine gw_istore C (lo1 := [some (vA b), some (vR 0), some (vR 231), some (vR 236), some (vI (i : Int)), some (vI (kTrb (I 232) x1)), some (vI (i32 (if kTrb (I 232) x1 = 0 then (rTrb (I 232) x1.toNat x2) else 0)))]) dL_law_1321 (by decide) rfl ?_
  refine gw_aload_n C 2 dL_law_1323 rfl rfl ?_
  refine gw_callVm C (as := []) (st := []) (ci := 7) (T0 := TX8) (N := 10) (c_X8_thrown hl0 G I2 J1) dL_law_1324 kL_110 qX8_thrown hdX8_thrown ⟨Nat.le_of_ble_eq_true rfl, Nat.le_of_ble_eq_true rfl⟩ ⟨(show _ ≤ 601024 from by omega), (show _ ≤ 7293034 from by omega)⟩ (Nat.le_of_ble_eq_true rfl) rfl xs_231 xn_231 rfl (fun z_1324 => ?_)
  rw [t6]
  refine gw_iload C dL_law_1327 rfl ?_
  refine gw_icmp_eq C (tgt := 1334) dL_law_1329 (by decide) hkb hkb (fun _ => ?_) (fun h => absurd h (by exact fun q => q rfl))
  refine gw_iload C dL_law_1334 rfl ?_
  refine gw_if_ne C (tgt := 1351) dL_law_1336 (by decide) hkb (fun h_1336 => ?_) (fun h_1336 => ?_)
  · skip
    have hne := h_1336
    refine gw_goto C (tgt := 1965) dL_law_1351 (by decide) ?_
    exact gw_weak (lo' := [some (vA b), some (vR 0), some (vR 231), some (vR 236), some (vI (i : Int)), none, none]) ⟨rfl, rfl, rfl, rfl, rfl, trivial⟩ (kk _ _ _ _ _ (by omega) (by omega) (li_fr hLI (fun q f _ h9 => by rw [eI8]; exact up_nn (by omega))))
  · skip
    have hne : (kTrb (I 232) x1) = 0 := h_1336
    refine gw_aload_n C 3 dL_law_1339 rfl rfl ?_
    refine gw_iconst C dL_law_1340 ?_
    refine gw_lald C 0 dL_law_1341 xs_236 xn_236 (by omega) (by omega) (by decide) ?_
    refine gw_iload C dL_law_1342 rfl ?_
    refine gw_i2l C dL_law_1344 (i32_in _) ?_
    refine gw_lcmpE C dL_law_1345 (by rw [w0 hne, up_eq, if_pos hne]) ?_
    refine gw_if_eq C (tgt := 1351) dL_law_1346 (by decide) ⟨by decide, by decide⟩ (fun _ => ?_) (fun h => absurd h (by decide))
    refine gw_goto C (tgt := 1965) dL_law_1351 (by decide) ?_
    exact gw_weak (lo' := [some (vA b), some (vR 0), some (vR 231), some (vR 236), some (vI (i : Int)), none, none]) ⟨rfl, rfl, rfl, rfl, rfl, trivial⟩ (kk _ _ _ _ _ (by omega) (by omega) (li_fr hLI (fun q f _ h9 => by rw [eI8]; exact up_nn (by omega))))
set_option maxHeartbeats 4000000 in
set_option maxRecDepth 100000 in
theorem law_apart {l : Launch} (hl0 : l.stackTraces = false) {G : GG} {p : Program} {e : Env} {s : State} {m : MethodId} {args : Array Value} {below : List Frame} {meth : Method} {c : Code} {Q : State → Prop} {nm9 : String} (C : gC G p l s m args meth c cL_law 7 RL (some .boolean) nm9) {b L : Nat} {xs : Nat → Int32} (hX : va_X b L xs s s.heap) (hb : b < G.1) (hL : L ≤ 3584) {i : Nat} (hi : i + 7 ≤ L) {k1 k2 : Nat} (hk1 : k1 + 1 ≤ 601024) (hk2 : k2 + 6 ≤ 7293034) {z : Nat} {I J : GI} (hLI : LI I)
    (kk : ∀ (z2 : Nat) (I2 J2 : GI) (a1 a2 : Nat), a1 ≤ k1 + 1 → a2 ≤ k2 + 6 → LI I2 → GW G p l e room_1 s m args below meth c 7 z2 N0 SH RR I2 J2 a1 a2 Q 1965 [some (vA b), some (vR 0), some (vR 231), some (vR 236), some (vI (i : Int)), none, none] []) :
    GW G p l e room_1 s m args below meth c 7 z N0 SH RR I J k1 k2 Q 1354 [some (vA b), some (vR 0), some (vR 231), some (vR 236), some (vI (i : Int)), none, none] [] := by
  obtain ⟨x1, hx1, ex1⟩ := xi_ex (xs (i + 1))
  obtain ⟨x2, hx2, ex2⟩ := xi_ex (xs (i + 2))
  have hLI9 := hLI
  obtain ⟨⟨D9, hCI, hD⟩, hz, ⟨hp, h30⟩, hs⟩ := hLI9
  have ho := hCI.1.1.2.1
  have hkb : inI (kTwo (I 232) x1 x2) := by unfold kTwo; (repeat' split) <;> exact ⟨by decide, by decide⟩
  refine gw_aload_n C 1 dL_law_1354 rfl rfl ?_
  refine gw_aloadA_n C 0 dL_law_1355 rfl rfl ?_
  refine gw_iload C dL_law_1356 rfl ?_
  refine gw_iconst C dL_law_1358 ?_
  refine gw_iadd C dL_law_1359 ?_
  refine gw_ialdX C hX hb (x := x1) (i + 1) (by omega) (by omega) (by omega) ex1 dL_law_1360 ?_
  refine gw_aloadA_n C 0 dL_law_1361 rfl rfl ?_
  refine gw_iload C dL_law_1362 rfl ?_
  refine gw_iconst C dL_law_1364 ?_
  refine gw_iadd C dL_law_1365 ?_
  refine gw_ialdX C hX hb (x := x2) (i + 2) (by omega) (by omega) (by omega) ex2 dL_law_1366 ?_
  refine gw_aload_n C 3 dL_law_1367 rfl rfl ?_
  refine gw_callSH C (as := [vR 0, vI x1, vI x2, vR 236]) (st := []) (c_L_apart hl0 G I J hCI x1 x2 hx1 hx2) dL_law_1368 kL_164 qL_apart hdL_apart ⟨Nat.le_of_ble_eq_true rfl, Nat.le_of_ble_eq_true rfl⟩ ⟨(show _ ≤ 601024 from by omega), (show _ ≤ 7293034 from by omega)⟩ (Nat.le_of_ble_eq_true rfl) rfl (fun _ _ _ _ h => h.elim) ?_
  intro v9 z9 I1 J1 hv9
  obtain ⟨ev, eI, w0, w1⟩ := hv9
  rw [ev, eI]
  show GW G p l e room_1 s m args below meth c 7 z9 N0 SH RR I J1 (k1 + 1) (k2 + 6) Q 1371 [some (vA b), some (vR 0), some (vR 231), some (vR 236), some (vI (i : Int)), none, none] [vI (kTwo (I 232) x1 x2)]
  refine gw_istore C (lo1 := [some (vA b), some (vR 0), some (vR 231), some (vR 236), some (vI (i : Int)), some (vI (kTwo (I 232) x1 x2)), none]) dL_law_1371 (by decide) rfl ?_
  refine gw_aload_n C 2 dL_law_1373 rfl rfl ?_
  refine gw_aloadA_n C 0 dL_law_1374 rfl rfl ?_
  refine gw_iload C dL_law_1375 rfl ?_
  refine gw_iconst C dL_law_1377 ?_
  refine gw_iadd C dL_law_1378 ?_
  refine gw_ialdX C hX hb (x := x1) (i + 1) (by omega) (by omega) (by omega) ex1 dL_law_1379 ?_
  refine gw_aloadA_n C 0 dL_law_1380 rfl rfl ?_
  refine gw_iload C dL_law_1381 rfl ?_
  refine gw_iconst C dL_law_1383 ?_
  refine gw_iadd C dL_law_1384 ?_
  refine gw_ialdX C hX hb (x := x2) (i + 2) (by omega) (by omega) (by omega) ex2 dL_law_1385 ?_
  refine gw_callV C (as := [vI x1, vI x2]) (st := []) (ci := 7) (T0 := TX8) (N := 10) (c_X8_apart hl0 G I J1 ho x1 x2 hx1 hx2) dL_law_1386 kL_166 qX8_apart hdX8_apart ⟨Nat.le_of_ble_eq_true rfl, Nat.le_of_ble_eq_true rfl⟩ ⟨(show _ ≤ 601024 from by omega), (show _ ≤ 7293034 from by omega)⟩ (Nat.le_of_ble_eq_true rfl) rfl xs_231 xn_231 rfl (fun _ _ _ _ h => h.elim) ?_
  intro v8 z8 I2 J2 hv8
  obtain ⟨ev8, eI8, eJ8⟩ := hv8
  have t6 : I2 231 6 = kTwo (I 232) x1 x2 := by rw [eI8, up_eq]
  rw [ev8, eJ8]
  refine gw_norm ?_
  show GW G p l e room_1 s m args below meth c 7 z8 N0 SH RR I2 J1 (k1 + 1) (k2 + 6) Q 1389 [some (vA b), some (vR 0), some (vR 231), some (vR 236), some (vI (i : Int)), some (vI (kTwo (I 232) x1 x2)), none] [vI (i32 (if kTwo (I 232) x1 x2 = 0 then (rApart (I 232) x1.toNat x2.toNat) else 0))]
  refine gw_istore C (lo1 := [some (vA b), some (vR 0), some (vR 231), some (vR 236), some (vI (i : Int)), some (vI (kTwo (I 232) x1 x2)), some (vI (i32 (if kTwo (I 232) x1 x2 = 0 then (rApart (I 232) x1.toNat x2.toNat) else 0)))]) dL_law_1389 (by decide) rfl ?_
  refine gw_aload_n C 2 dL_law_1391 rfl rfl ?_
  refine gw_callVm C (as := []) (st := []) (ci := 7) (T0 := TX8) (N := 10) (c_X8_thrown hl0 G I2 J1) dL_law_1392 kL_110 qX8_thrown hdX8_thrown ⟨Nat.le_of_ble_eq_true rfl, Nat.le_of_ble_eq_true rfl⟩ ⟨(show _ ≤ 601024 from by omega), (show _ ≤ 7293034 from by omega)⟩ (Nat.le_of_ble_eq_true rfl) rfl xs_231 xn_231 rfl (fun z_1392 => ?_)
  rw [t6]
  refine gw_iload C dL_law_1395 rfl ?_
  refine gw_icmp_eq C (tgt := 1402) dL_law_1397 (by decide) hkb hkb (fun _ => ?_) (fun h => absurd h (by exact fun q => q rfl))
  refine gw_iload C dL_law_1402 rfl ?_
  refine gw_if_ne C (tgt := 1419) dL_law_1404 (by decide) hkb (fun h_1404 => ?_) (fun h_1404 => ?_)
  · skip
    have hne := h_1404
    refine gw_goto C (tgt := 1965) dL_law_1419 (by decide) ?_
    exact gw_weak (lo' := [some (vA b), some (vR 0), some (vR 231), some (vR 236), some (vI (i : Int)), none, none]) ⟨rfl, rfl, rfl, rfl, rfl, trivial⟩ (kk _ _ _ _ _ (by omega) (by omega) (li_fr hLI (fun q f _ h9 => by rw [eI8]; exact up_nn (by omega))))
  · skip
    have hne : (kTwo (I 232) x1 x2) = 0 := h_1404
    refine gw_aload_n C 3 dL_law_1407 rfl rfl ?_
    refine gw_iconst C dL_law_1408 ?_
    refine gw_lald C 0 dL_law_1409 xs_236 xn_236 (by omega) (by omega) (by decide) ?_
    refine gw_iload C dL_law_1410 rfl ?_
    refine gw_i2l C dL_law_1412 (i32_in _) ?_
    refine gw_lcmpE C dL_law_1413 (by rw [w0 hne, up_eq, if_pos hne]) ?_
    refine gw_if_eq C (tgt := 1419) dL_law_1414 (by decide) ⟨by decide, by decide⟩ (fun _ => ?_) (fun h => absurd h (by decide))
    refine gw_goto C (tgt := 1965) dL_law_1419 (by decide) ?_
    exact gw_weak (lo' := [some (vA b), some (vR 0), some (vR 231), some (vR 236), some (vI (i : Int)), none, none]) ⟨rfl, rfl, rfl, rfl, rfl, trivial⟩ (kk _ _ _ _ _ (by omega) (by omega) (li_fr hLI (fun q f _ h9 => by rw [eI8]; exact up_nn (by omega))))
set_option maxHeartbeats 4000000 in
set_option maxRecDepth 100000 in
theorem law_sine {l : Launch} (hl0 : l.stackTraces = false) {G : GG} {p : Program} {e : Env} {s : State} {m : MethodId} {args : Array Value} {below : List Frame} {meth : Method} {c : Code} {Q : State → Prop} {nm9 : String} (C : gC G p l s m args meth c cL_law 7 RL (some .boolean) nm9) {b L : Nat} {xs : Nat → Int32} (hX : va_X b L xs s s.heap) (hb : b < G.1) (hL : L ≤ 3584) {i : Nat} (hi : i + 7 ≤ L) {k1 k2 : Nat} (hk1 : k1 + 1 ≤ 601024) (hk2 : k2 + 6 ≤ 7293034) {z : Nat} {I J : GI} (hLI : LI I)
    (kk : ∀ (z2 : Nat) (I2 J2 : GI) (a1 a2 : Nat), a1 ≤ k1 + 1 → a2 ≤ k2 + 6 → LI I2 → GW G p l e room_1 s m args below meth c 7 z2 N0 SH RR I2 J2 a1 a2 Q 1965 [some (vA b), some (vR 0), some (vR 231), some (vR 236), some (vI (i : Int)), none, none] []) :
    GW G p l e room_1 s m args below meth c 7 z N0 SH RR I J k1 k2 Q 1497 [some (vA b), some (vR 0), some (vR 231), some (vR 236), some (vI (i : Int)), none, none] [] := by
  obtain ⟨x1, hx1, ex1⟩ := xi_ex (xs (i + 1))
  have hLI9 := hLI
  obtain ⟨⟨D9, hCI, hD⟩, hz, ⟨hp, h30⟩, hs⟩ := hLI9
  have ho := hCI.1.1.2.1
  have hkb : inI (kSine x1) := by unfold kSine; (repeat' split) <;> exact ⟨by decide, by decide⟩
  refine gw_aload_n C 1 dL_law_1497 rfl rfl ?_
  refine gw_aloadA_n C 0 dL_law_1498 rfl rfl ?_
  refine gw_iload C dL_law_1499 rfl ?_
  refine gw_iconst C dL_law_1501 ?_
  refine gw_iadd C dL_law_1502 ?_
  refine gw_ialdX C hX hb (x := x1) (i + 1) (by omega) (by omega) (by omega) ex1 dL_law_1503 ?_
  refine gw_aload_n C 3 dL_law_1504 rfl rfl ?_
  refine gw_callSH C (as := [vR 0, vI x1, vR 236]) (st := []) (c_L_sine hl0 G I J hCI x1 hx1) dL_law_1505 kL_170 qL_sine hdL_sine ⟨Nat.le_of_ble_eq_true rfl, Nat.le_of_ble_eq_true rfl⟩ ⟨(show _ ≤ 601024 from by omega), (show _ ≤ 7293034 from by omega)⟩ (Nat.le_of_ble_eq_true rfl) rfl (fun _ _ _ _ h => h.elim) ?_
  intro v9 z9 I1 J1 hv9
  obtain ⟨ev, eI, w0, w1⟩ := hv9
  rw [ev, eI]
  show GW G p l e room_1 s m args below meth c 7 z9 N0 SH RR I J1 (k1 + 1) (k2 + 6) Q 1508 [some (vA b), some (vR 0), some (vR 231), some (vR 236), some (vI (i : Int)), none, none] [vI (kSine x1)]
  refine gw_istore C (lo1 := [some (vA b), some (vR 0), some (vR 231), some (vR 236), some (vI (i : Int)), some (vI (kSine x1)), none]) dL_law_1508 (by decide) rfl ?_
  refine gw_aload_n C 2 dL_law_1510 rfl rfl ?_
  refine gw_aloadA_n C 0 dL_law_1511 rfl rfl ?_
  refine gw_iload C dL_law_1512 rfl ?_
  refine gw_iconst C dL_law_1514 ?_
  refine gw_iadd C dL_law_1515 ?_
  refine gw_ialdX C hX hb (x := x1) (i + 1) (by omega) (by omega) (by omega) ex1 dL_law_1516 ?_
  refine gw_callV C (as := [vI x1]) (st := []) (ci := 7) (T0 := TX8) (N := 10) (c_X8_sine hl0 G I J1 ho x1 hx1) dL_law_1517 kL_172 qX8_sine hdX8_sine ⟨Nat.le_of_ble_eq_true rfl, Nat.le_of_ble_eq_true rfl⟩ ⟨(show _ ≤ 601024 from by omega), (show _ ≤ 7293034 from by omega)⟩ (Nat.le_of_ble_eq_true rfl) rfl xs_231 xn_231 rfl (fun _ _ _ _ h => h.elim) ?_
  intro v8 z8 I2 J2 hv8
  obtain ⟨ev8, eI8, eJ8⟩ := hv8
  have t6 : I2 231 6 = kSine x1 := by rw [eI8, up_eq]
  rw [ev8, eJ8]
  refine gw_norm ?_
  show GW G p l e room_1 s m args below meth c 7 z8 N0 SH RR I2 J1 (k1 + 1) (k2 + 6) Q 1520 [some (vA b), some (vR 0), some (vR 231), some (vR 236), some (vI (i : Int)), some (vI (kSine x1)), none] [vI (i32 (if kSine x1 = 0 then (sinZ x1) else 0))]
  refine gw_istore C (lo1 := [some (vA b), some (vR 0), some (vR 231), some (vR 236), some (vI (i : Int)), some (vI (kSine x1)), some (vI (i32 (if kSine x1 = 0 then (sinZ x1) else 0)))]) dL_law_1520 (by decide) rfl ?_
  refine gw_aload_n C 2 dL_law_1522 rfl rfl ?_
  refine gw_callVm C (as := []) (st := []) (ci := 7) (T0 := TX8) (N := 10) (c_X8_thrown hl0 G I2 J1) dL_law_1523 kL_110 qX8_thrown hdX8_thrown ⟨Nat.le_of_ble_eq_true rfl, Nat.le_of_ble_eq_true rfl⟩ ⟨(show _ ≤ 601024 from by omega), (show _ ≤ 7293034 from by omega)⟩ (Nat.le_of_ble_eq_true rfl) rfl xs_231 xn_231 rfl (fun z_1523 => ?_)
  rw [t6]
  refine gw_iload C dL_law_1526 rfl ?_
  refine gw_icmp_eq C (tgt := 1533) dL_law_1528 (by decide) hkb hkb (fun _ => ?_) (fun h => absurd h (by exact fun q => q rfl))
  refine gw_iload C dL_law_1533 rfl ?_
  refine gw_if_ne C (tgt := 1550) dL_law_1535 (by decide) hkb (fun h_1535 => ?_) (fun h_1535 => ?_)
  · skip
    have hne := h_1535
    refine gw_goto C (tgt := 1965) dL_law_1550 (by decide) ?_
    exact gw_weak (lo' := [some (vA b), some (vR 0), some (vR 231), some (vR 236), some (vI (i : Int)), none, none]) ⟨rfl, rfl, rfl, rfl, rfl, trivial⟩ (kk _ _ _ _ _ (by omega) (by omega) (li_fr hLI (fun q f _ h9 => by rw [eI8]; exact up_nn (by omega))))
  · skip
    have hne : (kSine x1) = 0 := h_1535
    refine gw_aload_n C 3 dL_law_1538 rfl rfl ?_
    refine gw_iconst C dL_law_1539 ?_
    refine gw_lald C 0 dL_law_1540 xs_236 xn_236 (by omega) (by omega) (by decide) ?_
    refine gw_iload C dL_law_1541 rfl ?_
    refine gw_i2l C dL_law_1543 (i32_in _) ?_
    refine gw_lcmpE C dL_law_1544 (by rw [w0 hne, up_eq, if_pos hne]) ?_
    refine gw_if_eq C (tgt := 1550) dL_law_1545 (by decide) ⟨by decide, by decide⟩ (fun _ => ?_) (fun h => absurd h (by decide))
    refine gw_goto C (tgt := 1965) dL_law_1550 (by decide) ?_
    exact gw_weak (lo' := [some (vA b), some (vR 0), some (vR 231), some (vR 236), some (vI (i : Int)), none, none]) ⟨rfl, rfl, rfl, rfl, rfl, trivial⟩ (kk _ _ _ _ _ (by omega) (by omega) (li_fr hLI (fun q f _ h9 => by rw [eI8]; exact up_nn (by omega))))
set_option maxHeartbeats 4000000 in
set_option maxRecDepth 100000 in
theorem law_suspect {l : Launch} (hl0 : l.stackTraces = false) {G : GG} {p : Program} {e : Env} {s : State} {m : MethodId} {args : Array Value} {below : List Frame} {meth : Method} {c : Code} {Q : State → Prop} {nm9 : String} (C : gC G p l s m args meth c cL_law 7 RL (some .boolean) nm9) {b L : Nat} {xs : Nat → Int32} (hX : va_X b L xs s s.heap) (hb : b < G.1) (hL : L ≤ 3584) {i : Nat} (hi : i + 7 ≤ L) {k1 k2 : Nat} (hk1 : k1 + 1 ≤ 601024) (hk2 : k2 + 6 ≤ 7293034) {z : Nat} {I J : GI} (hLI : LI I)
    (kk : ∀ (z2 : Nat) (I2 J2 : GI) (a1 a2 : Nat), a1 ≤ k1 + 1 → a2 ≤ k2 + 6 → LI I2 → GW G p l e room_1 s m args below meth c 7 z2 N0 SH RR I2 J2 a1 a2 Q 1965 [some (vA b), some (vR 0), some (vR 231), some (vR 236), some (vI (i : Int)), none, none] []) :
    GW G p l e room_1 s m args below meth c 7 z N0 SH RR I J k1 k2 Q 1553 [some (vA b), some (vR 0), some (vR 231), some (vR 236), some (vI (i : Int)), none, none] [] := by
  obtain ⟨x1, hx1, ex1⟩ := xi_ex (xs (i + 1))
  have hLI9 := hLI
  obtain ⟨⟨D9, hCI, hD⟩, hz, ⟨hp, h30⟩, hs⟩ := hLI9
  have ho := hCI.1.1.2.1
  have hkb : inI (kTrb (I 232) x1) := by unfold kTrb; (repeat' split) <;> exact ⟨by decide, by decide⟩
  refine gw_aload_n C 1 dL_law_1553 rfl rfl ?_
  refine gw_aloadA_n C 0 dL_law_1554 rfl rfl ?_
  refine gw_iload C dL_law_1555 rfl ?_
  refine gw_iconst C dL_law_1557 ?_
  refine gw_iadd C dL_law_1558 ?_
  refine gw_ialdX C hX hb (x := x1) (i + 1) (by omega) (by omega) (by omega) ex1 dL_law_1559 ?_
  refine gw_aload_n C 3 dL_law_1560 rfl rfl ?_
  refine gw_callSH C (as := [vR 0, vI x1, vR 236]) (st := []) (c_L_suspect hl0 G I J hCI x1 hx1) dL_law_1561 kL_173 qL_suspect hdL_suspect ⟨Nat.le_of_ble_eq_true rfl, Nat.le_of_ble_eq_true rfl⟩ ⟨(show _ ≤ 601024 from by omega), (show _ ≤ 7293034 from by omega)⟩ (Nat.le_of_ble_eq_true rfl) rfl (fun _ _ _ _ h => h.elim) ?_
  intro v9 z9 I1 J1 hv9
  obtain ⟨ev, eI, w0, w1⟩ := hv9
  rw [ev, eI]
  show GW G p l e room_1 s m args below meth c 7 z9 N0 SH RR I J1 (k1 + 1) (k2 + 6) Q 1564 [some (vA b), some (vR 0), some (vR 231), some (vR 236), some (vI (i : Int)), none, none] [vI (kTrb (I 232) x1)]
  refine gw_istore C (lo1 := [some (vA b), some (vR 0), some (vR 231), some (vR 236), some (vI (i : Int)), some (vI (kTrb (I 232) x1)), none]) dL_law_1564 (by decide) rfl ?_
  refine gw_aload_n C 2 dL_law_1566 rfl rfl ?_
  refine gw_aloadA_n C 0 dL_law_1567 rfl rfl ?_
  refine gw_iload C dL_law_1568 rfl ?_
  refine gw_iconst C dL_law_1570 ?_
  refine gw_iadd C dL_law_1571 ?_
  refine gw_ialdX C hX hb (x := x1) (i + 1) (by omega) (by omega) (by omega) ex1 dL_law_1572 ?_
  refine gw_callV C (as := [vI x1]) (st := []) (ci := 7) (T0 := TX8) (N := 10) (c_X8_suspect hl0 G I J1 ho x1 hx1) dL_law_1573 kL_175 qX8_suspect hdX8_suspect ⟨Nat.le_of_ble_eq_true rfl, Nat.le_of_ble_eq_true rfl⟩ ⟨(show _ ≤ 601024 from by omega), (show _ ≤ 7293034 from by omega)⟩ (Nat.le_of_ble_eq_true rfl) rfl xs_231 xn_231 rfl (fun _ _ _ _ h => h.elim) ?_
  intro v8 z8 I2 J2 hv8
  obtain ⟨ev8, eI8, eJ8⟩ := hv8
  have t6 : I2 231 6 = kTrb (I 232) x1 := by rw [eI8, up_eq]
  rw [ev8, eJ8]
  refine gw_norm ?_
  show GW G p l e room_1 s m args below meth c 7 z8 N0 SH RR I2 J1 (k1 + 1) (k2 + 6) Q 1576 [some (vA b), some (vR 0), some (vR 231), some (vR 236), some (vI (i : Int)), some (vI (kTrb (I 232) x1)), none] [vI (i32 (if kTrb (I 232) x1 = 0 then (rSus (I 232) x1.toNat) else 0))]
  refine gw_istore C (lo1 := [some (vA b), some (vR 0), some (vR 231), some (vR 236), some (vI (i : Int)), some (vI (kTrb (I 232) x1)), some (vI (i32 (if kTrb (I 232) x1 = 0 then (rSus (I 232) x1.toNat) else 0)))]) dL_law_1576 (by decide) rfl ?_
  refine gw_aload_n C 2 dL_law_1578 rfl rfl ?_
  refine gw_callVm C (as := []) (st := []) (ci := 7) (T0 := TX8) (N := 10) (c_X8_thrown hl0 G I2 J1) dL_law_1579 kL_110 qX8_thrown hdX8_thrown ⟨Nat.le_of_ble_eq_true rfl, Nat.le_of_ble_eq_true rfl⟩ ⟨(show _ ≤ 601024 from by omega), (show _ ≤ 7293034 from by omega)⟩ (Nat.le_of_ble_eq_true rfl) rfl xs_231 xn_231 rfl (fun z_1579 => ?_)
  rw [t6]
  refine gw_iload C dL_law_1582 rfl ?_
  refine gw_icmp_eq C (tgt := 1589) dL_law_1584 (by decide) hkb hkb (fun _ => ?_) (fun h => absurd h (by exact fun q => q rfl))
  refine gw_iload C dL_law_1589 rfl ?_
  refine gw_if_ne C (tgt := 1606) dL_law_1591 (by decide) hkb (fun h_1591 => ?_) (fun h_1591 => ?_)
  · skip
    have hne := h_1591
    refine gw_goto C (tgt := 1965) dL_law_1606 (by decide) ?_
    exact gw_weak (lo' := [some (vA b), some (vR 0), some (vR 231), some (vR 236), some (vI (i : Int)), none, none]) ⟨rfl, rfl, rfl, rfl, rfl, trivial⟩ (kk _ _ _ _ _ (by omega) (by omega) (li_fr hLI (fun q f _ h9 => by rw [eI8]; exact up_nn (by omega))))
  · skip
    have hne : (kTrb (I 232) x1) = 0 := h_1591
    refine gw_aload_n C 3 dL_law_1594 rfl rfl ?_
    refine gw_iconst C dL_law_1595 ?_
    refine gw_lald C 0 dL_law_1596 xs_236 xn_236 (by omega) (by omega) (by decide) ?_
    refine gw_iload C dL_law_1597 rfl ?_
    refine gw_i2l C dL_law_1599 (i32_in _) ?_
    refine gw_lcmpE C dL_law_1600 (by rw [w0 hne, up_eq, if_pos hne]) ?_
    refine gw_if_eq C (tgt := 1606) dL_law_1601 (by decide) ⟨by decide, by decide⟩ (fun _ => ?_) (fun h => absurd h (by decide))
    refine gw_goto C (tgt := 1965) dL_law_1606 (by decide) ?_
    exact gw_weak (lo' := [some (vA b), some (vR 0), some (vR 231), some (vR 236), some (vI (i : Int)), none, none]) ⟨rfl, rfl, rfl, rfl, rfl, trivial⟩ (kk _ _ _ _ _ (by omega) (by omega) (li_fr hLI (fun q f _ h9 => by rw [eI8]; exact up_nn (by omega))))
set_option maxHeartbeats 4000000 in
set_option maxRecDepth 100000 in
theorem law_angleFor {l : Launch} (hl0 : l.stackTraces = false) {G : GG} {p : Program} {e : Env} {s : State} {m : MethodId} {args : Array Value} {below : List Frame} {meth : Method} {c : Code} {Q : State → Prop} {nm9 : String} (C : gC G p l s m args meth c cL_law 7 RL (some .boolean) nm9) {b L : Nat} {xs : Nat → Int32} (hX : va_X b L xs s s.heap) (hb : b < G.1) (hL : L ≤ 3584) {i : Nat} (hi : i + 7 ≤ L) {k1 k2 : Nat} (hk1 : k1 + 1 ≤ 601024) (hk2 : k2 + 6 ≤ 7293034) {z : Nat} {I J : GI} (hLI : LI I)
    (kk : ∀ (z2 : Nat) (I2 J2 : GI) (a1 a2 : Nat), a1 ≤ k1 + 1 → a2 ≤ k2 + 6 → LI I2 → GW G p l e room_1 s m args below meth c 7 z2 N0 SH RR I2 J2 a1 a2 Q 1965 [some (vA b), some (vR 0), some (vR 231), some (vR 236), some (vI (i : Int)), none, none] []) :
    GW G p l e room_1 s m args below meth c 7 z N0 SH RR I J k1 k2 Q 1609 [some (vA b), some (vR 0), some (vR 231), some (vR 236), some (vI (i : Int)), none, none] [] := by
  obtain ⟨x1, hx1, ex1⟩ := xi_ex (xs (i + 1))
  obtain ⟨x2, hx2, ex2⟩ := xi_ex (xs (i + 2))
  obtain ⟨x3, hx3, ex3⟩ := xi_ex (xs (i + 3))
  have hLI9 := hLI
  obtain ⟨⟨D9, hCI, hD⟩, hz, ⟨hp, h30⟩, hs⟩ := hLI9
  have ho := hCI.1.1.2.1
  have hkb : inI (kFor (I 232) x1 x2 x3) := by unfold kFor; (repeat' split) <;> exact ⟨by decide, by decide⟩
  refine gw_aload_n C 1 dL_law_1609 rfl rfl ?_
  refine gw_aloadA_n C 0 dL_law_1610 rfl rfl ?_
  refine gw_iload C dL_law_1611 rfl ?_
  refine gw_iconst C dL_law_1613 ?_
  refine gw_iadd C dL_law_1614 ?_
  refine gw_ialdX C hX hb (x := x1) (i + 1) (by omega) (by omega) (by omega) ex1 dL_law_1615 ?_
  refine gw_aloadA_n C 0 dL_law_1616 rfl rfl ?_
  refine gw_iload C dL_law_1617 rfl ?_
  refine gw_iconst C dL_law_1619 ?_
  refine gw_iadd C dL_law_1620 ?_
  refine gw_ialdX C hX hb (x := x2) (i + 2) (by omega) (by omega) (by omega) ex2 dL_law_1621 ?_
  refine gw_aloadA_n C 0 dL_law_1622 rfl rfl ?_
  refine gw_iload C dL_law_1623 rfl ?_
  refine gw_iconst C dL_law_1625 ?_
  refine gw_iadd C dL_law_1626 ?_
  refine gw_ialdX C hX hb (x := x3) (i + 3) (by omega) (by omega) (by omega) ex3 dL_law_1627 ?_
  refine gw_aload_n C 3 dL_law_1628 rfl rfl ?_
  refine gw_callSH C (as := [vR 0, vI x1, vI x2, vI x3, vR 236]) (st := []) (c_L_angleFor hl0 G I J hCI x1 x2 x3 hx1 hx2 hx3) dL_law_1629 kL_176 qL_angleFor hdL_angleFor ⟨Nat.le_of_ble_eq_true rfl, Nat.le_of_ble_eq_true rfl⟩ ⟨(show _ ≤ 601024 from by omega), (show _ ≤ 7293034 from by omega)⟩ (Nat.le_of_ble_eq_true rfl) rfl (fun _ _ _ _ h => h.elim) ?_
  intro v9 z9 I1 J1 hv9
  obtain ⟨ev, eI, w0, w1⟩ := hv9
  rw [ev, eI]
  show GW G p l e room_1 s m args below meth c 7 z9 N0 SH RR I J1 (k1 + 1) (k2 + 6) Q 1632 [some (vA b), some (vR 0), some (vR 231), some (vR 236), some (vI (i : Int)), none, none] [vI (kFor (I 232) x1 x2 x3)]
  refine gw_istore C (lo1 := [some (vA b), some (vR 0), some (vR 231), some (vR 236), some (vI (i : Int)), some (vI (kFor (I 232) x1 x2 x3)), none]) dL_law_1632 (by decide) rfl ?_
  refine gw_aload_n C 2 dL_law_1634 rfl rfl ?_
  refine gw_aloadA_n C 0 dL_law_1635 rfl rfl ?_
  refine gw_iload C dL_law_1636 rfl ?_
  refine gw_iconst C dL_law_1638 ?_
  refine gw_iadd C dL_law_1639 ?_
  refine gw_ialdX C hX hb (x := x1) (i + 1) (by omega) (by omega) (by omega) ex1 dL_law_1640 ?_
  refine gw_aloadA_n C 0 dL_law_1641 rfl rfl ?_
  refine gw_iload C dL_law_1642 rfl ?_
  refine gw_iconst C dL_law_1644 ?_
  refine gw_iadd C dL_law_1645 ?_
  refine gw_ialdX C hX hb (x := x2) (i + 2) (by omega) (by omega) (by omega) ex2 dL_law_1646 ?_
  refine gw_aloadA_n C 0 dL_law_1647 rfl rfl ?_
  refine gw_iload C dL_law_1648 rfl ?_
  refine gw_iconst C dL_law_1650 ?_
  refine gw_iadd C dL_law_1651 ?_
  refine gw_ialdX C hX hb (x := x3) (i + 3) (by omega) (by omega) (by omega) ex3 dL_law_1652 ?_
  refine gw_callV C (as := [vI x1, vI x2, vI x3]) (st := []) (ci := 7) (T0 := TX8) (N := 10) (c_X8_angleFor hl0 G I J1 ho x1 x2 x3 hx1 hx2 hx3) dL_law_1653 kL_178 qX8_angleFor hdX8_angleFor ⟨Nat.le_of_ble_eq_true rfl, Nat.le_of_ble_eq_true rfl⟩ ⟨(show _ ≤ 601024 from by omega), (show _ ≤ 7293034 from by omega)⟩ (Nat.le_of_ble_eq_true rfl) rfl xs_231 xn_231 rfl (fun _ _ _ _ h => h.elim) ?_
  intro v8 z8 I2 J2 hv8
  obtain ⟨ev8, eI8, eJ8⟩ := hv8
  have t6 : I2 231 6 = kFor (I 232) x1 x2 x3 := by rw [eI8, up_eq]
  rw [ev8, eJ8]
  refine gw_norm ?_
  show GW G p l e room_1 s m args below meth c 7 z8 N0 SH RR I2 J1 (k1 + 1) (k2 + 6) Q 1656 [some (vA b), some (vR 0), some (vR 231), some (vR 236), some (vI (i : Int)), some (vI (kFor (I 232) x1 x2 x3)), none] [vI (i32 (if kFor (I 232) x1 x2 x3 = 0 then (rFor (I 232) x1.toNat x2.toNat x3) else 0))]
  refine gw_istore C (lo1 := [some (vA b), some (vR 0), some (vR 231), some (vR 236), some (vI (i : Int)), some (vI (kFor (I 232) x1 x2 x3)), some (vI (i32 (if kFor (I 232) x1 x2 x3 = 0 then (rFor (I 232) x1.toNat x2.toNat x3) else 0)))]) dL_law_1656 (by decide) rfl ?_
  refine gw_aload_n C 2 dL_law_1658 rfl rfl ?_
  refine gw_callVm C (as := []) (st := []) (ci := 7) (T0 := TX8) (N := 10) (c_X8_thrown hl0 G I2 J1) dL_law_1659 kL_110 qX8_thrown hdX8_thrown ⟨Nat.le_of_ble_eq_true rfl, Nat.le_of_ble_eq_true rfl⟩ ⟨(show _ ≤ 601024 from by omega), (show _ ≤ 7293034 from by omega)⟩ (Nat.le_of_ble_eq_true rfl) rfl xs_231 xn_231 rfl (fun z_1659 => ?_)
  rw [t6]
  refine gw_iload C dL_law_1662 rfl ?_
  refine gw_icmp_eq C (tgt := 1669) dL_law_1664 (by decide) hkb hkb (fun _ => ?_) (fun h => absurd h (by exact fun q => q rfl))
  refine gw_iload C dL_law_1669 rfl ?_
  refine gw_if_ne C (tgt := 1686) dL_law_1671 (by decide) hkb (fun h_1671 => ?_) (fun h_1671 => ?_)
  · skip
    have hne := h_1671
    refine gw_goto C (tgt := 1965) dL_law_1686 (by decide) ?_
    exact gw_weak (lo' := [some (vA b), some (vR 0), some (vR 231), some (vR 236), some (vI (i : Int)), none, none]) ⟨rfl, rfl, rfl, rfl, rfl, trivial⟩ (kk _ _ _ _ _ (by omega) (by omega) (li_fr hLI (fun q f _ h9 => by rw [eI8]; exact up_nn (by omega))))
  · skip
    have hne : (kFor (I 232) x1 x2 x3) = 0 := h_1671
    refine gw_aload_n C 3 dL_law_1674 rfl rfl ?_
    refine gw_iconst C dL_law_1675 ?_
    refine gw_lald C 0 dL_law_1676 xs_236 xn_236 (by omega) (by omega) (by decide) ?_
    refine gw_iload C dL_law_1677 rfl ?_
    refine gw_i2l C dL_law_1679 (i32_in _) ?_
    refine gw_lcmpE C dL_law_1680 (by rw [w0 hne, up_eq, if_pos hne]) ?_
    refine gw_if_eq C (tgt := 1686) dL_law_1681 (by decide) ⟨by decide, by decide⟩ (fun _ => ?_) (fun h => absurd h (by decide))
    refine gw_goto C (tgt := 1965) dL_law_1686 (by decide) ?_
    exact gw_weak (lo' := [some (vA b), some (vR 0), some (vR 231), some (vR 236), some (vI (i : Int)), none, none]) ⟨rfl, rfl, rfl, rfl, rfl, trivial⟩ (kk _ _ _ _ _ (by omega) (by omega) (li_fr hLI (fun q f _ h9 => by rw [eI8]; exact up_nn (by omega))))
set_option maxHeartbeats 4000000 in
set_option maxRecDepth 100000 in
theorem law_reachBy {l : Launch} (hl0 : l.stackTraces = false) {G : GG} {p : Program} {e : Env} {s : State} {m : MethodId} {args : Array Value} {below : List Frame} {meth : Method} {c : Code} {Q : State → Prop} {nm9 : String} (C : gC G p l s m args meth c cL_law 7 RL (some .boolean) nm9) {b L : Nat} {xs : Nat → Int32} (hX : va_X b L xs s s.heap) (hb : b < G.1) (hL : L ≤ 3584) {i : Nat} (hi : i + 7 ≤ L) {k1 k2 : Nat} (hk1 : k1 + 1 ≤ 601024) (hk2 : k2 + 6 ≤ 7293034) {z : Nat} {I J : GI} (hLI : LI I)
    (kk : ∀ (z2 : Nat) (I2 J2 : GI) (a1 a2 : Nat), a1 ≤ k1 + 1 → a2 ≤ k2 + 6 → LI I2 → GW G p l e room_1 s m args below meth c 7 z2 N0 SH RR I2 J2 a1 a2 Q 1965 [some (vA b), some (vR 0), some (vR 231), some (vR 236), some (vI (i : Int)), none, none] []) :
    GW G p l e room_1 s m args below meth c 7 z N0 SH RR I J k1 k2 Q 1689 [some (vA b), some (vR 0), some (vR 231), some (vR 236), some (vI (i : Int)), none, none] [] := by
  obtain ⟨x1, hx1, ex1⟩ := xi_ex (xs (i + 1))
  obtain ⟨x2, hx2, ex2⟩ := xi_ex (xs (i + 2))
  obtain ⟨x3, hx3, ex3⟩ := xi_ex (xs (i + 3))
  obtain ⟨x4, hx4, ex4⟩ := xi_ex (xs (i + 4))
  have hLI9 := hLI
  obtain ⟨⟨D9, hCI, hD⟩, hz, ⟨hp, h30⟩, hs⟩ := hLI9
  have ho := hCI.1.1.2.1
  have hkb : inI (kBy (I 232) x1 x2 x3 x4) := by unfold kBy; (repeat' split) <;> exact ⟨by decide, by decide⟩
  refine gw_aload_n C 1 dL_law_1689 rfl rfl ?_
  refine gw_aloadA_n C 0 dL_law_1690 rfl rfl ?_
  refine gw_iload C dL_law_1691 rfl ?_
  refine gw_iconst C dL_law_1693 ?_
  refine gw_iadd C dL_law_1694 ?_
  refine gw_ialdX C hX hb (x := x1) (i + 1) (by omega) (by omega) (by omega) ex1 dL_law_1695 ?_
  refine gw_aloadA_n C 0 dL_law_1696 rfl rfl ?_
  refine gw_iload C dL_law_1697 rfl ?_
  refine gw_iconst C dL_law_1699 ?_
  refine gw_iadd C dL_law_1700 ?_
  refine gw_ialdX C hX hb (x := x2) (i + 2) (by omega) (by omega) (by omega) ex2 dL_law_1701 ?_
  refine gw_aloadA_n C 0 dL_law_1702 rfl rfl ?_
  refine gw_iload C dL_law_1703 rfl ?_
  refine gw_iconst C dL_law_1705 ?_
  refine gw_iadd C dL_law_1706 ?_
  refine gw_ialdX C hX hb (x := x3) (i + 3) (by omega) (by omega) (by omega) ex3 dL_law_1707 ?_
  refine gw_aloadA_n C 0 dL_law_1708 rfl rfl ?_
  refine gw_iload C dL_law_1709 rfl ?_
  refine gw_iconst C dL_law_1711 ?_
  refine gw_iadd C dL_law_1712 ?_
  refine gw_ialdX C hX hb (x := x4) (i + 4) (by omega) (by omega) (by omega) ex4 dL_law_1713 ?_
  refine gw_aload_n C 3 dL_law_1714 rfl rfl ?_
  refine gw_callSH C (as := [vR 0, vI x1, vI x2, vI x3, vI x4, vR 236]) (st := []) (c_L_reachBy hl0 G I J hCI x1 x2 x3 x4 hx1 hx2 hx3 hx4) dL_law_1715 kL_179 qL_reachBy hdL_reachBy ⟨Nat.le_of_ble_eq_true rfl, Nat.le_of_ble_eq_true rfl⟩ ⟨(show _ ≤ 601024 from by omega), (show _ ≤ 7293034 from by omega)⟩ (Nat.le_of_ble_eq_true rfl) rfl (fun _ _ _ _ h => h.elim) ?_
  intro v9 z9 I1 J1 hv9
  obtain ⟨ev, eI, w0, w1⟩ := hv9
  rw [ev, eI]
  show GW G p l e room_1 s m args below meth c 7 z9 N0 SH RR I J1 (k1 + 1) (k2 + 6) Q 1718 [some (vA b), some (vR 0), some (vR 231), some (vR 236), some (vI (i : Int)), none, none] [vI (kBy (I 232) x1 x2 x3 x4)]
  refine gw_istore C (lo1 := [some (vA b), some (vR 0), some (vR 231), some (vR 236), some (vI (i : Int)), some (vI (kBy (I 232) x1 x2 x3 x4)), none]) dL_law_1718 (by decide) rfl ?_
  refine gw_aload_n C 2 dL_law_1720 rfl rfl ?_
  refine gw_aloadA_n C 0 dL_law_1721 rfl rfl ?_
  refine gw_iload C dL_law_1722 rfl ?_
  refine gw_iconst C dL_law_1724 ?_
  refine gw_iadd C dL_law_1725 ?_
  refine gw_ialdX C hX hb (x := x1) (i + 1) (by omega) (by omega) (by omega) ex1 dL_law_1726 ?_
  refine gw_aloadA_n C 0 dL_law_1727 rfl rfl ?_
  refine gw_iload C dL_law_1728 rfl ?_
  refine gw_iconst C dL_law_1730 ?_
  refine gw_iadd C dL_law_1731 ?_
  refine gw_ialdX C hX hb (x := x2) (i + 2) (by omega) (by omega) (by omega) ex2 dL_law_1732 ?_
  refine gw_aloadA_n C 0 dL_law_1733 rfl rfl ?_
  refine gw_iload C dL_law_1734 rfl ?_
  refine gw_iconst C dL_law_1736 ?_
  refine gw_iadd C dL_law_1737 ?_
  refine gw_ialdX C hX hb (x := x3) (i + 3) (by omega) (by omega) (by omega) ex3 dL_law_1738 ?_
  refine gw_aloadA_n C 0 dL_law_1739 rfl rfl ?_
  refine gw_iload C dL_law_1740 rfl ?_
  refine gw_iconst C dL_law_1742 ?_
  refine gw_iadd C dL_law_1743 ?_
  refine gw_ialdX C hX hb (x := x4) (i + 4) (by omega) (by omega) (by omega) ex4 dL_law_1744 ?_
  refine gw_callV C (as := [vI x1, vI x2, vI x3, vI x4]) (st := []) (ci := 7) (T0 := TX8) (N := 10) (c_X8_reachBy hl0 G I J1 ho x1 x2 x3 x4 hx1 hx2 hx3 hx4) dL_law_1745 kL_182 qX8_reachBy hdX8_reachBy ⟨Nat.le_of_ble_eq_true rfl, Nat.le_of_ble_eq_true rfl⟩ ⟨(show _ ≤ 601024 from by omega), (show _ ≤ 7293034 from by omega)⟩ (Nat.le_of_ble_eq_true rfl) rfl xs_231 xn_231 rfl (fun _ _ _ _ h => h.elim) ?_
  intro v8 z8 I2 J2 hv8
  obtain ⟨ev8, eI8, eJ8⟩ := hv8
  have t6 : I2 231 6 = kBy (I 232) x1 x2 x3 x4 := by rw [eI8, up_eq]
  rw [ev8, eJ8]
  refine gw_norm ?_
  show GW G p l e room_1 s m args below meth c 7 z8 N0 SH RR I2 J1 (k1 + 1) (k2 + 6) Q 1748 [some (vA b), some (vR 0), some (vR 231), some (vR 236), some (vI (i : Int)), some (vI (kBy (I 232) x1 x2 x3 x4)), none] [vI (i32 (if kBy (I 232) x1 x2 x3 x4 = 0 then (rBy (I 232) x1.toNat x2.toNat x3 x4) else 0))]
  refine gw_istore C (lo1 := [some (vA b), some (vR 0), some (vR 231), some (vR 236), some (vI (i : Int)), some (vI (kBy (I 232) x1 x2 x3 x4)), some (vI (i32 (if kBy (I 232) x1 x2 x3 x4 = 0 then (rBy (I 232) x1.toNat x2.toNat x3 x4) else 0)))]) dL_law_1748 (by decide) rfl ?_
  refine gw_aload_n C 2 dL_law_1750 rfl rfl ?_
  refine gw_callVm C (as := []) (st := []) (ci := 7) (T0 := TX8) (N := 10) (c_X8_thrown hl0 G I2 J1) dL_law_1751 kL_110 qX8_thrown hdX8_thrown ⟨Nat.le_of_ble_eq_true rfl, Nat.le_of_ble_eq_true rfl⟩ ⟨(show _ ≤ 601024 from by omega), (show _ ≤ 7293034 from by omega)⟩ (Nat.le_of_ble_eq_true rfl) rfl xs_231 xn_231 rfl (fun z_1751 => ?_)
  rw [t6]
  refine gw_iload C dL_law_1754 rfl ?_
  refine gw_icmp_eq C (tgt := 1761) dL_law_1756 (by decide) hkb hkb (fun _ => ?_) (fun h => absurd h (by exact fun q => q rfl))
  refine gw_iload C dL_law_1761 rfl ?_
  refine gw_if_ne C (tgt := 1778) dL_law_1763 (by decide) hkb (fun h_1763 => ?_) (fun h_1763 => ?_)
  · skip
    have hne := h_1763
    refine gw_goto C (tgt := 1965) dL_law_1778 (by decide) ?_
    exact gw_weak (lo' := [some (vA b), some (vR 0), some (vR 231), some (vR 236), some (vI (i : Int)), none, none]) ⟨rfl, rfl, rfl, rfl, rfl, trivial⟩ (kk _ _ _ _ _ (by omega) (by omega) (li_fr hLI (fun q f _ h9 => by rw [eI8]; exact up_nn (by omega))))
  · skip
    have hne : (kBy (I 232) x1 x2 x3 x4) = 0 := h_1763
    refine gw_aload_n C 3 dL_law_1766 rfl rfl ?_
    refine gw_iconst C dL_law_1767 ?_
    refine gw_lald C 0 dL_law_1768 xs_236 xn_236 (by omega) (by omega) (by decide) ?_
    refine gw_iload C dL_law_1769 rfl ?_
    refine gw_i2l C dL_law_1771 (i32_in _) ?_
    refine gw_lcmpE C dL_law_1772 (by rw [w0 hne, up_eq, if_pos hne]) ?_
    refine gw_if_eq C (tgt := 1778) dL_law_1773 (by decide) ⟨by decide, by decide⟩ (fun _ => ?_) (fun h => absurd h (by decide))
    refine gw_goto C (tgt := 1965) dL_law_1778 (by decide) ?_
    exact gw_weak (lo' := [some (vA b), some (vR 0), some (vR 231), some (vR 236), some (vI (i : Int)), none, none]) ⟨rfl, rfl, rfl, rfl, rfl, trivial⟩ (kk _ _ _ _ _ (by omega) (by omega) (li_fr hLI (fun q f _ h9 => by rw [eI8]; exact up_nn (by omega))))
set_option maxHeartbeats 4000000 in
set_option maxRecDepth 100000 in
theorem law_meets {l : Launch} (hl0 : l.stackTraces = false) {G : GG} {p : Program} {e : Env} {s : State} {m : MethodId} {args : Array Value} {below : List Frame} {meth : Method} {c : Code} {Q : State → Prop} {nm9 : String} (C : gC G p l s m args meth c cL_law 7 RL (some .boolean) nm9) {b L : Nat} {xs : Nat → Int32} (hX : va_X b L xs s s.heap) (hb : b < G.1) (hL : L ≤ 3584) {i : Nat} (hi : i + 7 ≤ L) {k1 k2 : Nat} (hk1 : k1 + 1 ≤ 601024) (hk2 : k2 + 6 ≤ 7293034) {z : Nat} {I J : GI} (hLI : LI I)
    (kk : ∀ (z2 : Nat) (I2 J2 : GI) (a1 a2 : Nat), a1 ≤ k1 + 1 → a2 ≤ k2 + 6 → LI I2 → GW G p l e room_1 s m args below meth c 7 z2 N0 SH RR I2 J2 a1 a2 Q 1965 [some (vA b), some (vR 0), some (vR 231), some (vR 236), some (vI (i : Int)), none, none] []) :
    GW G p l e room_1 s m args below meth c 7 z N0 SH RR I J k1 k2 Q 1422 [some (vA b), some (vR 0), some (vR 231), some (vR 236), some (vI (i : Int)), none, none] [] := by
  obtain ⟨x1, hx1, ex1⟩ := xi_ex (xs (i + 1))
  obtain ⟨x2, hx2, ex2⟩ := xi_ex (xs (i + 2))
  have hLI9 := hLI
  obtain ⟨⟨D9, hCI, hD⟩, hz, ⟨hp, h30⟩, hs⟩ := hLI9
  have ho := hCI.1.1.2.1
  have hkb : inI (kTwo (I 232) x1 x2) := by unfold kTwo; (repeat' split) <;> exact ⟨by decide, by decide⟩
  refine gw_aload_n C 1 dL_law_1422 rfl rfl ?_
  refine gw_aloadA_n C 0 dL_law_1423 rfl rfl ?_
  refine gw_iload C dL_law_1424 rfl ?_
  refine gw_iconst C dL_law_1426 ?_
  refine gw_iadd C dL_law_1427 ?_
  refine gw_ialdX C hX hb (x := x1) (i + 1) (by omega) (by omega) (by omega) ex1 dL_law_1428 ?_
  refine gw_aloadA_n C 0 dL_law_1429 rfl rfl ?_
  refine gw_iload C dL_law_1430 rfl ?_
  refine gw_iconst C dL_law_1432 ?_
  refine gw_iadd C dL_law_1433 ?_
  refine gw_ialdX C hX hb (x := x2) (i + 2) (by omega) (by omega) (by omega) ex2 dL_law_1434 ?_
  refine gw_aload_n C 3 dL_law_1435 rfl rfl ?_
  refine gw_callSH C (as := [vR 0, vI x1, vI x2, vR 236]) (st := []) (c_L_meets hl0 G I J hCI x1 x2 hx1 hx2) dL_law_1436 kL_167 qL_meets hdL_meets ⟨Nat.le_of_ble_eq_true rfl, Nat.le_of_ble_eq_true rfl⟩ ⟨(show _ ≤ 601024 from by omega), (show _ ≤ 7293034 from by omega)⟩ (Nat.le_of_ble_eq_true rfl) rfl (fun _ _ _ _ h => h.elim) ?_
  intro v9 z9 I1 J1 hv9
  obtain ⟨ev, eI, w0, w1⟩ := hv9
  rw [ev, eI]
  show GW G p l e room_1 s m args below meth c 7 z9 N0 SH RR I J1 (k1 + 1) (k2 + 6) Q 1439 [some (vA b), some (vR 0), some (vR 231), some (vR 236), some (vI (i : Int)), none, none] [vI (kTwo (I 232) x1 x2)]
  refine gw_istore C (lo1 := [some (vA b), some (vR 0), some (vR 231), some (vR 236), some (vI (i : Int)), some (vI (kTwo (I 232) x1 x2)), none]) dL_law_1439 (by decide) rfl ?_
  refine gw_aload_n C 2 dL_law_1441 rfl rfl ?_
  refine gw_aloadA_n C 0 dL_law_1442 rfl rfl ?_
  refine gw_iload C dL_law_1443 rfl ?_
  refine gw_iconst C dL_law_1445 ?_
  refine gw_iadd C dL_law_1446 ?_
  refine gw_ialdX C hX hb (x := x1) (i + 1) (by omega) (by omega) (by omega) ex1 dL_law_1447 ?_
  refine gw_aloadA_n C 0 dL_law_1448 rfl rfl ?_
  refine gw_iload C dL_law_1449 rfl ?_
  refine gw_iconst C dL_law_1451 ?_
  refine gw_iadd C dL_law_1452 ?_
  refine gw_ialdX C hX hb (x := x2) (i + 2) (by omega) (by omega) (by omega) ex2 dL_law_1453 ?_
  refine gw_callV C (as := [vI x1, vI x2]) (st := []) (ci := 7) (T0 := TX8) (N := 10) (c_X8_meets hl0 G I J1 ho x1 x2 hx1 hx2) dL_law_1454 kL_169 qX8_meets hdX8_meets ⟨Nat.le_of_ble_eq_true rfl, Nat.le_of_ble_eq_true rfl⟩ ⟨(show _ ≤ 601024 from by omega), (show _ ≤ 7293034 from by omega)⟩ (Nat.le_of_ble_eq_true rfl) rfl xs_231 xn_231 rfl (fun _ _ _ _ h => h.elim) ?_
  intro v8 z8 I2 J2 hv8
  obtain ⟨ev8, eI8, eJ8⟩ := hv8
  have t6 : I2 231 6 = kTwo (I 232) x1 x2 := by rw [eI8, up_eq]
  rw [ev8, eJ8]
  refine gw_norm ?_
  show GW G p l e room_1 s m args below meth c 7 z8 N0 SH RR I2 J1 (k1 + 1) (k2 + 6) Q 1457 [some (vA b), some (vR 0), some (vR 231), some (vR 236), some (vI (i : Int)), some (vI (kTwo (I 232) x1 x2)), none] [vI (i32 (if kTwo (I 232) x1 x2 = 0 then rMeets (I 232) x1.toNat x2.toNat else 0))]
  refine gw_istore C (lo1 := [some (vA b), some (vR 0), some (vR 231), some (vR 236), some (vI (i : Int)), some (vI (kTwo (I 232) x1 x2)), some (vI (i32 (if kTwo (I 232) x1 x2 = 0 then rMeets (I 232) x1.toNat x2.toNat else 0)))]) dL_law_1457 (by decide) rfl ?_
  refine gw_aload_n C 2 dL_law_1459 rfl rfl ?_
  refine gw_callVm C (as := []) (st := []) (ci := 7) (T0 := TX8) (N := 10) (c_X8_thrown hl0 G I2 J1) dL_law_1460 kL_110 qX8_thrown hdX8_thrown ⟨Nat.le_of_ble_eq_true rfl, Nat.le_of_ble_eq_true rfl⟩ ⟨(show _ ≤ 601024 from by omega), (show _ ≤ 7293034 from by omega)⟩ (Nat.le_of_ble_eq_true rfl) rfl xs_231 xn_231 rfl (fun z_1460 => ?_)
  rw [t6]
  refine gw_iload C dL_law_1463 rfl ?_
  refine gw_icmp_eq C (tgt := 1470) dL_law_1465 (by decide) hkb hkb (fun _ => ?_) (fun h => absurd h (by exact fun q => q rfl))
  refine gw_iload C dL_law_1470 rfl ?_
  refine gw_if_ne C (tgt := 1494) dL_law_1472 (by decide) hkb (fun h_1472 => ?_) (fun h_1472 => ?_)
  · skip
    have hne := h_1472
    refine gw_goto C (tgt := 1965) dL_law_1494 (by decide) ?_
    exact gw_weak (lo' := [some (vA b), some (vR 0), some (vR 231), some (vR 236), some (vI (i : Int)), none, none]) ⟨rfl, rfl, rfl, rfl, rfl, trivial⟩ (kk _ _ _ _ _ (by omega) (by omega) (li_fr hLI (fun q f _ h9 => by rw [eI8]; exact up_nn (by omega))))
  · skip
    have hne : (kTwo (I 232) x1 x2) = 0 := h_1472
    refine gw_aload_n C 3 dL_law_1475 rfl rfl ?_
    refine gw_iconst C dL_law_1476 ?_
    refine gw_lald C 0 dL_law_1477 xs_236 xn_236 (by omega) (by omega) (by decide) ?_
    refine gw_iload C dL_law_1478 rfl ?_
    refine gw_if_eq C (tgt := 1487) dL_law_1480 (by decide) (i32_in _) (fun h_1480 => ?_) (fun h_1480 => ?_)
    · skip
      refine gw_lconst C 0 dL_law_1487 (by decide) ?_
      refine gw_lcmpE C dL_law_1488 (by rw [if_pos hne, i32_m] at h_1480; rw [w0 hne, up_eq]; first | rw [if_pos h_1480] | rw [if_neg h_1480]) ?_
      refine gw_if_eq C (tgt := 1494) dL_law_1489 (by decide) ⟨by decide, by decide⟩ (fun _ => ?_) (fun h => absurd h (by decide))
      refine gw_goto C (tgt := 1965) dL_law_1494 (by decide) ?_
      exact gw_weak (lo' := [some (vA b), some (vR 0), some (vR 231), some (vR 236), some (vI (i : Int)), none, none]) ⟨rfl, rfl, rfl, rfl, rfl, trivial⟩ (kk _ _ _ _ _ (by omega) (by omega) (li_fr hLI (fun q f _ h9 => by rw [eI8]; exact up_nn (by omega))))
    · skip
      refine gw_lconst C 1 dL_law_1483 (by decide) ?_
      refine gw_goto C (tgt := 1488) dL_law_1484 (by decide) ?_
      refine gw_lcmpE C dL_law_1488 (by rw [if_pos hne, i32_m] at h_1480; rw [w0 hne, up_eq]; first | rw [if_pos h_1480] | rw [if_neg h_1480]) ?_
      refine gw_if_eq C (tgt := 1494) dL_law_1489 (by decide) ⟨by decide, by decide⟩ (fun _ => ?_) (fun h => absurd h (by decide))
      refine gw_goto C (tgt := 1965) dL_law_1494 (by decide) ?_
      exact gw_weak (lo' := [some (vA b), some (vR 0), some (vR 231), some (vR 236), some (vI (i : Int)), none, none]) ⟨rfl, rfl, rfl, rfl, rfl, trivial⟩ (kk _ _ _ _ _ (by omega) (by omega) (li_fr hLI (fun q f _ h9 => by rw [eI8]; exact up_nn (by omega))))
set_option maxHeartbeats 4000000 in
set_option maxRecDepth 100000 in
theorem law_type {l : Launch} (hl0 : l.stackTraces = false) {G : GG} {p : Program} {e : Env} {s : State} {m : MethodId} {args : Array Value} {below : List Frame} {meth : Method} {c : Code} {Q : State → Prop} {nm9 : String} (C : gC G p l s m args meth c cL_law 7 RL (some .boolean) nm9) {b L : Nat} {xs : Nat → Int32} (hX : va_X b L xs s s.heap) (hb : b < G.1) (hL : L ≤ 3584) {i : Nat} (hi : i + 7 ≤ L) {k1 k2 : Nat} (hk1 : k1 + 1 ≤ 601024) (hk2 : k2 + 6 ≤ 7293034) {z : Nat} {I J : GI} (hLI : LI I)
    (kk : ∀ (z2 : Nat) (I2 J2 : GI) (a1 a2 : Nat), a1 ≤ k1 + 1 → a2 ≤ k2 + 6 → LI I2 → GW G p l e room_1 s m args below meth c 7 z2 N0 SH RR I2 J2 a1 a2 Q 1965 [some (vA b), some (vR 0), some (vR 231), some (vR 236), some (vI (i : Int)), none, none] []) :
    GW G p l e room_1 s m args below meth c 7 z N0 SH RR I J k1 k2 Q 1781 [some (vA b), some (vR 0), some (vR 231), some (vR 236), some (vI (i : Int)), none, none] [] := by
  obtain ⟨x1, hx1, ex1⟩ := xi_ex (xs (i + 1))
  have hLI9 := hLI
  obtain ⟨⟨D9, hCI, hD⟩, hz, ⟨hp, h30⟩, hs⟩ := hLI9
  have ho := hCI.1.1.2.1
  have hkb : inI (kType (I 231 5) x1) := by unfold kType; (repeat' split) <;> exact ⟨by decide, by decide⟩
  refine gw_aload_n C 1 dL_law_1781 rfl rfl ?_
  refine gw_aloadA_n C 0 dL_law_1782 rfl rfl ?_
  refine gw_iload C dL_law_1783 rfl ?_
  refine gw_iconst C dL_law_1785 ?_
  refine gw_iadd C dL_law_1786 ?_
  refine gw_ialdX C hX hb (x := x1) (i + 1) (by omega) (by omega) (by omega) ex1 dL_law_1787 ?_
  refine gw_aload_n C 3 dL_law_1788 rfl rfl ?_
  refine gw_callSH C (as := [vR 0, vI x1, vR 236]) (st := []) (c_L_type hl0 G I J (by have := hs.1; omega) x1 hx1) dL_law_1789 kL_183 qL_type hdL_type ⟨Nat.le_of_ble_eq_true rfl, Nat.le_of_ble_eq_true rfl⟩ ⟨(show _ ≤ 601024 from by omega), (show _ ≤ 7293034 from by omega)⟩ (Nat.le_of_ble_eq_true rfl) rfl (fun _ _ _ _ h => h.elim) ?_
  intro v9 z9 I1 J1 hv9
  rw [hs.1.1] at hv9
  obtain ⟨ev, w0, w1⟩ := hv9
  rw [ev]
  have e5 : I1 231 5 = I 231 5 := by
    by_cases h9 : kType (I 231 5) x1 = 0
    · rw [show I1 = _ from (w0 h9).1, up_ne (by decide), up_ne (by decide)]
    · rw [(w1 h9).1]
  show GW G p l e room_1 s m args below meth c 7 z9 N0 SH RR I1 J1 (k1 + 1) (k2 + 6) Q 1792 [some (vA b), some (vR 0), some (vR 231), some (vR 236), some (vI (i : Int)), none, none] [vI (kType (I 231 5) x1)]
  refine gw_istore C (lo1 := [some (vA b), some (vR 0), some (vR 231), some (vR 236), some (vI (i : Int)), some (vI (kType (I 231 5) x1)), none]) dL_law_1792 (by decide) rfl ?_
  refine gw_aload_n C 2 dL_law_1794 rfl rfl ?_
  refine gw_aloadA_n C 0 dL_law_1795 rfl rfl ?_
  refine gw_iload C dL_law_1796 rfl ?_
  refine gw_iconst C dL_law_1798 ?_
  refine gw_iadd C dL_law_1799 ?_
  refine gw_ialdX C hX hb (x := x1) (i + 1) (by omega) (by omega) (by omega) ex1 dL_law_1800 ?_
  refine gw_callV C (as := [vI x1]) (st := []) (ci := 7) (T0 := TX8) (N := 10) (c_X8_type hl0 G I1 J1 (by rw [e5]; exact hs.1.2) x1 hx1) dL_law_1801 kL_185 qX8_type hdX8_type ⟨Nat.le_of_ble_eq_true rfl, Nat.le_of_ble_eq_true rfl⟩ ⟨(show _ ≤ 601024 from by omega), (show _ ≤ 7293034 from by omega)⟩ (Nat.le_of_ble_eq_true rfl) rfl xs_231 xn_231 rfl (fun _ _ _ _ h => h.elim) ?_
  intro v8 z8 I2 J2 hv8
  rw [e5] at hv8
  obtain ⟨ev8, eI8, eJ8⟩ := hv8
  have t6 : I2 231 6 = kType (I 231 5) x1 := by
    by_cases h9 : kType (I 231 5) x1 = 0
    · rw [eI8, if_pos h9, up_nn (by omega), up_ne (by decide), up_eq, h9]
    · rw [eI8, if_neg h9, up_eq]
  rw [ev8, eJ8]
  refine gw_norm ?_
  show GW G p l e room_1 s m args below meth c 7 z8 N0 SH RR I2 J1 (k1 + 1) (k2 + 6) Q 1804 [some (vA b), some (vR 0), some (vR 231), some (vR 236), some (vI (i : Int)), some (vI (kType (I 231 5) x1)), none] [vI (i32 (if kType (I 231 5) x1 = 0 then I 231 5 + 1 else 0))]
  refine gw_istore C (lo1 := [some (vA b), some (vR 0), some (vR 231), some (vR 236), some (vI (i : Int)), some (vI (kType (I 231 5) x1)), some (vI (i32 (if kType (I 231 5) x1 = 0 then I 231 5 + 1 else 0)))]) dL_law_1804 (by decide) rfl ?_
  refine gw_aload_n C 2 dL_law_1806 rfl rfl ?_
  refine gw_callVm C (as := []) (st := []) (ci := 7) (T0 := TX8) (N := 10) (c_X8_thrown hl0 G I2 J1) dL_law_1807 kL_110 qX8_thrown hdX8_thrown ⟨Nat.le_of_ble_eq_true rfl, Nat.le_of_ble_eq_true rfl⟩ ⟨(show _ ≤ 601024 from by omega), (show _ ≤ 7293034 from by omega)⟩ (Nat.le_of_ble_eq_true rfl) rfl xs_231 xn_231 rfl (fun z_1807 => ?_)
  rw [t6]
  refine gw_iload C dL_law_1810 rfl ?_
  refine gw_icmp_eq C (tgt := 1817) dL_law_1812 (by decide) hkb hkb (fun _ => ?_) (fun h => absurd h (by exact fun q => q rfl))
  refine gw_iload C dL_law_1817 rfl ?_
  refine gw_if_ne C (tgt := 1834) dL_law_1819 (by decide) hkb (fun h_1819 => ?_) (fun h_1819 => ?_)
  · skip
    have hne := h_1819
    refine gw_goto C (tgt := 1965) dL_law_1834 (by decide) ?_
    exact gw_weak (lo' := [some (vA b), some (vR 0), some (vR 231), some (vR 236), some (vI (i : Int)), none, none]) ⟨rfl, rfl, rfl, rfl, rfl, trivial⟩ (kk _ _ _ _ _ (by omega) (by omega) (li_fr hLI (fun q f _ h9 => by rw [eI8, if_neg hne, (w1 hne).1]; exact up_nn (by omega))))
  · skip
    have hne : (kType (I 231 5) x1) = 0 := h_1819
    refine gw_aload_n C 3 dL_law_1822 rfl rfl ?_
    refine gw_iconst C dL_law_1823 ?_
    refine gw_lald C 0 dL_law_1824 xs_236 xn_236 (by omega) (by omega) (by decide) ?_
    refine gw_iload C dL_law_1825 rfl ?_
    refine gw_i2l C dL_law_1827 (i32_in _) ?_
    refine gw_lcmpE C dL_law_1828 (by rw [(w0 hne).2, up_eq, if_pos hne]) ?_
    refine gw_if_eq C (tgt := 1834) dL_law_1829 (by decide) ⟨by decide, by decide⟩ (fun _ => ?_) (fun h => absurd h (by decide))
    refine gw_goto C (tgt := 1965) dL_law_1834 (by decide) ?_
    exact gw_weak (lo' := [some (vA b), some (vR 0), some (vR 231), some (vR 236), some (vI (i : Int)), none, none]) ⟨rfl, rfl, rfl, rfl, rfl, trivial⟩ (kk _ _ _ _ _ (by omega) (by omega) (by rw [eI8, if_pos hne, show I1 = _ from (w0 hne).1]; exact li_type hLI hne))
set_option maxHeartbeats 4000000 in
set_option maxRecDepth 100000 in
theorem law_run {l : Launch} (hl0 : l.stackTraces = false) {G : GG} {p : Program} {e : Env} {s : State} {m : MethodId} {args : Array Value} {below : List Frame} {meth : Method} {c : Code} {Q : State → Prop} {nm9 : String} (C : gC G p l s m args meth c cL_law 7 RL (some .boolean) nm9) {b L : Nat} {xs : Nat → Int32} (hX : va_X b L xs s s.heap) (hb : b < G.1) (hL : L ≤ 3584) {i : Nat} (hi : i + 7 ≤ L) {k1 k2 : Nat} (hk1 : k1 + 1 ≤ 601024) (hk2 : k2 + 6 ≤ 7293034) {z : Nat} {I J : GI} (hLI : LI I)
    (kk : ∀ (z2 : Nat) (I2 J2 : GI) (a1 a2 : Nat), a1 ≤ k1 + 1 → a2 ≤ k2 + 6 → LI I2 → GW G p l e room_1 s m args below meth c 7 z2 N0 SH RR I2 J2 a1 a2 Q 1965 [some (vA b), some (vR 0), some (vR 231), some (vR 236), some (vI (i : Int)), none, none] []) :
    GW G p l e room_1 s m args below meth c 7 z N0 SH RR I J k1 k2 Q 1863 [some (vA b), some (vR 0), some (vR 231), some (vR 236), some (vI (i : Int)), none, none] [] := by
  have hLI9 := hLI
  obtain ⟨⟨D9, hCI, hD⟩, hz, ⟨hp, h30⟩, hs⟩ := hLI9
  have ho := hCI.1.1.2.1
  have hkb : inI (kRun (I 234) (I 231 5).toNat) := by unfold kRun; (repeat' split) <;> exact ⟨by decide, by decide⟩
  refine gw_aload_n C 1 dL_law_1863 rfl rfl ?_
  refine gw_aload_n C 3 dL_law_1864 rfl rfl ?_
  refine gw_callSH C (as := [vR 0, vR 236]) (st := []) (c_L_run hl0 G I J hCI (by have := hs.1; omega) (by rw [hs.1.1, hs.2.1]; exact hs.2.2.1) hs.2.2.2.1 hs.2.2.2.2) dL_law_1865 kL_194 qL_run hdL_run ⟨Nat.le_of_ble_eq_true rfl, Nat.le_of_ble_eq_true rfl⟩ ⟨(show _ ≤ 601024 from by omega), (show _ ≤ 7293034 from by omega)⟩ (Nat.le_of_ble_eq_true rfl) rfl (fun _ _ _ _ h => h.elim) ?_
  intro v9 z9 I1 J1 hv9
  rw [hs.1.1, hs.2.1] at hv9
  obtain ⟨ev, w0, w1⟩ := hv9
  rw [ev]
  have hf : ∀ q, 230 ≤ q → I1 q = I q := fun q hq => by
    by_cases h9 : kRun (I 234) (I 231 5).toNat = 0
    · exact funext (fun f => (w0 h9).1.2.1 q f hq)
    · rw [(w1 h9).1]
  have e32 := hf 232 (by decide)
  have e31 := hf 231 (by decide)
  have e34 := hf 234 (by decide)
  show GW G p l e room_1 s m args below meth c 7 z9 N0 SH RR I1 J1 (k1 + 1) (k2 + 6) Q 1868 [some (vA b), some (vR 0), some (vR 231), some (vR 236), some (vI (i : Int)), none, none] [vI (kRun (I 234) (I 231 5).toNat)]
  refine gw_istore C (lo1 := [some (vA b), some (vR 0), some (vR 231), some (vR 236), some (vI (i : Int)), some (vI (kRun (I 234) (I 231 5).toNat)), none]) dL_law_1868 (by decide) rfl ?_
  refine gw_aload_n C 2 dL_law_1870 rfl rfl ?_
  refine gw_callV C (as := []) (st := []) (ci := 7) (T0 := TX8) (N := 10) (c_X8_run hl0 G I1 J1 (by rw [e32]; exact ho) (by rw [e31]; exact hs.1.2) (by rw [e31, e34]; exact hs.2.2.1) (by rw [e31]; exact hp) (by rw [e31]; exact h30)) dL_law_1871 kL_197 qX8_run hdX8_run ⟨Nat.le_of_ble_eq_true rfl, Nat.le_of_ble_eq_true rfl⟩ ⟨(show _ ≤ 601024 from by omega), (show _ ≤ 7293034 from by omega)⟩ (Nat.le_of_ble_eq_true rfl) rfl xs_231 xn_231 rfl (fun _ _ _ _ h => h.elim) ?_
  intro v8 z8 I2 J2 hv8
  unfold rmQ tN at hv8
  rw [e34, e32, e31] at hv8
  obtain ⟨⟨ra, rb⟩, eJ8⟩ := hv8
  have k01 : kRun (I 234) (I 231 5).toNat = 0 ∨ kRun (I 234) (I 231 5).toNat = 1 := by unfold kRun; split <;> simp
  have t6 : I2 231 6 = kRun (I 234) (I 231 5).toNat := by
    rcases k01 with h9 | h9
    · rw [h9]; exact (rb h9).2.1.1
    · rw [h9]; exact (ra (by omega)).2.1
  have ev8 : v8 = some (vI (if kRun (I 234) (I 231 5).toNat = 0 then (crF (I 234) (I 231 5).toNat 0 (I 228 1) (I 228 3).toNat (I 229) (I 232) 0).2 else 0)) := by
    by_cases h9 : kRun (I 234) (I 231 5).toNat = 0
    · rw [if_pos h9]; exact ((rb h9).1 _ _ _).1
    · rw [if_neg h9]; exact (ra h9).1
  rw [ev8, eJ8]
  refine gw_norm ?_
  show GW G p l e room_1 s m args below meth c 7 z8 N0 SH RR I2 J1 (k1 + 1) (k2 + 6) Q 1874 [some (vA b), some (vR 0), some (vR 231), some (vR 236), some (vI (i : Int)), some (vI (kRun (I 234) (I 231 5).toNat)), none] [vI (i32 (if kRun (I 234) (I 231 5).toNat = 0 then (crF (I 234) (I 231 5).toNat 0 (I 228 1) (I 228 3).toNat (I 229) (I 232) 0).2 else 0))]
  refine gw_istore C (lo1 := [some (vA b), some (vR 0), some (vR 231), some (vR 236), some (vI (i : Int)), some (vI (kRun (I 234) (I 231 5).toNat)), some (vI (i32 (if kRun (I 234) (I 231 5).toNat = 0 then (crF (I 234) (I 231 5).toNat 0 (I 228 1) (I 228 3).toNat (I 229) (I 232) 0).2 else 0)))]) dL_law_1874 (by decide) rfl ?_
  refine gw_aload_n C 2 dL_law_1876 rfl rfl ?_
  refine gw_callVm C (as := []) (st := []) (ci := 7) (T0 := TX8) (N := 10) (c_X8_thrown hl0 G I2 J1) dL_law_1877 kL_110 qX8_thrown hdX8_thrown ⟨Nat.le_of_ble_eq_true rfl, Nat.le_of_ble_eq_true rfl⟩ ⟨(show _ ≤ 601024 from by omega), (show _ ≤ 7293034 from by omega)⟩ (Nat.le_of_ble_eq_true rfl) rfl xs_231 xn_231 rfl (fun z_1877 => ?_)
  rw [t6]
  refine gw_iload C dL_law_1880 rfl ?_
  refine gw_icmp_eq C (tgt := 1887) dL_law_1882 (by decide) hkb hkb (fun _ => ?_) (fun h => absurd h (by exact fun q => q rfl))
  refine gw_iload C dL_law_1887 rfl ?_
  refine gw_if_ne C (tgt := 1904) dL_law_1889 (by decide) hkb (fun h_1889 => ?_) (fun h_1889 => ?_)
  · skip
    have hne := h_1889
    refine gw_goto C (tgt := 1965) dL_law_1904 (by decide) ?_
    exact gw_weak (lo' := [some (vA b), some (vR 0), some (vR 231), some (vR 236), some (vI (i : Int)), none, none]) ⟨rfl, rfl, rfl, rfl, rfl, trivial⟩ (kk _ _ _ _ _ (by omega) (by omega) (li_fr hLI (fun q f h8 h9 => by rw [(ra hne).2.2 q f h8 h9, (w1 hne).1])))
  · skip
    have hne : (kRun (I 234) (I 231 5).toNat) = 0 := h_1889
    refine gw_aload_n C 3 dL_law_1892 rfl rfl ?_
    refine gw_iconst C dL_law_1893 ?_
    refine gw_lald C 0 dL_law_1894 xs_236 xn_236 (by omega) (by omega) (by decide) ?_
    refine gw_iload C dL_law_1895 rfl ?_
    refine gw_i2l C dL_law_1897 (i32_in _) ?_
    refine gw_lcmpE C dL_law_1898 (by rw [(w0 hne).2, up_eq, if_pos hne]) ?_
    refine gw_if_eq C (tgt := 1904) dL_law_1899 (by decide) ⟨by decide, by decide⟩ (fun _ => ?_) (fun h => absurd h (by decide))
    refine gw_goto C (tgt := 1965) dL_law_1904 (by decide) ?_
    exact gw_weak (lo' := [some (vA b), some (vR 0), some (vR 231), some (vR 236), some (vI (i : Int)), none, none]) ⟨rfl, rfl, rfl, rfl, rfl, trivial⟩ (kk _ _ _ _ _ (by omega) (by omega) (li_run hLI hD (w0 hne).1 ((rb hne).1 _ _ _).2 (rb hne).2.1 (rb hne).2.2.1 (rb hne).2.2.2 (fun q hq => z_cr hq _ _ _ _ _ _ _ ho)))
set_option maxHeartbeats 4000000 in
set_option maxRecDepth 100000 in
theorem law_undo {l : Launch} (hl0 : l.stackTraces = false) {G : GG} {p : Program} {e : Env} {s : State} {m : MethodId} {args : Array Value} {below : List Frame} {meth : Method} {c : Code} {Q : State → Prop} {nm9 : String} (C : gC G p l s m args meth c cL_law 7 RL (some .boolean) nm9) {b L : Nat} {xs : Nat → Int32} (hX : va_X b L xs s s.heap) (hb : b < G.1) (hL : L ≤ 3584) {i : Nat} (hi : i + 7 ≤ L) {k1 k2 : Nat} (hk1 : k1 + 1 ≤ 601024) (hk2 : k2 + 6 ≤ 7293034) {z : Nat} {I J : GI} (hLI : LI I)
    (kk : ∀ (z2 : Nat) (I2 J2 : GI) (a1 a2 : Nat), a1 ≤ k1 + 1 → a2 ≤ k2 + 6 → LI I2 → GW G p l e room_1 s m args below meth c 7 z2 N0 SH RR I2 J2 a1 a2 Q 1965 [some (vA b), some (vR 0), some (vR 231), some (vR 236), some (vI (i : Int)), none, none] []) :
    GW G p l e room_1 s m args below meth c 7 z N0 SH RR I J k1 k2 Q 1907 [some (vA b), some (vR 0), some (vR 231), some (vR 236), some (vI (i : Int)), none, none] [] := by
  have hLI9 := hLI
  obtain ⟨⟨D9, hCI, hD⟩, hz, ⟨hp, h30⟩, hs⟩ := hLI9
  have ho := hCI.1.1.2.1
  have hkb : inI (kUndo (I 231 2).toNat) := by unfold kUndo; (repeat' split) <;> exact ⟨by decide, by decide⟩
  refine gw_aload_n C 1 dL_law_1907 rfl rfl ?_
  refine gw_aload_n C 3 dL_law_1908 rfl rfl ?_
  refine gw_callSH C (as := [vR 0, vR 236]) (st := []) (c_L_undo hl0 G I J hCI) dL_law_1909 kL_198 qL_undo hdL_undo ⟨Nat.le_of_ble_eq_true rfl, Nat.le_of_ble_eq_true rfl⟩ ⟨(show _ ≤ 601024 from by omega), (show _ ≤ 7293034 from by omega)⟩ (Nat.le_of_ble_eq_true rfl) rfl (fun _ _ _ _ h => h.elim) ?_
  intro v9 z9 I1 J1 hv9
  obtain ⟨ev, w0, w1⟩ := hv9
  rw [ev]
  have hf := lm_fr w0 w1
  have e31 : I1 231 = I 231 := frC_q hf (by decide)
  show GW G p l e room_1 s m args below meth c 7 z9 N0 SH RR I1 J1 (k1 + 1) (k2 + 6) Q 1912 [some (vA b), some (vR 0), some (vR 231), some (vR 236), some (vI (i : Int)), none, none] [vI (kUndo (I 231 2).toNat)]
  refine gw_istore C (lo1 := [some (vA b), some (vR 0), some (vR 231), some (vR 236), some (vI (i : Int)), some (vI (kUndo (I 231 2).toNat)), none]) dL_law_1912 (by decide) rfl ?_
  refine gw_aload_n C 2 dL_law_1914 rfl rfl ?_
  refine gw_callV C (as := []) (st := []) (ci := 7) (T0 := TX8) (N := 10) (c_X8_undo hl0 G I1 J1 (by rw [e31]; exact hp)) dL_law_1915 kL_200 qX8_undo hdX8_undo ⟨Nat.le_of_ble_eq_true rfl, Nat.le_of_ble_eq_true rfl⟩ ⟨(show _ ≤ 601024 from by omega), (show _ ≤ 7293034 from by omega)⟩ (Nat.le_of_ble_eq_true rfl) rfl xs_231 xn_231 rfl (fun _ _ _ _ h => h.elim) ?_
  intro v8 z8 I2 J2 hv8
  obtain ⟨ev8, ⟨ua, ub⟩, eJ8⟩ := hv8
  have hku : (kUndo (I 231 2).toNat = 0 → I1 231 2 ≠ 0) ∧ (kUndo (I 231 2).toNat ≠ 0 → I1 231 2 = 0 ∧ kUndo (I 231 2).toNat = 1) := by
    rw [e31]; unfold kUndo
    by_cases h9 : (I 231 2).toNat = 0
    · rw [if_pos h9]; exact ⟨fun q => absurd q (by decide), fun _ => ⟨by omega, rfl⟩⟩
    · rw [if_neg h9]; exact ⟨fun _ => by omega, fun q => absurd rfl q⟩
  have t6 : I2 231 6 = kUndo (I 231 2).toNat := by
    by_cases h9 : kUndo (I 231 2).toNat = 0
    · rw [h9]; exact (ub (hku.1 h9)).1.2
    · rw [(hku.2 h9).2, ua (hku.2 h9).1, up_eq]
  rw [ev8, eJ8]
  refine gw_norm ?_
  show GW G p l e room_1 s m args below meth c 7 z8 N0 SH RR I2 J1 (k1 + 1) (k2 + 6) Q 1918 [some (vA b), some (vR 0), some (vR 231), some (vR 236), some (vI (i : Int)), some (vI (kUndo (I 231 2).toNat)), none] [vI (i32 (if I1 231 2 = 0 then 0 else I1 231 2 - 1))]
  refine gw_istore C (lo1 := [some (vA b), some (vR 0), some (vR 231), some (vR 236), some (vI (i : Int)), some (vI (kUndo (I 231 2).toNat)), some (vI (i32 (if I1 231 2 = 0 then 0 else I1 231 2 - 1)))]) dL_law_1918 (by decide) rfl ?_
  refine gw_aload_n C 2 dL_law_1920 rfl rfl ?_
  refine gw_callVm C (as := []) (st := []) (ci := 7) (T0 := TX8) (N := 10) (c_X8_thrown hl0 G I2 J1) dL_law_1921 kL_110 qX8_thrown hdX8_thrown ⟨Nat.le_of_ble_eq_true rfl, Nat.le_of_ble_eq_true rfl⟩ ⟨(show _ ≤ 601024 from by omega), (show _ ≤ 7293034 from by omega)⟩ (Nat.le_of_ble_eq_true rfl) rfl xs_231 xn_231 rfl (fun z_1921 => ?_)
  rw [t6]
  refine gw_iload C dL_law_1924 rfl ?_
  refine gw_icmp_eq C (tgt := 1931) dL_law_1926 (by decide) hkb hkb (fun _ => ?_) (fun h => absurd h (by exact fun q => q rfl))
  refine gw_iload C dL_law_1931 rfl ?_
  refine gw_if_ne C (tgt := 1948) dL_law_1933 (by decide) hkb (fun h_1933 => ?_) (fun h_1933 => ?_)
  · skip
    have hne := h_1933
    refine gw_goto C (tgt := 1965) dL_law_1948 (by decide) ?_
    exact gw_weak (lo' := [some (vA b), some (vR 0), some (vR 231), some (vR 236), some (vI (i : Int)), none, none]) ⟨rfl, rfl, rfl, rfl, rfl, trivial⟩ (kk _ _ _ _ _ (by omega) (by omega) (li_fr hLI (fun q f _ h9 => by rw [ua (hku.2 hne).1, (w1 hne).1]; exact up_nn (by omega))))
  · skip
    have hne : (kUndo (I 231 2).toNat) = 0 := h_1933
    refine gw_aload_n C 3 dL_law_1936 rfl rfl ?_
    refine gw_iconst C dL_law_1937 ?_
    refine gw_lald C 0 dL_law_1938 xs_236 xn_236 (by omega) (by omega) (by decide) ?_
    refine gw_iload C dL_law_1939 rfl ?_
    refine gw_i2l C dL_law_1941 (i32_in _) ?_
    refine gw_lcmpE C dL_law_1942 (by rw [(w0 hne).2, up_eq, if_neg (hku.1 hne), e31, show (((I 231 2).toNat : Nat) : Int) = I 231 2 by omega]) ?_
    refine gw_if_eq C (tgt := 1948) dL_law_1943 (by decide) ⟨by decide, by decide⟩ (fun _ => ?_) (fun h => absurd h (by decide))
    refine gw_goto C (tgt := 1965) dL_law_1948 (by decide) ?_
    exact gw_weak (lo' := [some (vA b), some (vR 0), some (vR 231), some (vR 236), some (vI (i : Int)), none, none]) ⟨rfl, rfl, rfl, rfl, rfl, trivial⟩ (kk _ _ _ _ _ (by omega) (by omega) (li_undo hLI hD (by have := hku.1 hne; rw [e31] at this; exact this) (w0 hne).1 (ub (hku.1 hne))))
set_option maxHeartbeats 4000000 in
set_option maxRecDepth 100000 in
theorem law_clearText {l : Launch} (hl0 : l.stackTraces = false) {G : GG} {p : Program} {e : Env} {s : State} {m : MethodId} {args : Array Value} {below : List Frame} {meth : Method} {c : Code} {Q : State → Prop} {nm9 : String} (C : gC G p l s m args meth c cL_law 7 RL (some .boolean) nm9) {b L : Nat} {xs : Nat → Int32} (hX : va_X b L xs s s.heap) (hb : b < G.1) (hL : L ≤ 3584) {i : Nat} (hi : i + 7 ≤ L) {k1 k2 : Nat} (hk1 : k1 + 1 ≤ 601024) (hk2 : k2 + 6 ≤ 7293034) {z : Nat} {I J : GI} (hLI : LI I)
    (kk : ∀ (z2 : Nat) (I2 J2 : GI) (a1 a2 : Nat), a1 ≤ k1 + 1 → a2 ≤ k2 + 6 → LI I2 → GW G p l e room_1 s m args below meth c 7 z2 N0 SH RR I2 J2 a1 a2 Q 1965 [some (vA b), some (vR 0), some (vR 231), some (vR 236), some (vI (i : Int)), none, none] []) :
    GW G p l e room_1 s m args below meth c 7 z N0 SH RR I J k1 k2 Q 1837 [some (vA b), some (vR 0), some (vR 231), some (vR 236), some (vI (i : Int)), none, none] [] := by
  have hLI9 := hLI
  obtain ⟨⟨D9, hCI, hD⟩, hz, ⟨hp, h30⟩, hs⟩ := hLI9
  have ho := hCI.1.1.2.1
  refine gw_aload_n C 1 dL_law_1837 rfl rfl ?_
  refine gw_callVm C (as := []) (st := []) (ci := 6) (T0 := TX7) (N := 3) (c_X7_clearText hl0 G I J (by have := hs.1; omega)) dL_law_1838 kL_186 qX7_clearText hdX7_clearText ⟨Nat.le_of_ble_eq_true rfl, Nat.le_of_ble_eq_true rfl⟩ ⟨(show _ ≤ 601024 from by omega), (show _ ≤ 7293034 from by omega)⟩ (Nat.le_of_ble_eq_true rfl) rfl xs_0 xn_0 rfl (fun z_1838 => ?_)
  rw [hs.1.1]
  have e5 : up I 228 0 0 231 5 = I 231 5 := up_nn (by omega)
  refine gw_aload_n C 2 dL_law_1841 rfl rfl ?_
  refine gw_callVm C (as := []) (st := [vI (I 231 5)]) (ci := 7) (T0 := TX8) (N := 10) (c_X8_clearText hl0 G (up I 228 0 0) J (by rw [e5]; exact hs.1.2)) dL_law_1842 kL_189 qX8_clearText hdX8_clearText ⟨Nat.le_of_ble_eq_true rfl, Nat.le_of_ble_eq_true rfl⟩ ⟨(show _ ≤ 601024 from by omega), (show _ ≤ 7293034 from by omega)⟩ (Nat.le_of_ble_eq_true rfl) rfl xs_231 xn_231 rfl (fun z_1842 => ?_)
  rw [e5]
  refine gw_icmp_eq C (tgt := 1965) dL_law_1845 (by decide) (by have := hs.1; omega) (by have := hs.1; omega) (fun _ => ?_) (fun h => absurd h (by exact fun q => q rfl))
  exact gw_weak (lo' := [some (vA b), some (vR 0), some (vR 231), some (vR 236), some (vI (i : Int)), none, none]) ⟨rfl, rfl, rfl, rfl, rfl, trivial⟩ (kk _ _ _ _ _ (by omega) (by omega) (li_clear hLI))
set_option maxHeartbeats 4000000 in
set_option maxRecDepth 100000 in
theorem law_fault {l : Launch} (hl0 : l.stackTraces = false) {G : GG} {p : Program} {e : Env} {s : State} {m : MethodId} {args : Array Value} {below : List Frame} {meth : Method} {c : Code} {Q : State → Prop} {nm9 : String} (C : gC G p l s m args meth c cL_law 7 RL (some .boolean) nm9) {b L : Nat} {xs : Nat → Int32} (hX : va_X b L xs s s.heap) (hb : b < G.1) (hL : L ≤ 3584) {i : Nat} (hi : i + 7 ≤ L) {k1 k2 : Nat} (hk1 : k1 + 1 ≤ 601024) (hk2 : k2 + 6 ≤ 7293034) {z : Nat} {I J : GI} (hLI : LI I)
    (kk : ∀ (z2 : Nat) (I2 J2 : GI) (a1 a2 : Nat), a1 ≤ k1 + 1 → a2 ≤ k2 + 6 → LI I2 → GW G p l e room_1 s m args below meth c 7 z2 N0 SH RR I2 J2 a1 a2 Q 1965 [some (vA b), some (vR 0), some (vR 231), some (vR 236), some (vI (i : Int)), none, none] []) :
    GW G p l e room_1 s m args below meth c 7 z N0 SH RR I J k1 k2 Q 1850 [some (vA b), some (vR 0), some (vR 231), some (vR 236), some (vI (i : Int)), none, none] [] := by
  have hLI9 := hLI
  obtain ⟨⟨D9, hCI, hD⟩, hz, ⟨hp, h30⟩, hs⟩ := hLI9
  have ho := hCI.1.1.2.1
  refine gw_aload_n C 1 dL_law_1850 rfl rfl ?_
  refine gw_callVm C (as := []) (st := []) (ci := 6) (T0 := TX7) (N := 3) (c_X7_fault hl0 G I J (by have := hs.1; omega)) dL_law_1851 kL_190 qX7_fault hdX7_fault ⟨Nat.le_of_ble_eq_true rfl, Nat.le_of_ble_eq_true rfl⟩ ⟨(show _ ≤ 601024 from by omega), (show _ ≤ 7293034 from by omega)⟩ (Nat.le_of_ble_eq_true rfl) rfl xs_0 xn_0 rfl (fun z_1851 => ?_)
  rw [hs.1.1, hs.2.1]
  refine gw_norm ?_
  refine gw_aload_n C 2 dL_law_1854 rfl rfl ?_
  refine gw_callV C (as := []) (st := [vI (i32 (ffF (I 234) (I 231 5).toNat 0 0 0))]) (ci := 7) (T0 := TX8) (N := 10) (c_X8_fault hl0 G I J hs.1.2 hs.2.2.1) dL_law_1855 kL_193 qX8_fault hdX8_fault ⟨Nat.le_of_ble_eq_true rfl, Nat.le_of_ble_eq_true rfl⟩ ⟨(show _ ≤ 601024 from by omega), (show _ ≤ 7293034 from by omega)⟩ (Nat.le_of_ble_eq_true rfl) rfl xs_231 xn_231 rfl (fun _ _ _ _ h => h.elim) ?_
  intro v8 z8 I2 J2 hv8
  obtain ⟨ev8, ⟨f1, f2⟩, eJ8⟩ := hv8
  rw [ev8, eJ8]
  refine gw_norm ?_
  show GW G p l e room_1 s m args below meth c 7 z8 N0 SH RR I2 J k1 k2 Q 1858 [some (vA b), some (vR 0), some (vR 231), some (vR 236), some (vI (i : Int)), none, none] [vI (i32 (ffF (I 234) (I 231 5).toNat 0 0 0)), vI (i32 (ffF (I 234) (I 231 5).toNat 0 0 0))]
  refine gw_icmp_eq C (tgt := 1965) dL_law_1858 (by decide) (i32_in _) (i32_in _) (fun _ => ?_) (fun h => absurd h (by exact fun q => q rfl))
  exact gw_weak (lo' := [some (vA b), some (vR 0), some (vR 231), some (vR 236), some (vI (i : Int)), none, none]) ⟨rfl, rfl, rfl, rfl, rfl, trivial⟩ (kk _ _ _ _ _ (by omega) (by omega) (li_fr hLI (fun q f h8 h9 => f2 q f h8 h9)))
set_option maxHeartbeats 4000000 in
set_option maxRecDepth 100000 in
theorem law_checksum {l : Launch} (hl0 : l.stackTraces = false) {G : GG} {p : Program} {e : Env} {s : State} {m : MethodId} {args : Array Value} {below : List Frame} {meth : Method} {c : Code} {Q : State → Prop} {nm9 : String} (C : gC G p l s m args meth c cL_law 7 RL (some .boolean) nm9) {b L : Nat} {xs : Nat → Int32} (hX : va_X b L xs s s.heap) (hb : b < G.1) (hL : L ≤ 3584) {i : Nat} (hi : i + 7 ≤ L) {k1 k2 : Nat} (hk1 : k1 + 1 ≤ 601024) (hk2 : k2 + 6 ≤ 7293034) {z : Nat} {I J : GI} (hLI : LI I)
    (kk : ∀ (z2 : Nat) (I2 J2 : GI) (a1 a2 : Nat), a1 ≤ k1 + 1 → a2 ≤ k2 + 6 → LI I2 → GW G p l e room_1 s m args below meth c 7 z2 N0 SH RR I2 J2 a1 a2 Q 1965 [some (vA b), some (vR 0), some (vR 231), some (vR 236), some (vI (i : Int)), none, none] []) :
    GW G p l e room_1 s m args below meth c 7 z N0 SH RR I J k1 k2 Q 1951 [some (vA b), some (vR 0), some (vR 231), some (vR 236), some (vI (i : Int)), none, none] [] := by
  have hLI9 := hLI
  obtain ⟨⟨D9, hCI, hD⟩, hz, ⟨hp, h30⟩, hs⟩ := hLI9
  have ho := hCI.1.1.2.1
  refine gw_aload_n C 1 dL_law_1951 rfl rfl ?_
  refine gw_callVm C (as := []) (st := []) (ci := 6) (T0 := TX7) (N := 3) (c_X7_checksum hl0 G I J hCI) dL_law_1952 kL_201 qX7_checksum hdX7_checksum ⟨Nat.le_of_ble_eq_true rfl, Nat.le_of_ble_eq_true rfl⟩ ⟨(show _ ≤ 601024 from by omega), (show _ ≤ 7293034 from by omega)⟩ (Nat.le_of_ble_eq_true rfl) rfl xs_0 xn_0 rfl (fun z_1952 => ?_)
  rw [hs.1.1, show (((I 231 2).toNat : Nat) : Int) = I 231 2 by omega]
  refine gw_aload_n C 2 dL_law_1955 rfl rfl ?_
  refine gw_callV C (as := []) (st := [vL (ckF (I 232) (I 231 5) (I 231 2))]) (ci := 7) (T0 := TX8) (N := 10) (c_X8_checksum hl0 G I J ho hs.1.2 hp) dL_law_1956 kL_205 qX8_checksum hdX8_checksum ⟨Nat.le_of_ble_eq_true rfl, Nat.le_of_ble_eq_true rfl⟩ ⟨(show _ ≤ 601024 from by omega), (show _ ≤ 7293034 from by omega)⟩ (Nat.le_of_ble_eq_true rfl) rfl xs_231 xn_231 rfl (fun _ _ _ _ h => h.elim) ?_
  intro v8 z8 I2 J2 hv8
  obtain ⟨ev8, eI8, eJ8⟩ := hv8
  rw [ev8]
  show GW G p l e room_1 s m args below meth c 7 z8 N0 SH RR I2 J2 k1 k2 Q 1959 [some (vA b), some (vR 0), some (vR 231), some (vR 236), some (vI (i : Int)), none, none] [vL (ckF (I 232) (I 231 5) (I 231 2)), vL (ckF (I 232) (I 231 5) (I 231 2))]
  refine gw_lcmpE C dL_law_1959 (by rfl) ?_
  refine gw_if_eq C (tgt := 1965) dL_law_1960 (by decide) ⟨by decide, by decide⟩ (fun _ => ?_) (fun h => absurd h (by decide))
  exact gw_weak (lo' := [some (vA b), some (vR 0), some (vR 231), some (vR 236), some (vI (i : Int)), none, none]) ⟨rfl, rfl, rfl, rfl, rfl, trivial⟩ (kk _ _ _ _ _ (by omega) (by omega) (li_fr hLI (fun q f _ h9 => by rw [eI8]; exact up_nn (by omega))))
