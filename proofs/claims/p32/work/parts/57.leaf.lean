def i32 (x : Int) : Int := (Int32.ofInt x).toInt
theorem i32_in (x : Int) : inI (i32 x) := by
  have h1 := Int32.toInt_lt (Int32.ofInt x)
  have h2 := Int32.le_toInt (Int32.ofInt x)
  unfold i32
  exact ⟨by omega, by omega⟩
section GR56
variable {G : GG} {p : Program} {l : Launch} {e : Env} {R0 : Room} {s : State} {m : MethodId} {args : Array Value} {below : List Frame} {meth : Method} {c : Code} {cc : ByteArray} {nL z n : Nat} {sh : GSh} {R : GR} {I J : GI} {k1 k2 pc : Nat} {Q : State → Prop} {lo : List (Option GV)} {st : List GV} {own nm Cn : String} {ret : Option FieldType}
theorem gw_norm {x : Int} (k : GW G p l e R0 s m args below meth c nL z n sh R I J k1 k2 Q pc lo (vI (i32 x) :: st)) : GW G p l e R0 s m args below meth c nL z n sh R I J k1 k2 Q pc lo (vI x :: st) := by
  intro H locs ls a b d f g
  have q := k H locs ls a b d f g
  have ex : cv G.1 (vI (i32 x)) = cv G.1 (vI x) := by
    show Value.int (Int32.ofInt (i32 x)) = Value.int (Int32.ofInt x)
    rw [show Int32.ofInt (i32 x) = Int32.ofInt x from Int32.ofInt_toInt _]
  rw [List.map_cons, ex] at q
  exact q
end GR56
section GR57
variable {G : GG} {p : Program} {l : Launch} {e : Env} {R0 : Room} {s : State} {m : MethodId} {args : Array Value} {below : List Frame} {meth : Method} {c : Code} {cc : ByteArray} {nL z n : Nat} {sh : GSh} {R : GR} {I J : GI} {k1 k2 pc : Nat} {Q : State → Prop} {lo : List (Option GV)} {st : List GV} {own nm Cn : String} {ret : Option FieldType}
theorem gw_iandY (C : gC G p l s m args meth c cc nL own ret nm) {x1 x2 : Int} (y : Int) (d : decode cc pc = .ok (.iand, 1)) (hy : Int32.ofInt x1 &&& Int32.ofInt x2 = Int32.ofInt y) (k : GW G p l e R0 s m args below meth c nL z n sh R I J k1 k2 Q (pc + 1) lo (vI y :: st)) : GW G p l e R0 s m args below meth c nL z n sh R I J k1 k2 Q (pc) lo (vI x2 :: vI x1 :: st) := fun H locs ls hP hS hz hi hl => lv_iand C.1.1 C.1.2.1 d (by rw [show Int32.ofInt x1 &&& Int32.ofInt x2 = Int32.ofInt y from hy]; exact k H locs ls hP hS hz hi hl)
theorem gw_ixorY (C : gC G p l s m args meth c cc nL own ret nm) {x1 x2 : Int} (y : Int) (d : decode cc pc = .ok (.ixor, 1)) (hy : Int32.ofInt x1 ^^^ Int32.ofInt x2 = Int32.ofInt y) (k : GW G p l e R0 s m args below meth c nL z n sh R I J k1 k2 Q (pc + 1) lo (vI y :: st)) : GW G p l e R0 s m args below meth c nL z n sh R I J k1 k2 Q (pc) lo (vI x2 :: vI x1 :: st) := fun H locs ls hP hS hz hi hl => lv_ixor C.1.1 C.1.2.1 d (by rw [show Int32.ofInt x1 ^^^ Int32.ofInt x2 = Int32.ofInt y from hy]; exact k H locs ls hP hS hz hi hl)
theorem gw_ishrY (C : gC G p l s m args meth c cc nL own ret nm) {x1 x2 : Int} (y : Int) (d : decode cc pc = .ok (.ishr, 1)) (hy : Int32.ofInt x1 >>> (Int32.ofInt x2 &&& 31) = Int32.ofInt y) (k : GW G p l e R0 s m args below meth c nL z n sh R I J k1 k2 Q (pc + 1) lo (vI y :: st)) : GW G p l e R0 s m args below meth c nL z n sh R I J k1 k2 Q (pc) lo (vI x2 :: vI x1 :: st) := fun H locs ls hP hS hz hi hl => lv_ishr C.1.1 C.1.2.1 d (by rw [show Int32.ofInt x1 >>> (Int32.ofInt x2 &&& 31) = Int32.ofInt y from hy]; exact k H locs ls hP hS hz hi hl)
theorem gw_landY (C : gC G p l s m args meth c cc nL own ret nm) {x1 x2 : Int} (y : Int) (d : decode cc pc = .ok (.land, 1)) (hy : Int64.ofInt x1 &&& Int64.ofInt x2 = Int64.ofInt y) (k : GW G p l e R0 s m args below meth c nL z n sh R I J k1 k2 Q (pc + 1) lo (vL y :: st)) : GW G p l e R0 s m args below meth c nL z n sh R I J k1 k2 Q (pc) lo (vL x2 :: vL x1 :: st) := fun H locs ls hP hS hz hi hl => lv_land C.1.1 C.1.2.1 d (by rw [show Int64.ofInt x1 &&& Int64.ofInt x2 = Int64.ofInt y from hy]; exact k H locs ls hP hS hz hi hl)
theorem gw_lorY (C : gC G p l s m args meth c cc nL own ret nm) {x1 x2 : Int} (y : Int) (d : decode cc pc = .ok (.lor, 1)) (hy : Int64.ofInt x1 ||| Int64.ofInt x2 = Int64.ofInt y) (k : GW G p l e R0 s m args below meth c nL z n sh R I J k1 k2 Q (pc + 1) lo (vL y :: st)) : GW G p l e R0 s m args below meth c nL z n sh R I J k1 k2 Q (pc) lo (vL x2 :: vL x1 :: st) := fun H locs ls hP hS hz hi hl => lv_lor C.1.1 C.1.2.1 d (by rw [show Int64.ofInt x1 ||| Int64.ofInt x2 = Int64.ofInt y from hy]; exact k H locs ls hP hS hz hi hl)
theorem gw_lshrY (C : gC G p l s m args meth c cc nL own ret nm) {x1 x2 : Int} (y : Int) (d : decode cc pc = .ok (.lshr, 1)) (hy : Int64.ofInt x1 >>> ((Int32.ofInt x2).toInt64 &&& 63) = Int64.ofInt y) (k : GW G p l e R0 s m args below meth c nL z n sh R I J k1 k2 Q (pc + 1) lo (vL y :: st)) : GW G p l e R0 s m args below meth c nL z n sh R I J k1 k2 Q (pc) lo (vI x2 :: vL x1 :: st) := fun H locs ls hP hS hz hi hl => lv_lshr C.1.1 C.1.2.1 d hy (k H locs ls hP hS hz hi hl)
end GR57
def m31 (x : Int) : Int := (Int32.ofInt x &&& Int32.ofInt 2147483647).toInt
def sh5 (x : Int) : Int := (Int32.ofInt x >>> (Int32.ofInt 5 &&& 31)).toInt
def xrZ (x y : Int) : Int := (Int32.ofInt x ^^^ Int32.ofInt y).toInt
theorem m31_e (x : Int) : Int32.ofInt x &&& Int32.ofInt 2147483647 = Int32.ofInt (m31 x) := (Int32.ofInt_toInt _).symm
theorem sh5_e (x : Int) : Int32.ofInt x >>> (Int32.ofInt 5 &&& 31) = Int32.ofInt (sh5 x) := (Int32.ofInt_toInt _).symm
theorem xrZ_e (x y : Int) : Int32.ofInt x ^^^ Int32.ofInt y = Int32.ofInt (xrZ x y) := (Int32.ofInt_toInt _).symm
theorem in_ti (x : Int32) : inI x.toInt := by
  have h1 := Int32.toInt_lt x
  have h2 := Int32.le_toInt x
  exact ⟨by omega, by omega⟩
theorem sh5_i (x : Int) : inI (sh5 x) := in_ti _
theorem xrZ_i (x y : Int) : inI (xrZ x y) := in_ti _
theorem m31_b (x : Int) : 0 ≤ m31 x ∧ m31 x ≤ 2147483647 := by
  have h1 : (Int32.ofInt x &&& Int32.ofInt 2147483647).toBitVec.toNat ≤ 2147483647 := by
    rw [Int32.toBitVec_and, BitVec.toNat_and]
    exact Nat.and_le_right
  have h2 : m31 x = ((Int32.ofInt x &&& Int32.ofInt 2147483647).toBitVec.toNat : Int) := BitVec.toInt_eq_toNat_of_lt (by omega)
  omega
def lowZ (x n : Int) : Int := (m31 x).tmod n
theorem lowZ_b {x n : Int} (hn : 0 < n) : 0 ≤ lowZ x n ∧ lowZ x n < n := by
  have h := m31_b x
  unfold lowZ
  rw [Int.tmod_eq_emod_of_nonneg h.1]
  exact ⟨Int.emod_nonneg _ (by omega), Int.emod_lt_of_pos _ hn⟩
theorem shr_pw : ∀ k : Nat, k < 28 → Int64.ofInt ((2 ^ k / 2 : Nat) : Int) >>> ((Int32.ofInt 1).toInt64 &&& 63) = Int64.ofInt ((2 ^ (k - 1) / 2 : Nat) : Int) := by decide +kernel
theorem sine_w {x b : Int} (hb : (normZ x < 648000 ∧ b = normZ x) ∨ (648000 ≤ normZ x ∧ b = normZ x - 648000)) : (normZ x = b → (b * (648000 - b) * 40000).tdiv (524880000000 - b * (648000 - b)) = sinZ x) ∧ (normZ x ≠ b → -(b * (648000 - b) * 40000).tdiv (524880000000 - b * (648000 - b)) = sinZ x) := by
  have e : b * (648000 - b) * 40000 = 40000 * (b * (648000 - b)) := Int.mul_comm _ _
  rw [e]
  rcases hb with ⟨h1, h2⟩ | ⟨h1, h2⟩
  · refine ⟨fun _ => ?_, fun h => absurd h2.symm h⟩
    unfold sinZ sinH
    rw [if_pos h1, ← h2]
  · refine ⟨fun h => absurd h (by omega), fun _ => ?_⟩
    unfold sinZ sinH
    rw [if_neg (by omega), ← h2]
set_option maxHeartbeats 4000000 in
set_option maxRecDepth 100000 in
theorem c_L_size {l : Launch} (hl0 : l.stackTraces = false) (G : GG) {n : Nat} {sh : GSh} {R : GR} {z : Nat} {I J : GI} (x : Int) (hx : -2147483648 < x ∧ x ≤ 2147483647) : GM l yL_size (.code yL_size cL_size 1 (some .int)) 0 0 0 0 G n sh R [vI x] z I J (memQ (some (vI ((x).natAbs : Int))) I J) gNo := by
  refine gm_of (lo0 := [some (vI x)]) hl0 (by decide) rfl (Nat.le_of_ble_eq_true rfl) ?_
  intro p e s m args below meth c C ht hgi
  have C : gC G p l s m args meth c cL_size 1 RL (some .int) "size" := C
  refine gw_iload_n C 0 dL_size_0 rfl rfl ?_
  refine gw_if_ge C (tgt := 9) dL_size_1 (by decide) (by omega) (fun h_1 => ?_) (fun h_1 => ?_)
  · skip
    refine gw_iload_n C 0 dL_size_9 rfl rfl ?_
    exact gw_iret C (Nat.le_of_ble_eq_true rfl) (Nat.le_of_ble_eq_true rfl) dL_size_10 (⟨congrArg (fun q => some (vI q)) (by omega), rfl, rfl⟩)
  · skip
    refine gw_iload_n C 0 dL_size_4 rfl rfl ?_
    refine gw_ineg C dL_size_5 ?_
    refine gw_goto C (tgt := 10) dL_size_6 (by decide) ?_
    exact gw_iret C (Nat.le_of_ble_eq_true rfl) (Nat.le_of_ble_eq_true rfl) dL_size_10 (⟨congrArg (fun q => some (vI q)) (by omega), rfl, rfl⟩)
set_option maxHeartbeats 4000000 in
set_option maxRecDepth 100000 in
theorem c_L_norm {l : Launch} (hl0 : l.stackTraces = false) (G : GG) {n : Nat} {sh : GSh} {R : GR} {z : Nat} {I J : GI} (x : Int) (hx : inL x) : GM l yL_norm (.code yL_norm cL_norm 4 (some .int)) 0 0 0 0 G n sh R [vL x] z I J (memQ (some (vI (normZ x))) I J) gNo := by
  refine gm_of (lo0 := [some (vL x), none, none, none]) hl0 (by decide) rfl (Nat.le_of_ble_eq_true rfl) ?_
  intro p e s m args below meth c C ht hgi
  have C : gC G p l s m args meth c cL_norm 4 RL (some .int) "norm" := C
  have t := tmod_c x (c := 1296000) (by decide)
  refine gw_lload_n C 0 dL_norm_0 rfl rfl ?_
  refine gw_ldc2 C (x := 1296000) dL_norm_1 kL_57 (by decide) ?_
  refine gw_lrem C dL_norm_4 hx ⟨by decide, by decide⟩ (by decide) ?_
  refine gw_lstore_n C (lo1 := [some (vL x), none, some (vL ((x).tmod 1296000)), none]) 2 dL_norm_5 rfl (by decide) rfl ?_
  refine gw_lload_n C 2 dL_norm_6 rfl rfl ?_
  refine gw_lconst C 0 dL_norm_7 (by decide) ?_
  refine gw_lcmp C dL_norm_8 (by omega) ⟨by decide, by decide⟩ (fun h_8 => ?_) (fun h_8 => ?_) (fun h_8 => ?_)
  · skip
    refine gw_if_ge C (tgt := 20) dL_norm_9 (by decide) ⟨by decide, by decide⟩ (fun h => absurd h (by decide)) (fun _ => ?_)
    refine gw_lload_n C 2 dL_norm_12 rfl rfl ?_
    refine gw_ldc2 C (x := 1296000) dL_norm_13 kL_57 (by decide) ?_
    refine gw_ladd C dL_norm_16 ?_
    refine gw_goto C (tgt := 21) dL_norm_17 (by decide) ?_
    refine gw_l2i C dL_norm_21 ?_
    exact gw_iret C (Nat.le_of_ble_eq_true rfl) (Nat.le_of_ble_eq_true rfl) dL_norm_22 (⟨congrArg (fun q => some (vI q)) (by unfold normZ; omega), rfl, rfl⟩)
  · skip
    refine gw_if_ge C (tgt := 20) dL_norm_9 (by decide) ⟨by decide, by decide⟩ (fun _ => ?_) (fun h => absurd h (by decide))
    refine gw_lload_n C 2 dL_norm_20 rfl rfl ?_
    refine gw_l2i C dL_norm_21 ?_
    exact gw_iret C (Nat.le_of_ble_eq_true rfl) (Nat.le_of_ble_eq_true rfl) dL_norm_22 (⟨congrArg (fun q => some (vI q)) (by unfold normZ; omega), rfl, rfl⟩)
  · skip
    refine gw_if_ge C (tgt := 20) dL_norm_9 (by decide) ⟨by decide, by decide⟩ (fun _ => ?_) (fun h => absurd h (by decide))
    refine gw_lload_n C 2 dL_norm_20 rfl rfl ?_
    refine gw_l2i C dL_norm_21 ?_
    exact gw_iret C (Nat.le_of_ble_eq_true rfl) (Nat.le_of_ble_eq_true rfl) dL_norm_22 (⟨congrArg (fun q => some (vI q)) (by unfold normZ; omega), rfl, rfl⟩)
set_option maxHeartbeats 4000000 in
set_option maxRecDepth 100000 in
theorem c_L_centre {l : Launch} (hl0 : l.stackTraces = false) (G : GG) {n : Nat} {sh : GSh} {R : GR} {z : Nat} {I J : GI} (x : Int) (hx : inL (x + 648000)) : GM l yL_centre (.code yL_centre cL_centre 2 (some .int)) 1 23 0 0 G n sh R [vL x] z I J (memQ (some (vI (centZ x))) I J) gNo := by
  refine gm_of (lo0 := [some (vL x), none]) hl0 (by decide) rfl (Nat.le_of_ble_eq_true rfl) ?_
  intro p e s m args below meth c C ht hgi
  have C : gC G p l s m args meth c cL_centre 2 RL (some .int) "centre" := C
  have hx1 := hx
  refine gw_lload_n C 0 dL_centre_0 rfl rfl ?_
  refine gw_ldc2 C (x := 648000) dL_centre_1 kL_59 (by decide) ?_
  refine gw_ladd C dL_centre_4 ?_
  refine gw_callSm C (as := [vL (x + 648000)]) (st := []) (c_L_norm hl0 G (x + 648000) hx) dL_centre_5 kL_61 qL_norm hdL_norm ⟨Nat.le_of_ble_eq_true rfl, Nat.le_of_ble_eq_true rfl⟩ ⟨Nat.le_of_ble_eq_true rfl, Nat.le_of_ble_eq_true rfl⟩ (Nat.le_of_ble_eq_true rfl) rfl (fun z_5 => ?_)
  have hr_5 := normZ_b (x + 648000)
  refine gw_ldc C (x := 648000) dL_centre_8 kL_67 (by decide) ?_
  refine gw_isub C dL_centre_10 ?_
  exact gw_iret C (Nat.le_of_ble_eq_true rfl) (Nat.le_of_ble_eq_true rfl) dL_centre_11 (⟨congrArg (fun q => some (vI q)) (by rfl), rfl, rfl⟩)
set_option maxHeartbeats 4000000 in
set_option maxRecDepth 100000 in
theorem c_L_sine {l : Launch} (hl0 : l.stackTraces = false) (G : GG) {n : Nat} {sh : GSh} {R : GR} {z : Nat} {I J : GI} (x : Int) (hx : inL x) : GM l yL_sine (.code yL_sine cL_sine 8 (some .long)) 1 23 0 0 G n sh R [vL x] z I J (memQ (some (vL (sinZ x))) I J) gNo := by
  refine gm_of (lo0 := [some (vL x), none, none, none, none, none, none, none]) hl0 (by decide) rfl (Nat.le_of_ble_eq_true rfl) ?_
  intro p e s m args below meth c C ht hgi
  have C : gC G p l s m args meth c cL_sine 8 RL (some .long) "sine" := C
  have hnb := normZ_b x
  refine gw_lload_n C 0 dL_sine_0 rfl rfl ?_
  refine gw_callSm C (as := [vL x]) (st := []) (c_L_norm hl0 G x hx) dL_sine_1 kL_61 qL_norm hdL_norm ⟨Nat.le_of_ble_eq_true rfl, Nat.le_of_ble_eq_true rfl⟩ ⟨Nat.le_of_ble_eq_true rfl, Nat.le_of_ble_eq_true rfl⟩ (Nat.le_of_ble_eq_true rfl) rfl (fun z_1 => ?_)
  have hr_1 := normZ_b x
  refine gw_i2l C dL_sine_4 (by omega) ?_
  refine gw_lstore_n C (lo1 := [some (vL x), none, some (vL (normZ x)), none, none, none, none, none]) 2 dL_sine_5 rfl (by decide) rfl ?_
  refine gw_lload_n C 2 dL_sine_6 rfl rfl ?_
  refine gw_ldc2 C (x := 648000) dL_sine_7 kL_59 (by decide) ?_
  refine gw_lrem C dL_sine_10 (by omega) ⟨by decide, by decide⟩ (by decide) ?_
  refine gw_lstore C (lo1 := [some (vL x), none, some (vL (normZ x)), none, some (vL (((normZ x)).tmod 648000)), none, none, none]) dL_sine_11 (by decide) rfl ?_
  obtain ⟨b, hb9⟩ : ∃ b, (normZ x).tmod 648000 = b := ⟨_, rfl⟩
  rw [hb9]
  have hb : (normZ x < 648000 ∧ b = normZ x) ∨ (648000 ≤ normZ x ∧ b = normZ x - 648000) := by rw [Int.tmod_eq_emod_of_nonneg (by omega)] at hb9; omega
  have hP := half_b (b := b) (by omega)
  have hw := sine_w hb
  refine gw_lload C dL_sine_13 rfl ?_
  refine gw_ldc2 C (x := 648000) dL_sine_15 kL_59 (by decide) ?_
  refine gw_lload C dL_sine_18 rfl ?_
  refine gw_lsub C dL_sine_20 ?_
  refine gw_lmul C dL_sine_21 ?_
  refine gw_ldc2 C (x := 40000) dL_sine_22 kL_68 (by decide) ?_
  refine gw_lmul C dL_sine_25 ?_
  refine gw_ldc2 C (x := 524880000000) dL_sine_26 kL_70 (by decide) ?_
  refine gw_lload C dL_sine_29 rfl ?_
  refine gw_ldc2 C (x := 648000) dL_sine_31 kL_59 (by decide) ?_
  refine gw_lload C dL_sine_34 rfl ?_
  refine gw_lsub C dL_sine_36 ?_
  refine gw_lmul C dL_sine_37 ?_
  refine gw_lsub C dL_sine_38 ?_
  refine gw_ldiv C dL_sine_39 (by omega) (by omega) (by omega) ?_
  refine gw_lstore C (lo1 := [some (vL x), none, some (vL (normZ x)), none, some (vL b), none, some (vL ((((b * (648000 - b)) * 40000)).tdiv (524880000000 - (b * (648000 - b))))), none]) dL_sine_40 (by decide) rfl ?_
  refine gw_lload_n C 2 dL_sine_42 rfl rfl ?_
  refine gw_lload C dL_sine_43 rfl ?_
  refine gw_lcmp C dL_sine_45 (by omega) (by omega) (fun h_45 => ?_) (fun h_45 => ?_) (fun h_45 => ?_)
  · skip
    refine gw_if_ne C (tgt := 54) dL_sine_46 (by decide) ⟨by decide, by decide⟩ (fun _ => ?_) (fun h => absurd h (by decide))
    refine gw_lload C dL_sine_54 rfl ?_
    refine gw_lneg C dL_sine_56 ?_
    exact gw_lret C (Nat.le_of_ble_eq_true rfl) (Nat.le_of_ble_eq_true rfl) dL_sine_57 (⟨congrArg (fun q => some (vL q)) (by first | exact hw.1 (by omega) | exact hw.2 (by omega)), rfl, rfl⟩)
  · skip
    refine gw_if_ne C (tgt := 54) dL_sine_46 (by decide) ⟨by decide, by decide⟩ (fun h => absurd h (by decide)) (fun _ => ?_)
    refine gw_lload C dL_sine_49 rfl ?_
    refine gw_goto C (tgt := 57) dL_sine_51 (by decide) ?_
    exact gw_lret C (Nat.le_of_ble_eq_true rfl) (Nat.le_of_ble_eq_true rfl) dL_sine_57 (⟨congrArg (fun q => some (vL q)) (by first | exact hw.1 (by omega) | exact hw.2 (by omega)), rfl, rfl⟩)
  · skip
    refine gw_if_ne C (tgt := 54) dL_sine_46 (by decide) ⟨by decide, by decide⟩ (fun _ => ?_) (fun h => absurd h (by decide))
    refine gw_lload C dL_sine_54 rfl ?_
    refine gw_lneg C dL_sine_56 ?_
    exact gw_lret C (Nat.le_of_ble_eq_true rfl) (Nat.le_of_ble_eq_true rfl) dL_sine_57 (⟨congrArg (fun q => some (vL q)) (by first | exact hw.1 (by omega) | exact hw.2 (by omega)), rfl, rfl⟩)
set_option maxHeartbeats 4000000 in
set_option maxRecDepth 100000 in
theorem c_L_root {l : Launch} (hl0 : l.stackTraces = false) (G : GG) {n : Nat} {sh : GSh} {R : GR} {z : Nat} {I J : GI} (v : Int) (hv : 0 ≤ v ∧ v < 10000000000000000) : GM l yL_root (.code yL_root cL_root 6 (some .int)) 0 0 0 0 G n sh R [vL v] z I J (memQ (some (vI (rootZ v))) I J) gNo := by
  refine gm_of (lo0 := [some (vL v), none, none, none, none, none]) hl0 (by decide) rfl (Nat.le_of_ble_eq_true rfl) ?_
  intro p e s m args below meth c C ht hgi
  have C : gC G p l s m args meth c cL_root 6 RL (some .int) "root" := C
  refine gw_lconst C 0 dL_root_0 (by decide) ?_
  refine gw_lstore_n C (lo1 := [some (vL v), none, some (vL 0), none, none, none]) 2 dL_root_1 rfl (by decide) rfl ?_
  refine gw_ldc2 C (x := 67108864) dL_root_2 kL_72 (by decide) ?_
  refine gw_lstore C (lo1 := [some (vL v), none, some (vL 0), none, some (vL 67108864), none]) dL_root_5 (by decide) rfl ?_
  have loop_7 : ∀ (fuel : Nat) (k : Nat) (r : Int), (k ≤ 27) → (0 ≤ r) → (r + ((2 ^ k : Nat) : Int) ≤ 134217728) → (r * r ≤ v) → (v < (r + ((2 ^ k : Nat) : Int)) * (r + ((2 ^ k : Nat) : Int))) → k < fuel → GW G p l e ({ frames := 0, cells := 0, slots := 0, locals := 0 } : Room) s m args below meth c 6 z n sh R I J 0 0 (vx_MQ below (GQ G n sh R (memQ (some (vI (rootZ v))) I J)) (GX G n sh R gNo) args s 0 0 (ge G)) 7 [some (vL v), none, some (vL r), none, some (vL ((2 ^ k / 2 : Nat) : Int)), none] [] := by
    intro fuel
    induction fuel with
    | zero => intro k r hk hr0 hb h1 h2 hf_7; exact absurd hf_7 (Nat.not_lt_zero _)
    | succ fuel ih_7 =>
      intro k r hk hr0 hb h1 h2 hf_7
      obtain ⟨q, hq⟩ : ∃ q : Nat, 2 ^ k = q := ⟨_, rfl⟩
      have hqk : k = 0 ∧ q = 1 ∨ 1 ≤ k ∧ q = 2 * 2 ^ (k - 1) := by
        rcases k with _ | k
        · exact Or.inl ⟨rfl, hq.symm⟩
        · exact Or.inr ⟨by omega, by rw [← hq, Nat.pow_succ, Nat.mul_comm]; rfl⟩
      obtain ⟨p9, hp9⟩ : ∃ p9 : Nat, 2 ^ (k - 1) = p9 := ⟨_, rfl⟩
      rw [hp9] at hqk
      rw [hq] at hb h2 ⊢
      have hq0 : 1 ≤ q := by rw [← hq]; exact Nat.two_pow_pos k
      have hsq := mul_b (a := r + ((q / 2 : Nat) : Int)) (b := r + ((q / 2 : Nat) : Int)) (m := 268435456) (k := 268435456) (by omega) (by omega)
      refine gw_lload C dL_root_7 rfl ?_
      refine gw_lconst C 0 dL_root_9 (by decide) ?_
      refine gw_lcmp C dL_root_10 (by omega) ⟨by decide, by decide⟩ (fun h_10 => ?_) (fun h_10 => ?_) (fun h_10 => ?_)
      · skip
        refine gw_if_le C (tgt := 46) dL_root_11 (by decide) ⟨by decide, by decide⟩ (fun _ => ?_) (fun h => absurd h (by decide))
        refine gw_lload_n C 2 dL_root_46 rfl rfl ?_
        refine gw_l2i C dL_root_47 ?_
        exact gw_iret C (Nat.le_of_ble_eq_true rfl) (Nat.le_of_ble_eq_true rfl) dL_root_48 (⟨congrArg (fun q => some (vI q)) (by exact rootZ_u hr0 h1 (by have hq1 : q = 1 := (by omega); rw [hq1] at h2; exact h2)), rfl, rfl⟩)
      · skip
        refine gw_if_le C (tgt := 46) dL_root_11 (by decide) ⟨by decide, by decide⟩ (fun _ => ?_) (fun h => absurd h (by decide))
        refine gw_lload_n C 2 dL_root_46 rfl rfl ?_
        refine gw_l2i C dL_root_47 ?_
        exact gw_iret C (Nat.le_of_ble_eq_true rfl) (Nat.le_of_ble_eq_true rfl) dL_root_48 (⟨congrArg (fun q => some (vI q)) (by exact rootZ_u hr0 h1 (by have hq1 : q = 1 := (by omega); rw [hq1] at h2; exact h2)), rfl, rfl⟩)
      · skip
        refine gw_if_le C (tgt := 46) dL_root_11 (by decide) ⟨by decide, by decide⟩ (fun h => absurd h (by decide)) (fun _ => ?_)
        refine gw_lload_n C 2 dL_root_14 rfl rfl ?_
        refine gw_lload_n C 2 dL_root_15 rfl rfl ?_
        refine gw_lload C dL_root_16 rfl ?_
        refine gw_ladd C dL_root_18 ?_
        refine gw_lload_n C 2 dL_root_19 rfl rfl ?_
        refine gw_lload C dL_root_20 rfl ?_
        refine gw_ladd C dL_root_22 ?_
        refine gw_lmul C dL_root_23 ?_
        refine gw_lload_n C 0 dL_root_24 rfl rfl ?_
        refine gw_lcmp C dL_root_25 (by omega) (by omega) (fun h_25 => ?_) (fun h_25 => ?_) (fun h_25 => ?_)
        · skip
          refine gw_if_gt C (tgt := 34) dL_root_26 (by decide) ⟨by decide, by decide⟩ (fun h => absurd h (by decide)) (fun _ => ?_)
          refine gw_lload C dL_root_29 rfl ?_
          refine gw_goto C (tgt := 35) dL_root_31 (by decide) ?_
          refine gw_ladd C dL_root_35 ?_
          refine gw_lstore_n C (lo1 := [some (vL v), none, some (vL (r + ((q / 2 : Nat) : Int))), none, some (vL ((q / 2 : Nat) : Int)), none]) 2 dL_root_36 rfl (by decide) rfl ?_
          refine gw_lload C dL_root_37 rfl ?_
          refine gw_iconst C dL_root_39 ?_
          refine gw_lshrY C ((2 ^ (k - 1) / 2 : Nat) : Int) dL_root_40 (by rw [← hq]; exact shr_pw k (by omega)) ?_
          refine gw_lstore C (lo1 := [some (vL v), none, some (vL (r + ((q / 2 : Nat) : Int))), none, some (vL ((2 ^ (k - 1) / 2 : Nat) : Int)), none]) dL_root_41 (by decide) rfl ?_
          refine gw_goto C (tgt := 7) dL_root_43 (by decide) ?_
          exact gw_weak (lo' := [some (vL v), none, some (vL (r + ((q / 2 : Nat) : Int))), none, some (vL ((2 ^ ((k - 1) : Nat) / 2 : Nat) : Int)), none]) ⟨rfl, rfl, congrArg (fun q => some (vL q)) (by first | rfl | decide | (simp; done) | omega), trivial⟩ (ih_7 (k - 1) (r + ((q / 2 : Nat) : Int)) (by omega) (by omega) (by rw [hp9]; omega) (by first | exact h1 | omega | (rw [Int.add_zero]; exact h1)) (by rw [hp9]; first | (have e : r + ((q / 2 : Nat) : Int) + (p9 : Int) = r + (q : Int) := (by omega); rw [e]; exact h2) | (have e : r + 0 + (p9 : Int) = r + ((q / 2 : Nat) : Int) := (by omega); rw [e]; omega)) (by omega))
        · skip
          refine gw_if_gt C (tgt := 34) dL_root_26 (by decide) ⟨by decide, by decide⟩ (fun h => absurd h (by decide)) (fun _ => ?_)
          refine gw_lload C dL_root_29 rfl ?_
          refine gw_goto C (tgt := 35) dL_root_31 (by decide) ?_
          refine gw_ladd C dL_root_35 ?_
          refine gw_lstore_n C (lo1 := [some (vL v), none, some (vL (r + ((q / 2 : Nat) : Int))), none, some (vL ((q / 2 : Nat) : Int)), none]) 2 dL_root_36 rfl (by decide) rfl ?_
          refine gw_lload C dL_root_37 rfl ?_
          refine gw_iconst C dL_root_39 ?_
          refine gw_lshrY C ((2 ^ (k - 1) / 2 : Nat) : Int) dL_root_40 (by rw [← hq]; exact shr_pw k (by omega)) ?_
          refine gw_lstore C (lo1 := [some (vL v), none, some (vL (r + ((q / 2 : Nat) : Int))), none, some (vL ((2 ^ (k - 1) / 2 : Nat) : Int)), none]) dL_root_41 (by decide) rfl ?_
          refine gw_goto C (tgt := 7) dL_root_43 (by decide) ?_
          exact gw_weak (lo' := [some (vL v), none, some (vL (r + ((q / 2 : Nat) : Int))), none, some (vL ((2 ^ ((k - 1) : Nat) / 2 : Nat) : Int)), none]) ⟨rfl, rfl, congrArg (fun q => some (vL q)) (by first | rfl | decide | (simp; done) | omega), trivial⟩ (ih_7 (k - 1) (r + ((q / 2 : Nat) : Int)) (by omega) (by omega) (by rw [hp9]; omega) (by first | exact h1 | omega | (rw [Int.add_zero]; exact h1)) (by rw [hp9]; first | (have e : r + ((q / 2 : Nat) : Int) + (p9 : Int) = r + (q : Int) := (by omega); rw [e]; exact h2) | (have e : r + 0 + (p9 : Int) = r + ((q / 2 : Nat) : Int) := (by omega); rw [e]; omega)) (by omega))
        · skip
          refine gw_if_gt C (tgt := 34) dL_root_26 (by decide) ⟨by decide, by decide⟩ (fun _ => ?_) (fun h => absurd h (by decide))
          refine gw_lconst C 0 dL_root_34 (by decide) ?_
          refine gw_ladd C dL_root_35 ?_
          refine gw_lstore_n C (lo1 := [some (vL v), none, some (vL (r + 0)), none, some (vL ((q / 2 : Nat) : Int)), none]) 2 dL_root_36 rfl (by decide) rfl ?_
          refine gw_lload C dL_root_37 rfl ?_
          refine gw_iconst C dL_root_39 ?_
          refine gw_lshrY C ((2 ^ (k - 1) / 2 : Nat) : Int) dL_root_40 (by rw [← hq]; exact shr_pw k (by omega)) ?_
          refine gw_lstore C (lo1 := [some (vL v), none, some (vL (r + 0)), none, some (vL ((2 ^ (k - 1) / 2 : Nat) : Int)), none]) dL_root_41 (by decide) rfl ?_
          refine gw_goto C (tgt := 7) dL_root_43 (by decide) ?_
          exact gw_weak (lo' := [some (vL v), none, some (vL (r + 0)), none, some (vL ((2 ^ ((k - 1) : Nat) / 2 : Nat) : Int)), none]) ⟨rfl, rfl, congrArg (fun q => some (vL q)) (by first | rfl | decide | (simp; done) | omega), trivial⟩ (ih_7 (k - 1) (r + 0) (by omega) (by omega) (by rw [hp9]; omega) (by first | exact h1 | omega | (rw [Int.add_zero]; exact h1)) (by rw [hp9]; first | (have e : r + ((q / 2 : Nat) : Int) + (p9 : Int) = r + (q : Int) := (by omega); rw [e]; exact h2) | (have e : r + 0 + (p9 : Int) = r + ((q / 2 : Nat) : Int) := (by omega); rw [e]; omega)) (by omega))
  exact gw_weak (lo' := [some (vL v), none, some (vL 0), none, some (vL ((2 ^ 27 / 2 : Nat) : Int)), none]) ⟨rfl, rfl, congrArg (fun q => some (vL q)) (by first | rfl | decide | (simp; done) | omega), trivial⟩ (loop_7 _ 27 0 (by decide) (by decide) (by decide) (by omega) (by have h : (0 : Int) + ((2 ^ 27 : Nat) : Int) = 134217728 := (by decide); rw [h]; omega) (Nat.lt_succ_self _))
set_option maxHeartbeats 4000000 in
set_option maxRecDepth 100000 in
theorem c_L_low {l : Launch} (hl0 : l.stackTraces = false) (G : GG) (I J : GI) {z : Nat} (x y : Int) (hx : inI x) (hy : 0 < y ∧ y ≤ 2147483647) : GM l yL_low (.code yL_low cL_low 2 (some .int)) 0 0 0 0 G N0 SH RR [vI x, vI y] z I J (memQ (some (vI (lowZ x y))) I J) gNo := by
  refine gm_of (lo0 := [some (vI x), some (vI y)]) hl0 (by decide) rfl (Nat.le_of_ble_eq_true rfl) ?_
  intro p e s m args below meth c C ht hgi
  have C : gC G p l s m args meth c cL_low 2 RL (some .int) "low" := C
  have hm := m31_b x
  refine gw_iload_n C 0 dL_low_0 rfl rfl ?_
  refine gw_ldc C (x := 2147483647) dL_low_1 kL_8 (by decide) ?_
  refine gw_iandY C (m31 x) dL_low_3 (m31_e x) ?_
  refine gw_iload_n C 1 dL_low_4 rfl rfl ?_
  refine gw_irem C dL_low_5 (by omega) (by omega) (by omega) ?_
  exact gw_iret C (Nat.le_of_ble_eq_true rfl) (Nat.le_of_ble_eq_true rfl) dL_low_6 (⟨congrArg (fun q => some (vI q)) (by rfl), rfl, rfl⟩)
def cellZ (G : GG) (k : Nat) : Int := if k < G.2.2.2.2.2.2.1 then (G.2.2.2.2.2.2.2 k).toInt else i32 (40503 * ((k : Int) + 3))
theorem cellZ_i (G : GG) (k : Nat) : inI (cellZ G k) := by
  unfold cellZ
  split
  · exact in_ti _
  · exact i32_in _
set_option maxHeartbeats 4000000 in
set_option maxRecDepth 100000 in
theorem c_L_cell {l : Launch} (hl0 : l.stackTraces = false) (G : GG) (I J : GI) {z : Nat} (k : Nat) (hk : k < 1000) : GM l yL_cell (.code yL_cell cL_cell 2 (some .int)) 0 0 0 0 G N0 SH RR [vA G.2.2.2.2.2.1, vI (k : Int)] z I J (memQ (some (vI (cellZ G k))) I J) gNo := by
  refine gm_of (lo0 := [some (vA G.2.2.2.2.2.1), some (vI (k : Int))]) hl0 (by decide) rfl (Nat.le_of_ble_eq_true rfl) ?_
  intro p e s m args below meth c C ht hgi
  have C : gC G p l s m args meth c cL_cell 2 RL (some .int) "cell" := C
  have hX := C.2.2.2.2.2.1.2.1.2.2.2.1
  have hb := C.2.2.2.2.2.1.2.1.2.2.2.2.1
  have hL9 := C.2.2.2.2.2.1.2.1.2.2.2.2.2
  refine gw_iload_n C 1 dL_cell_0 rfl rfl ?_
  refine gw_aloadA_n C 0 dL_cell_1 rfl rfl ?_
  refine gw_lenX C hX hb (by omega) dL_cell_2 ?_
  refine gw_icmp_ge C (tgt := 12) dL_cell_3 (by decide) (by omega) (by omega) (fun h_3 => ?_) (fun h_3 => ?_)
  · skip
    refine gw_ldc C (x := 40503) dL_cell_12 kL_7 (by decide) ?_
    refine gw_iload_n C 1 dL_cell_14 rfl rfl ?_
    refine gw_iconst C dL_cell_15 ?_
    refine gw_iadd C dL_cell_16 ?_
    refine gw_imul C dL_cell_17 ?_
    refine gw_norm ?_
    exact gw_iret C (Nat.le_of_ble_eq_true rfl) (Nat.le_of_ble_eq_true rfl) dL_cell_18 (⟨by rw [show cellZ G k = i32 (40503 * ((k : Int) + 3)) from by unfold cellZ; rw [if_neg (by omega)]], rfl, rfl⟩)
  · skip
    refine gw_aloadA_n C 0 dL_cell_6 rfl rfl ?_
    refine gw_iload_n C 1 dL_cell_7 rfl rfl ?_
    refine gw_ialdX C hX hb (x := (G.2.2.2.2.2.2.2 k).toInt) k (by omega) (by omega) (by omega) (Int32.ofInt_toInt _).symm dL_cell_8 ?_
    refine gw_goto C (tgt := 18) dL_cell_9 (by decide) ?_
    exact gw_iret C (Nat.le_of_ble_eq_true rfl) (Nat.le_of_ble_eq_true rfl) dL_cell_18 (⟨congrArg (fun q => some (vI q)) (by unfold cellZ; rw [if_pos (by omega)]), rfl, rfl⟩)
