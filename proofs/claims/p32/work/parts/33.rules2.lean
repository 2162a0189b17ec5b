section GR9
variable {G : GG} {p : Program} {l : Launch} {e : Env} {R0 : Room} {s : State} {m : MethodId} {args : Array Value} {below : List Frame} {meth : Method} {c : Code} {cc : ByteArray} {nL z n : Nat} {sh : GSh} {R : GR} {I J : GI} {k1 k2 pc : Nat} {Q : State → Prop} {lo : List (Option GV)} {st : List GV} {own nm Cn : String} {ret : Option FieldType}
theorem gw_getLeast (C : gC G p l s m args meth c cc nL own ret nm) {index : Nat} (h : (own, index, "ShaftPlumb", "LEAST_SETTINGS", "[I", "ShaftPlumb") ∈ gNF) (d : decode cc pc = .ok (.getstatic index, 3)) (k : GW G p l e R0 s m args below meth c nL z n sh R I J k1 k2 Q (pc + 3) lo (vA G.2.2.2.1 :: st)) : GW G p l e R0 s m args below meth c nL z n sh R I J k1 k2 Q (pc) lo (st) := by
  intro H locs ls hP hS hz hi hl
  have hRO := C.2.2.2.2.2.1
  exact va_getsN C.1.1 C.1.2.1 hRO.2.1.1 hS C.1.2.2.2.1 (va_Nw.use rfl (hRO.2.2.2.2.2.1 _ h)) (fun _ h => h) d (k H locs ls hP hS hz hi hl)
theorem gw_getGreat (C : gC G p l s m args meth c cc nL own ret nm) {index : Nat} (h : (own, index, "ShaftPlumb", "GREATEST_SETTINGS", "[I", "ShaftPlumb") ∈ gNF) (d : decode cc pc = .ok (.getstatic index, 3)) (k : GW G p l e R0 s m args below meth c nL z n sh R I J k1 k2 Q (pc + 3) lo (vA G.2.2.2.2.1 :: st)) : GW G p l e R0 s m args below meth c nL z n sh R I J k1 k2 Q (pc) lo (st) := by
  intro H locs ls hP hS hz hi hl
  have hRO := C.2.2.2.2.2.1
  exact va_getsN C.1.1 C.1.2.1 hRO.2.2.1.1 hS C.1.2.2.2.1 (va_Nw.use rfl (hRO.2.2.2.2.2.1 _ h)) (fun _ h => h) d (k H locs ls hP hS hz hi hl)
theorem gw_ialdX (C : gC G p l s m args meth c cc nL own ret nm) {b L : Nat} {xs : Nat → Int32} (hX : va_X b L xs s s.heap) (hb : b < G.1) {i x : Int} (q : Nat) (hq : i = (q : Int)) (hlt : q < L) (hL : L < 2147483648) (hx : xs q = Int32.ofInt x) (d : decode cc pc = .ok (.iaload, 1)) (k : GW G p l e R0 s m args below meth c nL z n sh R I J k1 k2 Q (pc + 1) lo (vI x :: st)) : GW G p l e R0 s m args below meth c nL z n sh R I J k1 k2 Q (pc) lo (vI i :: vA b :: st) := by
  intro H locs ls hP hS hz hi hl
  obtain ⟨o1, o2⟩ := oi_in hq hlt hL
  have hbl : b < s.heap.size := by
    obtain ⟨scr, h1, _⟩ := hX
    exact (Array.getElem?_eq_some_iff.mp h1).1
  refine va_sld C.1.1 C.1.2.1 hX hbl (Nat.not_le.mpr hb) hS o1 d ?_
  rw [o2, hx]
  exact k H locs ls hP hS hz hi hl
theorem gw_lenX (C : gC G p l s m args meth c cc nL own ret nm) {b L : Nat} {xs : Nat → Int32} (hX : va_X b L xs s s.heap) (hb : b < G.1) (hL : L < 2147483648) (d : decode cc pc = .ok (.arraylength, 1)) (k : GW G p l e R0 s m args below meth c nL z n sh R I J k1 k2 Q (pc + 1) lo (vI ((L : Nat) : Int) :: st)) : GW G p l e R0 s m args below meth c nL z n sh R I J k1 k2 Q (pc) lo (vA b :: st) := by
  intro H locs ls hP hS hz hi hl
  have hbl : b < s.heap.size := by
    obtain ⟨scr, h1, _⟩ := hX
    exact (Array.getElem?_eq_some_iff.mp h1).1
  refine va_slen C.1.1 C.1.2.1 hX hbl (Nat.not_le.mpr hb) hS d ?_
  have h := k H locs ls hP hS hz hi hl
  rw [show Int32.ofNat L = Int32.ofInt ((L : Nat) : Int) from (Int32.ofInt_eq_ofNat).symm]
  exact h
end GR9
def leZ (x : Int) : Int := if x = 1 then 1 else 0
def grZ (x : Int) : Int := if x = 0 then 999 else if x = 1 then 600 else 999999
theorem leZ_at (q : Nat) (h : q < 3) : gLeast q = Int32.ofInt (leZ (q : Int)) := by
  rcases q with _ | _ | _ | q
  · rfl
  · rfl
  · rfl
  · omega
theorem grZ_at (q : Nat) (h : q < 3) : gGreat q = Int32.ofInt (grZ (q : Int)) := by
  rcases q with _ | _ | _ | q
  · rfl
  · rfl
  · rfl
  · omega
theorem leZ_b (x : Int) : 0 ≤ leZ x ∧ leZ x ≤ 1 := by unfold leZ; split <;> omega
theorem grZ_b (x : Int) : 600 ≤ grZ x ∧ grZ x ≤ 999999 := by unfold grZ; (repeat' split) <;> omega
