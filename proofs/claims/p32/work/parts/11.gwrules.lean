abbrev inI (x : Int) : Prop := -2147483648 ≤ x ∧ x ≤ 2147483647
abbrev inL (x : Int) : Prop := -9223372036854775808 ≤ x ∧ x ≤ 9223372036854775807
def gIn (I : GI) : Prop := ∀ k j, inI (I k j)
theorem gIn_up {I : GI} {k j : Nat} {x : Int} (h : gIn I) (hx : inI x) : gIn (up I k j x) := fun a b => by
  unfold up
  split
  · split
    · exact hx
    · exact h a b
  · exact h a b
theorem oi {x : Int} (h : inI x) : (Int32.ofInt x).toInt = x := Int32.toInt_ofInt_of_le (by omega) (by omega)
theorem ol {x : Int} (h : inL x) : (Int64.ofInt x).toInt = x := Int64.toInt_ofInt_of_le (by omega) (by omega)
theorem oi_lt {x y : Int} (hx : inI x) (hy : inI y) : Int32.ofInt x < Int32.ofInt y ↔ x < y := by rw [Int32.lt_iff_toInt_lt, oi hx, oi hy]
theorem oi_le {x y : Int} (hx : inI x) (hy : inI y) : Int32.ofInt x ≤ Int32.ofInt y ↔ x ≤ y := by rw [Int32.le_iff_toInt_le, oi hx, oi hy]
theorem oi_eq {x y : Int} (hx : inI x) (hy : inI y) : Int32.ofInt x = Int32.ofInt y ↔ x = y := by rw [← Int32.toInt_inj, oi hx, oi hy]
theorem ol_lt {x y : Int} (hx : inL x) (hy : inL y) : Int64.ofInt x < Int64.ofInt y ↔ x < y := by rw [Int64.lt_iff_toInt_lt, ol hx, ol hy]
theorem ol_le {x y : Int} (hx : inL x) (hy : inL y) : Int64.ofInt x ≤ Int64.ofInt y ↔ x ≤ y := by rw [Int64.le_iff_toInt_le, ol hx, ol hy]
theorem ol_eq {x y : Int} (hx : inL x) (hy : inL y) : Int64.ofInt x = Int64.ofInt y ↔ x = y := by rw [← Int64.toInt_inj, ol hx, ol hy]
theorem oi_0 : Int32.ofInt 0 = 0 := by decide
theorem ol_0 : Int64.ofInt 0 = 0 := by decide
theorem in_0 : inI 0 := ⟨by decide, by decide⟩
theorem inL_0 : inL 0 := ⟨by decide, by decide⟩
theorem oi_cl {x : Int} (h : inI x) : (Int32.ofInt x).toNatClampNeg = x.toNat := by
  show (Int32.ofInt x).toInt.toNat = x.toNat
  rw [oi h]
theorem oi_in {x : Int} {k len : Nat} (hk : x = (k : Int)) (hl : k < len) (hs : len < 2147483648) : vp_in (Int32.ofInt x) len ∧ (Int32.ofInt x).toNatClampNeg = k := by
  have h : inI x := ⟨by omega, by omega⟩
  have hc : (Int32.ofInt x).toNatClampNeg = k := by rw [oi_cl h]; omega
  refine ⟨?_, hc⟩
  rintro (q | q)
  · rw [← oi_0, oi_lt h in_0] at q; omega
  · rw [hc] at q; omega
theorem oi_div {x y : Int} (hx : inI x) (hy : inI y) : Int32.ofInt x / Int32.ofInt y = Int32.ofInt (x.tdiv y) := (Int32.ofInt_tdiv hx.1 hx.2 hy.1 hy.2).symm
theorem ol_div {x y : Int} (hx : inL x) (hy : inL y) : Int64.ofInt x / Int64.ofInt y = Int64.ofInt (x.tdiv y) := (Int64.ofInt_tdiv hx.1 hx.2 hy.1 hy.2).symm
theorem oi_rem {x y : Int} (hx : inI x) (hy : inI y) : Int32.ofInt x - Int32.ofInt x / Int32.ofInt y * Int32.ofInt y = Int32.ofInt (x.tmod y) := by
  rw [oi_div hx hy, ← Int32.ofInt_mul, ← Int32.ofInt_sub]
  congr 1
  have h := Int.tmod_add_mul_tdiv x y
  rw [Int.mul_comm] at h
  omega
theorem ol_rem {x y : Int} (hx : inL x) (hy : inL y) : Int64.ofInt x - Int64.ofInt x / Int64.ofInt y * Int64.ofInt y = Int64.ofInt (x.tmod y) := by
  rw [ol_div hx hy, ← Int64.ofInt_mul, ← Int64.ofInt_sub]
  congr 1
  have h := Int.tmod_add_mul_tdiv x y
  rw [Int.mul_comm] at h
  omega
theorem oi_char {x : Int} (hx : 0 ≤ x ∧ x < 65536) : ((Int32.ofInt x).toUInt32 % 65536).toInt32 = Int32.ofInt x := by
  obtain ⟨k, rfl⟩ := Int.eq_ofNat_of_zero_le hx.1
  have h := pk_char (nI k)
  rw [pk_tn (by omega), Nat.mod_eq_of_lt (by omega)] at h
  rw [show Int32.ofInt (k : Int) = nI k from Int32.ofInt_eq_ofNat]
  exact h
theorem oi_narc {x : Int} (hx : 0 ≤ x ∧ x < 65536) : narrow .char (.int (Int32.ofInt x)) = .int (Int32.ofInt x) := by
  obtain ⟨k, rfl⟩ := Int.eq_ofNat_of_zero_le hx.1
  rw [show Int32.ofInt (k : Int) = nI k from Int32.ofInt_eq_ofNat]
  exact (pk_charN (by omega)).1
theorem oi_fitc {x : Int} (hx : 0 ≤ x ∧ x < 65536) : fits .char (.int (Int32.ofInt x)) = true := by
  obtain ⟨k, rfl⟩ := Int.eq_ofNat_of_zero_le hx.1
  rw [show Int32.ofInt (k : Int) = nI k from Int32.ofInt_eq_ofNat]
  exact (pk_charN (by omega)).2
def gLeast : Nat → Int32 := fun k => [0, 1, 0].getD k 0
def gGreat : Nat → Int32 := fun k => [999, 600, 999999].getD k 0
def gRO (G : GG) (U : State) : Prop :=
  (vx_Zq Bundle.tN "UNASSIGNED_STACK" Bundle.steD (ge G) U U.heap ∧ vx_Zq Bundle.tN "SUPPRESSED_SENTINEL" Bundle.listD (ge G) U U.heap) ∧
  (va_Z "ShaftPlumb" "LEAST_SETTINGS" "[I" (.ref G.2.2.2.1) (ge G) U U.heap ∧ va_X G.2.2.2.1 3 gLeast U U.heap ∧ G.2.2.2.1 < G.1 ∧ va_X G.2.2.2.2.2.1 G.2.2.2.2.2.2.1 G.2.2.2.2.2.2.2 U U.heap ∧ G.2.2.2.2.2.1 < G.1 ∧ G.2.2.2.2.2.2.1 ≤ 260) ∧
  (va_Z "ShaftPlumb" "GREATEST_SETTINGS" "[I" (.ref G.2.2.2.2.1) (ge G) U U.heap ∧ va_X G.2.2.2.2.1 3 gGreat U U.heap ∧ G.2.2.2.2.1 < G.1) ∧
  (∀ q ∈ gStr, ∃ a : Nat, vk_R q.1 q.2.1 q.2.2 a U) ∧
  (∀ q ∈ gNM, va_Nw (.methodLinkNest q.1 q.2.1 q.2.2.1 q.2.2.2) U) ∧
  (∀ q ∈ gNF, va_Nw (.fieldLinkNest q.1 q.2.1 q.2.2.1 q.2.2.2.1 q.2.2.2.2.1 q.2.2.2.2.2) U) ∧
  (∀ q ∈ gCast, va_Nw (.castable q.1 q.2) U) ∧
  (∀ q ∈ gNCast, va_Nc q.1 q.2 U) ∧
  (∀ q ∈ gAO, va_AO q U) ∧
  (∀ q ∈ gDecl, va_Nw (.declares q) U)
theorem gX_at {b L : Nat} {xs : Nat → Int32} {s U : State} (h : va_X b L xs s s.heap) (hvm : s.vm.Alike U.vm) (hq : U.heap[b]? = s.heap[b]?) : va_X b L xs U U.heap := by
  obtain ⟨scr, h1, h2, h3, h4, h5⟩ := h
  exact ⟨scr, by rw [hq]; exact h1, State.isArrayOf_alike hvm h2, h3, h4, h5⟩
theorem gX_lt {b L : Nat} {xs : Nat → Int32} {s : State} {H : Heap} (h : va_X b L xs s H) : b < H.size := by
  obtain ⟨scr, h1, -⟩ := h
  exact (Array.getElem?_eq_some_iff.mp h1).1
theorem gRO.at {G : GG} {s U : State} (h : gRO G s) (hW : s.WarmedH U.vm) (hq : ∀ a : Nat, a < s.heap.size → ¬ ge G a → U.heap[a]? = s.heap[a]?) : gRO G U := by
  obtain ⟨⟨h1, h2⟩, ⟨h3, h4, h5, s1, s2, s3⟩, ⟨h6, h7, h8⟩, h9, h10, h11, h12, h13, h14, h15⟩ := h
  have hv := hW.alike
  refine ⟨⟨(h1.kept hq).moved hv, (h2.kept hq).moved hv⟩, ⟨(h3.kept hq).moved hv, gX_at h4 hv (hq _ (gX_lt h4) (Nat.not_le.mpr h5)), h5, gX_at s1 hv (hq _ (gX_lt s1) (Nat.not_le.mpr s2)), s2, s3⟩, ⟨(h6.kept hq).moved hv, gX_at h7 hv (hq _ (gX_lt h7) (Nat.not_le.mpr h8)), h8⟩, fun q hm => ?_, fun q hm => va_Nw.warmM hW (h10 q hm), fun q hm => va_Nw.warmF hW (h11 q hm), fun q hm => va_Nw.warmC hW (h12 q hm), fun q hm => (h13 q hm).moved hv, fun q hm => (h14 q hm).moved hv, fun q hm => va_Nw.warmD hW (h15 q hm)⟩
  obtain ⟨a, ha⟩ := h9 q hm
  exact ⟨a, ha.warm hW⟩
def gRep (G : GG) (z n : Nat) (sh : GSh) (R : GR) (I J : GI) (U : State) : Prop := va_P G.2.1 vwCl (gW G n sh R I J) U.heap ∧ va_K G.2.1 vwCl (gT G.2.2.1) U ∧ U.heap.size = G.1 + z ∧ gIn I ∧ gRO G U
def gC (G : GG) (p : Program) (l : Launch) (s : State) (m : MethodId) (args : Array Value) (meth : Method) (c : Code) (cc : ByteArray) (nL : Nat) (own : String) (ret : Option FieldType) (nm : String) : Prop :=
  CallFix p m c cc nL s args GA own ∧ meth.sig.returnType = ret ∧ meth.locks = false ∧ l.stackTraces = false ∧ va_K G.2.1 vwCl (gT G.2.2.1) s ∧ gRO G s ∧ meth.name = nm
def GW (G : GG) (p : Program) (l : Launch) (e : Env) (R0 : Room) (s : State) (m : MethodId) (args : Array Value) (below : List Frame) (meth : Method) (c : Code) (nL : Nat) (z n : Nat) (sh : GSh) (R : GR) (I J : GI) (k1 k2 : Nat) (Q : State → Prop) (pc : Nat) (lo : List (Option GV)) (st : List GV) : Prop :=
  ∀ (H : Heap) (locs : List Loc) (ls : Array Slot), va_P G.2.1 vwCl (gW G n sh R I J) H → va_S (ge G) s.heap H locs → H.size = G.1 + z → gIn I → gL G ls nL lo → W p l e R0 s m args below meth c H locs k1 k2 Q (F0 m pc ls (st.map (cv G.1)))
theorem gcl0 : vwCl[0]? = some (RX0, TX0, 3) := rfl
section GR1
variable {G : GG} {p : Program} {l : Launch} {e : Env} {R0 : Room} {s : State} {m : MethodId} {args : Array Value} {below : List Frame} {meth : Method} {c : Code} {cc : ByteArray} {nL z n : Nat} {sh : GSh} {R : GR} {I J : GI} {k1 k2 pc : Nat} {Q : State → Prop} {lo : List (Option GV)} {st : List GV} {own nm Cn : String} {ret : Option FieldType}
theorem gw_iconst (C : gC G p l s m args meth c cc nL own ret nm) {x : Int} (d : decode cc pc = .ok (.iconst x, 1)) (k : GW G p l e R0 s m args below meth c nL z n sh R I J k1 k2 Q (pc + 1) lo (vI x :: st)) : GW G p l e R0 s m args below meth c nL z n sh R I J k1 k2 Q (pc) lo (st) := fun H locs ls hP hS hz hi hl => lv_iconst C.1.1 C.1.2.1 d rfl (k H locs ls hP hS hz hi hl)
theorem gw_bipush (C : gC G p l s m args meth c cc nL own ret nm) {x : Int} (d : decode cc pc = .ok (.bipush x, 2)) (hv : (Int8.ofInt x).toInt32 = Int32.ofInt x) (k : GW G p l e R0 s m args below meth c nL z n sh R I J k1 k2 Q (pc + 2) lo (vI x :: st)) : GW G p l e R0 s m args below meth c nL z n sh R I J k1 k2 Q (pc) lo (st) := fun H locs ls hP hS hz hi hl => lv_bipush C.1.1 C.1.2.1 d hv (k H locs ls hP hS hz hi hl)
theorem gw_sipush (C : gC G p l s m args meth c cc nL own ret nm) {x : Int} (d : decode cc pc = .ok (.sipush x, 3)) (hv : (Int16.ofInt x).toInt32 = Int32.ofInt x) (k : GW G p l e R0 s m args below meth c nL z n sh R I J k1 k2 Q (pc + 3) lo (vI x :: st)) : GW G p l e R0 s m args below meth c nL z n sh R I J k1 k2 Q (pc) lo (st) := fun H locs ls hP hS hz hi hl => lv_sipush C.1.1 C.1.2.1 d hv (k H locs ls hP hS hz hi hl)
theorem gw_ldc (C : gC G p l s m args meth c cc nL own ret nm) {i : Nat} {x : Int} {v : Int32} (d : decode cc pc = .ok (.ldc i, 2)) (hw : Cond.constant own i v ∈ GA) (hv : Int32.ofInt x = v) (k : GW G p l e R0 s m args below meth c nL z n sh R I J k1 k2 Q (pc + 2) lo (vI x :: st)) : GW G p l e R0 s m args below meth c nL z n sh R I J k1 k2 Q (pc) lo (st) := fun H locs ls hP hS hz hi hl => lv_ldc C.1.1 C.1.2.1 C.1.2.2.2.1 (C.1.2.2.2.2 _ hw) d (by rw [← hv]; exact k H locs ls hP hS hz hi hl)
theorem gw_ldcw (C : gC G p l s m args meth c cc nL own ret nm) {i : Nat} {x : Int} {v : Int32} (d : decode cc pc = .ok (.ldc_w i, 3)) (hw : Cond.constant own i v ∈ GA) (hv : Int32.ofInt x = v) (k : GW G p l e R0 s m args below meth c nL z n sh R I J k1 k2 Q (pc + 3) lo (vI x :: st)) : GW G p l e R0 s m args below meth c nL z n sh R I J k1 k2 Q (pc) lo (st) := fun H locs ls hP hS hz hi hl => lv_ldcw C.1.1 C.1.2.1 C.1.2.2.2.1 (C.1.2.2.2.2 _ hw) d (by rw [← hv]; exact k H locs ls hP hS hz hi hl)
theorem gw_ldc2 (C : gC G p l s m args meth c cc nL own ret nm) {i : Nat} {x : Int} {v : Int64} (d : decode cc pc = .ok (.ldc2_w i, 3)) (hw : Cond.constantLong own i v ∈ GA) (hv : Int64.ofInt x = v) (k : GW G p l e R0 s m args below meth c nL z n sh R I J k1 k2 Q (pc + 3) lo (vL x :: st)) : GW G p l e R0 s m args below meth c nL z n sh R I J k1 k2 Q (pc) lo (st) := fun H locs ls hP hS hz hi hl => lv_ldc2 C.1.1 C.1.2.1 C.1.2.2.2.1 (C.1.2.2.2.2 _ hw) d (by rw [← hv]; exact k H locs ls hP hS hz hi hl)
theorem gw_lconst (C : gC G p l s m args meth c cc nL own ret nm) {i : Fin 2} (x : Int) (d : decode cc pc = .ok (.lconst i, 1)) (hv : Int64.ofNat (i : Nat) = Int64.ofInt x) (k : GW G p l e R0 s m args below meth c nL z n sh R I J k1 k2 Q (pc + 1) lo (vL x :: st)) : GW G p l e R0 s m args below meth c nL z n sh R I J k1 k2 Q (pc) lo (st) := fun H locs ls hP hS hz hi hl => lv_lconst C.1.1 C.1.2.1 d hv (k H locs ls hP hS hz hi hl)
theorem gw_null (C : gC G p l s m args meth c cc nL own ret nm) (d : decode cc pc = .ok (.aconst_null, 1)) (k : GW G p l e R0 s m args below meth c nL z n sh R I J k1 k2 Q (pc + 1) lo (vN :: st)) : GW G p l e R0 s m args below meth c nL z n sh R I J k1 k2 Q (pc) lo (st) := fun H locs ls hP hS hz hi hl => lv_null C.1.1 C.1.2.1 d (k H locs ls hP hS hz hi hl)
theorem gw_iload_n (C : gC G p l s m args meth c cc nL own ret nm) {q : Fin 4} {x : Int} (i : Nat) (d : decode cc pc = .ok (.iload_n q, 1)) (hq : (q : Nat) = i) (h : lo[i]? = some (some (vI x))) (k : GW G p l e R0 s m args below meth c nL z n sh R I J k1 k2 Q (pc + 1) lo (vI x :: st)) : GW G p l e R0 s m args below meth c nL z n sh R I J k1 k2 Q (pc) lo (st) := fun H locs ls hP hS hz hi hl => lv_iload_n C.1.1 C.1.2.1 d hq (hl.2.2 _ _ h) (k H locs ls hP hS hz hi hl)
theorem gw_iload (C : gC G p l s m args meth c cc nL own ret nm) {i : Nat} {x : Int} (d : decode cc pc = .ok (.iload i, 2)) (h : lo[i]? = some (some (vI x))) (k : GW G p l e R0 s m args below meth c nL z n sh R I J k1 k2 Q (pc + 2) lo (vI x :: st)) : GW G p l e R0 s m args below meth c nL z n sh R I J k1 k2 Q (pc) lo (st) := fun H locs ls hP hS hz hi hl => lv_iload C.1.1 C.1.2.1 d (hl.2.2 _ _ h) (k H locs ls hP hS hz hi hl)
theorem gw_lload_n (C : gC G p l s m args meth c cc nL own ret nm) {q : Fin 4} {x : Int} (i : Nat) (d : decode cc pc = .ok (.lload_n q, 1)) (hq : (q : Nat) = i) (h : lo[i]? = some (some (vL x))) (k : GW G p l e R0 s m args below meth c nL z n sh R I J k1 k2 Q (pc + 1) lo (vL x :: st)) : GW G p l e R0 s m args below meth c nL z n sh R I J k1 k2 Q (pc) lo (st) := fun H locs ls hP hS hz hi hl => lv_lload_n C.1.1 C.1.2.1 d hq (hl.2.2 _ _ h) (k H locs ls hP hS hz hi hl)
theorem gw_lload (C : gC G p l s m args meth c cc nL own ret nm) {i : Nat} {x : Int} (d : decode cc pc = .ok (.lload i, 2)) (h : lo[i]? = some (some (vL x))) (k : GW G p l e R0 s m args below meth c nL z n sh R I J k1 k2 Q (pc + 2) lo (vL x :: st)) : GW G p l e R0 s m args below meth c nL z n sh R I J k1 k2 Q (pc) lo (st) := fun H locs ls hP hS hz hi hl => lv_lload C.1.1 C.1.2.1 d (hl.2.2 _ _ h) (k H locs ls hP hS hz hi hl)
theorem gw_aload_n (C : gC G p l s m args meth c cc nL own ret nm) {q : Fin 4} {x : Nat} (i : Nat) (d : decode cc pc = .ok (.aload_n q, 1)) (hq : (q : Nat) = i) (h : lo[i]? = some (some (vR x))) (k : GW G p l e R0 s m args below meth c nL z n sh R I J k1 k2 Q (pc + 1) lo (vR x :: st)) : GW G p l e R0 s m args below meth c nL z n sh R I J k1 k2 Q (pc) lo (st) := fun H locs ls hP hS hz hi hl => lv_aload_n C.1.1 C.1.2.1 d hq (hl.2.2 _ _ h) (k H locs ls hP hS hz hi hl)
theorem gw_aload (C : gC G p l s m args meth c cc nL own ret nm) {i : Nat} {x : Nat} (d : decode cc pc = .ok (.aload i, 2)) (h : lo[i]? = some (some (vR x))) (k : GW G p l e R0 s m args below meth c nL z n sh R I J k1 k2 Q (pc + 2) lo (vR x :: st)) : GW G p l e R0 s m args below meth c nL z n sh R I J k1 k2 Q (pc) lo (st) := fun H locs ls hP hS hz hi hl => lv_aload C.1.1 C.1.2.1 d (hl.2.2 _ _ h) (k H locs ls hP hS hz hi hl)
theorem gw_aloadA_n (C : gC G p l s m args meth c cc nL own ret nm) {q : Fin 4} {x : Nat} (i : Nat) (d : decode cc pc = .ok (.aload_n q, 1)) (hq : (q : Nat) = i) (h : lo[i]? = some (some (vA x))) (k : GW G p l e R0 s m args below meth c nL z n sh R I J k1 k2 Q (pc + 1) lo (vA x :: st)) : GW G p l e R0 s m args below meth c nL z n sh R I J k1 k2 Q (pc) lo (st) := fun H locs ls hP hS hz hi hl => lv_aload_n C.1.1 C.1.2.1 d hq (hl.2.2 _ _ h) (k H locs ls hP hS hz hi hl)
theorem gw_aloadA (C : gC G p l s m args meth c cc nL own ret nm) {i : Nat} {x : Nat} (d : decode cc pc = .ok (.aload i, 2)) (h : lo[i]? = some (some (vA x))) (k : GW G p l e R0 s m args below meth c nL z n sh R I J k1 k2 Q (pc + 2) lo (vA x :: st)) : GW G p l e R0 s m args below meth c nL z n sh R I J k1 k2 Q (pc) lo (st) := fun H locs ls hP hS hz hi hl => lv_aload C.1.1 C.1.2.1 d (hl.2.2 _ _ h) (k H locs ls hP hS hz hi hl)
theorem gw_aloadN_n (C : gC G p l s m args meth c cc nL own ret nm) {q : Fin 4} (i : Nat) (d : decode cc pc = .ok (.aload_n q, 1)) (hq : (q : Nat) = i) (h : lo[i]? = some (some vN)) (k : GW G p l e R0 s m args below meth c nL z n sh R I J k1 k2 Q (pc + 1) lo (vN :: st)) : GW G p l e R0 s m args below meth c nL z n sh R I J k1 k2 Q (pc) lo (st) := fun H locs ls hP hS hz hi hl => lv_aload_nN C.1.1 C.1.2.1 d hq (hl.2.2 _ _ h) (k H locs ls hP hS hz hi hl)
theorem gw_aloadN (C : gC G p l s m args meth c cc nL own ret nm) {i : Nat} (d : decode cc pc = .ok (.aload i, 2)) (h : lo[i]? = some (some vN)) (k : GW G p l e R0 s m args below meth c nL z n sh R I J k1 k2 Q (pc + 2) lo (vN :: st)) : GW G p l e R0 s m args below meth c nL z n sh R I J k1 k2 Q (pc) lo (st) := fun H locs ls hP hS hz hi hl => lv_aloadN C.1.1 C.1.2.1 d (hl.2.2 _ _ h) (k H locs ls hP hS hz hi hl)
theorem gw_istore_n (C : gC G p l s m args meth c cc nL own ret nm) {q : Fin 4} {x : Int} {lo1 : List (Option GV)} (i : Nat) (d : decode cc pc = .ok (.istore_n q, 1)) (hq : (q : Nat) = i) (hn : i < nL) (hlo : gSet lo i (vI x) = lo1) (k : GW G p l e R0 s m args below meth c nL z n sh R I J k1 k2 Q (pc + 1) lo1 (st)) : GW G p l e R0 s m args below meth c nL z n sh R I J k1 k2 Q (pc) lo (vI x :: st) := by
  intro H locs ls hP hS hz hi hl
  obtain ⟨ls', e', h'⟩ := gL_store1 (v := vI x) hl hn rfl
  rw [hlo] at h'
  have k' := k H locs ls' hP hS hz hi h'
  have hx := C.1.1
  have hb := C.1.2.1
  have e2 : storeLocals ls i (cv G.1 (vI x)) = some ls' := e'
  intro T hT X
  obtain ⟨t, a, b⟩ := k' T hT X
  refine ⟨t, ?_, b⟩
  subst hq
  simp only [cv, va_rf, Option.map] at e2
  simp only [List.map_cons, cv, va_rf, Option.map]
  jvm_step X.here [X.here.top, ↓top_set X.here.top, hx, hb, d, e2]
  first | exact a | exact ⟨rfl, a⟩
theorem gw_istore (C : gC G p l s m args meth c cc nL own ret nm) {x : Int} {lo1 : List (Option GV)} {i : Nat} (d : decode cc pc = .ok (.istore i, 2)) (hn : i < nL) (hlo : gSet lo i (vI x) = lo1) (k : GW G p l e R0 s m args below meth c nL z n sh R I J k1 k2 Q (pc + 2) lo1 (st)) : GW G p l e R0 s m args below meth c nL z n sh R I J k1 k2 Q (pc) lo (vI x :: st) := by
  intro H locs ls hP hS hz hi hl
  obtain ⟨ls', e', h'⟩ := gL_store1 (v := vI x) hl hn rfl
  rw [hlo] at h'
  have k' := k H locs ls' hP hS hz hi h'
  have hx := C.1.1
  have hb := C.1.2.1
  have e2 : storeLocals ls i (cv G.1 (vI x)) = some ls' := e'
  intro T hT X
  obtain ⟨t, a, b⟩ := k' T hT X
  refine ⟨t, ?_, b⟩
  skip
  simp only [cv, va_rf, Option.map] at e2
  simp only [List.map_cons, cv, va_rf, Option.map]
  jvm_step X.here [X.here.top, ↓top_set X.here.top, hx, hb, d, e2]
  first | exact a | exact ⟨rfl, a⟩
theorem gw_lstore_n (C : gC G p l s m args meth c cc nL own ret nm) {q : Fin 4} {x : Int} {lo1 : List (Option GV)} (i : Nat) (d : decode cc pc = .ok (.lstore_n q, 1)) (hq : (q : Nat) = i) (hn : i + 1 < nL) (hlo : gSet2 lo i (vL x) = lo1) (k : GW G p l e R0 s m args below meth c nL z n sh R I J k1 k2 Q (pc + 1) lo1 (st)) : GW G p l e R0 s m args below meth c nL z n sh R I J k1 k2 Q (pc) lo (vL x :: st) := by
  intro H locs ls hP hS hz hi hl
  obtain ⟨ls', e', h'⟩ := gL_store2 (v := vL x) hl hn rfl
  rw [hlo] at h'
  have k' := k H locs ls' hP hS hz hi h'
  have hx := C.1.1
  have hb := C.1.2.1
  have e2 : storeLocals ls i (cv G.1 (vL x)) = some ls' := e'
  intro T hT X
  obtain ⟨t, a, b⟩ := k' T hT X
  refine ⟨t, ?_, b⟩
  subst hq
  simp only [cv, va_rf, Option.map] at e2
  simp only [List.map_cons, cv, va_rf, Option.map]
  jvm_step X.here [X.here.top, ↓top_set X.here.top, hx, hb, d, e2]
  first | exact a | exact ⟨rfl, a⟩
theorem gw_lstore (C : gC G p l s m args meth c cc nL own ret nm) {x : Int} {lo1 : List (Option GV)} {i : Nat} (d : decode cc pc = .ok (.lstore i, 2)) (hn : i + 1 < nL) (hlo : gSet2 lo i (vL x) = lo1) (k : GW G p l e R0 s m args below meth c nL z n sh R I J k1 k2 Q (pc + 2) lo1 (st)) : GW G p l e R0 s m args below meth c nL z n sh R I J k1 k2 Q (pc) lo (vL x :: st) := by
  intro H locs ls hP hS hz hi hl
  obtain ⟨ls', e', h'⟩ := gL_store2 (v := vL x) hl hn rfl
  rw [hlo] at h'
  have k' := k H locs ls' hP hS hz hi h'
  have hx := C.1.1
  have hb := C.1.2.1
  have e2 : storeLocals ls i (cv G.1 (vL x)) = some ls' := e'
  intro T hT X
  obtain ⟨t, a, b⟩ := k' T hT X
  refine ⟨t, ?_, b⟩
  skip
  simp only [cv, va_rf, Option.map] at e2
  simp only [List.map_cons, cv, va_rf, Option.map]
  jvm_step X.here [X.here.top, ↓top_set X.here.top, hx, hb, d, e2]
  first | exact a | exact ⟨rfl, a⟩
theorem gw_astore_n (C : gC G p l s m args meth c cc nL own ret nm) {q : Fin 4} {x : Nat} {lo1 : List (Option GV)} (i : Nat) (d : decode cc pc = .ok (.astore_n q, 1)) (hq : (q : Nat) = i) (hn : i < nL) (hlo : gSet lo i (vR x) = lo1) (k : GW G p l e R0 s m args below meth c nL z n sh R I J k1 k2 Q (pc + 1) lo1 (st)) : GW G p l e R0 s m args below meth c nL z n sh R I J k1 k2 Q (pc) lo (vR x :: st) := by
  intro H locs ls hP hS hz hi hl
  obtain ⟨ls', e', h'⟩ := gL_store1 (v := vR x) hl hn rfl
  rw [hlo] at h'
  have k' := k H locs ls' hP hS hz hi h'
  have hx := C.1.1
  have hb := C.1.2.1
  have e2 : storeLocals ls i (cv G.1 (vR x)) = some ls' := e'
  intro T hT X
  obtain ⟨t, a, b⟩ := k' T hT X
  refine ⟨t, ?_, b⟩
  subst hq
  simp only [cv, va_rf, Option.map] at e2
  simp only [List.map_cons, cv, va_rf, Option.map]
  jvm_step X.here [X.here.top, ↓top_set X.here.top, hx, hb, d, e2]
  first | exact a | exact ⟨rfl, a⟩
theorem gw_astore (C : gC G p l s m args meth c cc nL own ret nm) {x : Nat} {lo1 : List (Option GV)} {i : Nat} (d : decode cc pc = .ok (.astore i, 2)) (hn : i < nL) (hlo : gSet lo i (vR x) = lo1) (k : GW G p l e R0 s m args below meth c nL z n sh R I J k1 k2 Q (pc + 2) lo1 (st)) : GW G p l e R0 s m args below meth c nL z n sh R I J k1 k2 Q (pc) lo (vR x :: st) := by
  intro H locs ls hP hS hz hi hl
  obtain ⟨ls', e', h'⟩ := gL_store1 (v := vR x) hl hn rfl
  rw [hlo] at h'
  have k' := k H locs ls' hP hS hz hi h'
  have hx := C.1.1
  have hb := C.1.2.1
  have e2 : storeLocals ls i (cv G.1 (vR x)) = some ls' := e'
  intro T hT X
  obtain ⟨t, a, b⟩ := k' T hT X
  refine ⟨t, ?_, b⟩
  skip
  simp only [cv, va_rf, Option.map] at e2
  simp only [List.map_cons, cv, va_rf, Option.map]
  jvm_step X.here [X.here.top, ↓top_set X.here.top, hx, hb, d, e2]
  first | exact a | exact ⟨rfl, a⟩
theorem gw_astoreA_n (C : gC G p l s m args meth c cc nL own ret nm) {q : Fin 4} {x : Nat} {lo1 : List (Option GV)} (i : Nat) (d : decode cc pc = .ok (.astore_n q, 1)) (hq : (q : Nat) = i) (hn : i < nL) (hlo : gSet lo i (vA x) = lo1) (k : GW G p l e R0 s m args below meth c nL z n sh R I J k1 k2 Q (pc + 1) lo1 (st)) : GW G p l e R0 s m args below meth c nL z n sh R I J k1 k2 Q (pc) lo (vA x :: st) := by
  intro H locs ls hP hS hz hi hl
  obtain ⟨ls', e', h'⟩ := gL_store1 (v := vA x) hl hn rfl
  rw [hlo] at h'
  have k' := k H locs ls' hP hS hz hi h'
  have hx := C.1.1
  have hb := C.1.2.1
  have e2 : storeLocals ls i (cv G.1 (vA x)) = some ls' := e'
  intro T hT X
  obtain ⟨t, a, b⟩ := k' T hT X
  refine ⟨t, ?_, b⟩
  subst hq
  simp only [cv, va_rf, Option.map] at e2
  simp only [List.map_cons, cv, va_rf, Option.map]
  jvm_step X.here [X.here.top, ↓top_set X.here.top, hx, hb, d, e2]
  first | exact a | exact ⟨rfl, a⟩
theorem gw_astoreA (C : gC G p l s m args meth c cc nL own ret nm) {x : Nat} {lo1 : List (Option GV)} {i : Nat} (d : decode cc pc = .ok (.astore i, 2)) (hn : i < nL) (hlo : gSet lo i (vA x) = lo1) (k : GW G p l e R0 s m args below meth c nL z n sh R I J k1 k2 Q (pc + 2) lo1 (st)) : GW G p l e R0 s m args below meth c nL z n sh R I J k1 k2 Q (pc) lo (vA x :: st) := by
  intro H locs ls hP hS hz hi hl
  obtain ⟨ls', e', h'⟩ := gL_store1 (v := vA x) hl hn rfl
  rw [hlo] at h'
  have k' := k H locs ls' hP hS hz hi h'
  have hx := C.1.1
  have hb := C.1.2.1
  have e2 : storeLocals ls i (cv G.1 (vA x)) = some ls' := e'
  intro T hT X
  obtain ⟨t, a, b⟩ := k' T hT X
  refine ⟨t, ?_, b⟩
  skip
  simp only [cv, va_rf, Option.map] at e2
  simp only [List.map_cons, cv, va_rf, Option.map]
  jvm_step X.here [X.here.top, ↓top_set X.here.top, hx, hb, d, e2]
  first | exact a | exact ⟨rfl, a⟩
theorem gw_astoreN_n (C : gC G p l s m args meth c cc nL own ret nm) {q : Fin 4} {lo1 : List (Option GV)} (i : Nat) (d : decode cc pc = .ok (.astore_n q, 1)) (hq : (q : Nat) = i) (hn : i < nL) (hlo : gSet lo i (vN) = lo1) (k : GW G p l e R0 s m args below meth c nL z n sh R I J k1 k2 Q (pc + 1) lo1 (st)) : GW G p l e R0 s m args below meth c nL z n sh R I J k1 k2 Q (pc) lo (vN :: st) := by
  intro H locs ls hP hS hz hi hl
  obtain ⟨ls', e', h'⟩ := gL_store1 (v := vN) hl hn rfl
  rw [hlo] at h'
  have k' := k H locs ls' hP hS hz hi h'
  have hx := C.1.1
  have hb := C.1.2.1
  have e2 : storeLocals ls i (cv G.1 (vN)) = some ls' := e'
  intro T hT X
  obtain ⟨t, a, b⟩ := k' T hT X
  refine ⟨t, ?_, b⟩
  subst hq
  simp only [cv, va_rf, Option.map] at e2
  simp only [List.map_cons, cv, va_rf, Option.map]
  jvm_step X.here [X.here.top, ↓top_set X.here.top, hx, hb, d, e2]
  first | exact a | exact ⟨rfl, a⟩
theorem gw_astoreN (C : gC G p l s m args meth c cc nL own ret nm) {lo1 : List (Option GV)} {i : Nat} (d : decode cc pc = .ok (.astore i, 2)) (hn : i < nL) (hlo : gSet lo i (vN) = lo1) (k : GW G p l e R0 s m args below meth c nL z n sh R I J k1 k2 Q (pc + 2) lo1 (st)) : GW G p l e R0 s m args below meth c nL z n sh R I J k1 k2 Q (pc) lo (vN :: st) := by
  intro H locs ls hP hS hz hi hl
  obtain ⟨ls', e', h'⟩ := gL_store1 (v := vN) hl hn rfl
  rw [hlo] at h'
  have k' := k H locs ls' hP hS hz hi h'
  have hx := C.1.1
  have hb := C.1.2.1
  have e2 : storeLocals ls i (cv G.1 (vN)) = some ls' := e'
  intro T hT X
  obtain ⟨t, a, b⟩ := k' T hT X
  refine ⟨t, ?_, b⟩
  skip
  simp only [cv, va_rf, Option.map] at e2
  simp only [List.map_cons, cv, va_rf, Option.map]
  jvm_step X.here [X.here.top, ↓top_set X.here.top, hx, hb, d, e2]
  first | exact a | exact ⟨rfl, a⟩
theorem gw_iinc (C : gC G p l s m args meth c cc nL own ret nm) {i : Nat} {x a : Int} {lo1 : List (Option GV)} (d : decode cc pc = .ok (.iinc i a, 3)) (h : lo[i]? = some (some (vI x))) (hn : i < nL) (hlo : gSet lo i (vI (x + a)) = lo1) (k : GW G p l e R0 s m args below meth c nL z n sh R I J k1 k2 Q (pc + 3) lo1 (st)) : GW G p l e R0 s m args below meth c nL z n sh R I J k1 k2 Q (pc) lo (st) := by
  intro H locs ls hP hS hz hi hl
  obtain ⟨ls', e', h'⟩ := gL_store1 (v := vI (x + a)) hl hn rfl
  rw [hlo] at h'
  have k' := k H locs ls' hP hS hz hi h'
  have hx := C.1.1
  have hb := C.1.2.1
  have hg : ls[i]? = some (.val (.int (Int32.ofInt x))) := hl.2.2 i _ h
  have e2 : storeLocals ls i (.int (Int32.ofInt x + Int32.ofInt a)) = some ls' := by rw [← Int32.ofInt_add]; exact e'
  intro T hT X
  obtain ⟨t, a1, b⟩ := k' T hT X
  refine ⟨t, ?_, b⟩
  jvm_step X.here [X.here.top, ↓top_set X.here.top, hx, hb, d, hg, e2]
  exact a1
theorem gw_iincW (C : gC G p l s m args meth c cc nL own ret nm) {i : Nat} {x a : Int} {lo1 : List (Option GV)} (d : decode cc pc = .ok (.iinc i a, 6)) (h : lo[i]? = some (some (vI x))) (hn : i < nL) (hlo : gSet lo i (vI (x + a)) = lo1) (k : GW G p l e R0 s m args below meth c nL z n sh R I J k1 k2 Q (pc + 6) lo1 (st)) : GW G p l e R0 s m args below meth c nL z n sh R I J k1 k2 Q (pc) lo (st) := by
  intro H locs ls hP hS hz hi hl
  obtain ⟨ls', e', h'⟩ := gL_store1 (v := vI (x + a)) hl hn rfl
  rw [hlo] at h'
  have k' := k H locs ls' hP hS hz hi h'
  have hx := C.1.1
  have hb := C.1.2.1
  have hg : ls[i]? = some (.val (.int (Int32.ofInt x))) := hl.2.2 i _ h
  have e2 : storeLocals ls i (.int (Int32.ofInt x + Int32.ofInt a)) = some ls' := by rw [← Int32.ofInt_add]; exact e'
  intro T hT X
  obtain ⟨t, a1, b⟩ := k' T hT X
  refine ⟨t, ?_, b⟩
  jvm_step X.here [X.here.top, ↓top_set X.here.top, hx, hb, d, hg, e2]
  exact a1
theorem gw_iadd (C : gC G p l s m args meth c cc nL own ret nm) {x y : Int} (d : decode cc pc = .ok (.iadd, 1)) (k : GW G p l e R0 s m args below meth c nL z n sh R I J k1 k2 Q (pc + 1) lo (vI (x + y) :: st)) : GW G p l e R0 s m args below meth c nL z n sh R I J k1 k2 Q (pc) lo (vI y :: vI x :: st) := fun H locs ls hP hS hz hi hl => lv_iadd C.1.1 C.1.2.1 d (by rw [← Int32.ofInt_add]; exact k H locs ls hP hS hz hi hl)
theorem gw_ladd (C : gC G p l s m args meth c cc nL own ret nm) {x y : Int} (d : decode cc pc = .ok (.ladd, 1)) (k : GW G p l e R0 s m args below meth c nL z n sh R I J k1 k2 Q (pc + 1) lo (vL (x + y) :: st)) : GW G p l e R0 s m args below meth c nL z n sh R I J k1 k2 Q (pc) lo (vL y :: vL x :: st) := fun H locs ls hP hS hz hi hl => lv_ladd C.1.1 C.1.2.1 d (by rw [← Int64.ofInt_add]; exact k H locs ls hP hS hz hi hl)
theorem gw_isub (C : gC G p l s m args meth c cc nL own ret nm) {x y : Int} (d : decode cc pc = .ok (.isub, 1)) (k : GW G p l e R0 s m args below meth c nL z n sh R I J k1 k2 Q (pc + 1) lo (vI (x - y) :: st)) : GW G p l e R0 s m args below meth c nL z n sh R I J k1 k2 Q (pc) lo (vI y :: vI x :: st) := fun H locs ls hP hS hz hi hl => lv_isub C.1.1 C.1.2.1 d (by rw [← Int32.ofInt_sub]; exact k H locs ls hP hS hz hi hl)
theorem gw_lsub (C : gC G p l s m args meth c cc nL own ret nm) {x y : Int} (d : decode cc pc = .ok (.lsub, 1)) (k : GW G p l e R0 s m args below meth c nL z n sh R I J k1 k2 Q (pc + 1) lo (vL (x - y) :: st)) : GW G p l e R0 s m args below meth c nL z n sh R I J k1 k2 Q (pc) lo (vL y :: vL x :: st) := fun H locs ls hP hS hz hi hl => lv_lsub C.1.1 C.1.2.1 d (by rw [← Int64.ofInt_sub]; exact k H locs ls hP hS hz hi hl)
theorem gw_imul (C : gC G p l s m args meth c cc nL own ret nm) {x y : Int} (d : decode cc pc = .ok (.imul, 1)) (k : GW G p l e R0 s m args below meth c nL z n sh R I J k1 k2 Q (pc + 1) lo (vI (x * y) :: st)) : GW G p l e R0 s m args below meth c nL z n sh R I J k1 k2 Q (pc) lo (vI y :: vI x :: st) := fun H locs ls hP hS hz hi hl => lv_imul C.1.1 C.1.2.1 d (by rw [← Int32.ofInt_mul]; exact k H locs ls hP hS hz hi hl)
theorem gw_lmul (C : gC G p l s m args meth c cc nL own ret nm) {x y : Int} (d : decode cc pc = .ok (.lmul, 1)) (k : GW G p l e R0 s m args below meth c nL z n sh R I J k1 k2 Q (pc + 1) lo (vL (x * y) :: st)) : GW G p l e R0 s m args below meth c nL z n sh R I J k1 k2 Q (pc) lo (vL y :: vL x :: st) := fun H locs ls hP hS hz hi hl => lv_lmul C.1.1 C.1.2.1 d (by rw [← Int64.ofInt_mul]; exact k H locs ls hP hS hz hi hl)
theorem gw_ineg (C : gC G p l s m args meth c cc nL own ret nm) {x : Int} (d : decode cc pc = .ok (.ineg, 1)) (k : GW G p l e R0 s m args below meth c nL z n sh R I J k1 k2 Q (pc + 1) lo (vI (-x) :: st)) : GW G p l e R0 s m args below meth c nL z n sh R I J k1 k2 Q (pc) lo (vI x :: st) := fun H locs ls hP hS hz hi hl => lv_ineg C.1.1 C.1.2.1 d (by rw [← Int32.ofInt_neg]; exact k H locs ls hP hS hz hi hl)
theorem gw_idiv (C : gC G p l s m args meth c cc nL own ret nm) {x y : Int} (d : decode cc pc = .ok (.idiv, 1)) (hx : inI x) (hy : inI y) (h0 : y ≠ 0) (k : GW G p l e R0 s m args below meth c nL z n sh R I J k1 k2 Q (pc + 1) lo (vI (x.tdiv y) :: st)) : GW G p l e R0 s m args below meth c nL z n sh R I J k1 k2 Q (pc) lo (vI y :: vI x :: st) := fun H locs ls hP hS hz hi hl => lv_idiv C.1.1 C.1.2.1 d (fun q => h0 ((oi_eq hy in_0).mp (by rw [oi_0]; exact q))) (by rw [oi_div hx hy]; exact k H locs ls hP hS hz hi hl)
theorem gw_irem (C : gC G p l s m args meth c cc nL own ret nm) {x y : Int} (d : decode cc pc = .ok (.irem, 1)) (hx : inI x) (hy : inI y) (h0 : y ≠ 0) (k : GW G p l e R0 s m args below meth c nL z n sh R I J k1 k2 Q (pc + 1) lo (vI (x.tmod y) :: st)) : GW G p l e R0 s m args below meth c nL z n sh R I J k1 k2 Q (pc) lo (vI y :: vI x :: st) := fun H locs ls hP hS hz hi hl => lv_irem C.1.1 C.1.2.1 d (fun q => h0 ((oi_eq hy in_0).mp (by rw [oi_0]; exact q))) (by rw [oi_rem hx hy]; exact k H locs ls hP hS hz hi hl)
theorem gw_lneg (C : gC G p l s m args meth c cc nL own ret nm) {x : Int} (d : decode cc pc = .ok (.lneg, 1)) (k : GW G p l e R0 s m args below meth c nL z n sh R I J k1 k2 Q (pc + 1) lo (vL (-x) :: st)) : GW G p l e R0 s m args below meth c nL z n sh R I J k1 k2 Q (pc) lo (vL x :: st) := fun H locs ls hP hS hz hi hl => lv_lneg C.1.1 C.1.2.1 d (by rw [← Int64.ofInt_neg]; exact k H locs ls hP hS hz hi hl)
theorem gw_ldiv (C : gC G p l s m args meth c cc nL own ret nm) {x y : Int} (d : decode cc pc = .ok (.ldiv, 1)) (hx : inL x) (hy : inL y) (h0 : y ≠ 0) (k : GW G p l e R0 s m args below meth c nL z n sh R I J k1 k2 Q (pc + 1) lo (vL (x.tdiv y) :: st)) : GW G p l e R0 s m args below meth c nL z n sh R I J k1 k2 Q (pc) lo (vL y :: vL x :: st) := fun H locs ls hP hS hz hi hl => lv_ldiv C.1.1 C.1.2.1 d (fun q => h0 ((ol_eq hy inL_0).mp (by rw [ol_0]; exact q))) (by rw [ol_div hx hy]; exact k H locs ls hP hS hz hi hl)
theorem gw_lrem (C : gC G p l s m args meth c cc nL own ret nm) {x y : Int} (d : decode cc pc = .ok (.lrem, 1)) (hx : inL x) (hy : inL y) (h0 : y ≠ 0) (k : GW G p l e R0 s m args below meth c nL z n sh R I J k1 k2 Q (pc + 1) lo (vL (x.tmod y) :: st)) : GW G p l e R0 s m args below meth c nL z n sh R I J k1 k2 Q (pc) lo (vL y :: vL x :: st) := fun H locs ls hP hS hz hi hl => lv_lrem C.1.1 C.1.2.1 d (fun q => h0 ((ol_eq hy inL_0).mp (by rw [ol_0]; exact q))) (by rw [ol_rem hx hy]; exact k H locs ls hP hS hz hi hl)
theorem gw_iand31 (C : gC G p l s m args meth c cc nL own ret nm) {x : Int} (y : Int) (d : decode cc pc = .ok (.iand, 1)) (hy : Int32.ofInt x &&& Int32.ofInt 31 = Int32.ofInt y) (k : GW G p l e R0 s m args below meth c nL z n sh R I J k1 k2 Q (pc + 1) lo (vI y :: st)) : GW G p l e R0 s m args below meth c nL z n sh R I J k1 k2 Q (pc) lo (vI 31 :: vI x :: st) := fun H locs ls hP hS hz hi hl => lv_iand C.1.1 C.1.2.1 d (by rw [show Int32.ofInt x &&& Int32.ofInt 31 = Int32.ofInt y from hy]; exact k H locs ls hP hS hz hi hl)
theorem gw_lshl1 (C : gC G p l s m args meth c cc nL own ret nm) {b : Int} (y : Int) (d : decode cc pc = .ok (.lshl, 1)) (hy : Int64.ofInt 1 <<< ((Int32.ofInt b).toInt64 &&& 63) = Int64.ofInt y) (k : GW G p l e R0 s m args below meth c nL z n sh R I J k1 k2 Q (pc + 1) lo (vL y :: st)) : GW G p l e R0 s m args below meth c nL z n sh R I J k1 k2 Q (pc) lo (vI b :: vL 1 :: st) := fun H locs ls hP hS hz hi hl => lv_lshl C.1.1 C.1.2.1 d hy (k H locs ls hP hS hz hi hl)
theorem gw_i2l (C : gC G p l s m args meth c cc nL own ret nm) {x : Int} (d : decode cc pc = .ok (.i2l, 1)) (hx : inI x) (k : GW G p l e R0 s m args below meth c nL z n sh R I J k1 k2 Q (pc + 1) lo (vL x :: st)) : GW G p l e R0 s m args below meth c nL z n sh R I J k1 k2 Q (pc) lo (vI x :: st) := fun H locs ls hP hS hz hi hl => lv_i2l C.1.1 C.1.2.1 d (Int32.toInt64_ofInt hx.1 hx.2) (k H locs ls hP hS hz hi hl)
theorem gw_l2i (C : gC G p l s m args meth c cc nL own ret nm) {x : Int} (d : decode cc pc = .ok (.l2i, 1)) (k : GW G p l e R0 s m args below meth c nL z n sh R I J k1 k2 Q (pc + 1) lo (vI x :: st)) : GW G p l e R0 s m args below meth c nL z n sh R I J k1 k2 Q (pc) lo (vL x :: st) := fun H locs ls hP hS hz hi hl => lv_l2i C.1.1 C.1.2.1 d Int64.toInt32_ofInt (k H locs ls hP hS hz hi hl)
theorem gw_i2c (C : gC G p l s m args meth c cc nL own ret nm) {x : Int} (d : decode cc pc = .ok (.i2c, 1)) (hx : 0 ≤ x ∧ x < 65536) (k : GW G p l e R0 s m args below meth c nL z n sh R I J k1 k2 Q (pc + 1) lo (vI x :: st)) : GW G p l e R0 s m args below meth c nL z n sh R I J k1 k2 Q (pc) lo (vI x :: st) := fun H locs ls hP hS hz hi hl => lv_i2c C.1.1 C.1.2.1 d (oi_char hx) (k H locs ls hP hS hz hi hl)
theorem gw_lcmp (C : gC G p l s m args meth c cc nL own ret nm) {x y : Int} (d : decode cc pc = .ok (.lcmp, 1)) (hx : inL x) (hy : inL y) (kl : x < y → GW G p l e R0 s m args below meth c nL z n sh R I J k1 k2 Q (pc + 1) lo (vI (-1) :: st)) (ke : x = y → GW G p l e R0 s m args below meth c nL z n sh R I J k1 k2 Q (pc + 1) lo (vI 0 :: st)) (kg : y < x → GW G p l e R0 s m args below meth c nL z n sh R I J k1 k2 Q (pc + 1) lo (vI 1 :: st)) : GW G p l e R0 s m args below meth c nL z n sh R I J k1 k2 Q (pc) lo (vL y :: vL x :: st) := fun H locs ls hP hS hz hi hl => W.lcmp C.1.1 C.1.2.1 d (by
  unfold lg_cmp
  by_cases h1 : y < x
  · rw [if_pos ((ol_lt hy hx).mpr h1)]; exact kg h1 H locs ls hP hS hz hi hl
  · rw [if_neg (fun q => h1 ((ol_lt hy hx).mp q))]
    by_cases h2 : x = y
    · rw [if_pos ((ol_eq hx hy).mpr h2)]; exact ke h2 H locs ls hP hS hz hi hl
    · rw [if_neg (fun q => h2 ((ol_eq hx hy).mp q))]; exact kl (by omega) H locs ls hP hS hz hi hl)
theorem gw_lcmpE (C : gC G p l s m args meth c cc nL own ret nm) {x y : Int} (d : decode cc pc = .ok (.lcmp, 1)) (h : x = y) (k : GW G p l e R0 s m args below meth c nL z n sh R I J k1 k2 Q (pc + 1) lo (vI 0 :: st)) : GW G p l e R0 s m args below meth c nL z n sh R I J k1 k2 Q (pc) lo (vL y :: vL x :: st) := fun H locs ls hP hS hz hi hl => W.lcmp C.1.1 C.1.2.1 d (by
  subst h
  unfold lg_cmp
  rw [if_neg (by rw [gt_iff_lt, Int64.lt_iff_toInt_lt]; omega), if_pos rfl]
  exact k H locs ls hP hS hz hi hl)
theorem gw_dupI (C : gC G p l s m args meth c cc nL own ret nm) {x : Int} (d : decode cc pc = .ok (.dup, 1)) (k : GW G p l e R0 s m args below meth c nL z n sh R I J k1 k2 Q (pc + 1) lo (vI x :: vI x :: st)) : GW G p l e R0 s m args below meth c nL z n sh R I J k1 k2 Q (pc) lo (vI x :: st) := fun H locs ls hP hS hz hi hl => lv_dup C.1.1 C.1.2.1 d rfl (k H locs ls hP hS hz hi hl)
theorem gw_popI (C : gC G p l s m args meth c cc nL own ret nm) {x : Int} (d : decode cc pc = .ok (.pop, 1)) (k : GW G p l e R0 s m args below meth c nL z n sh R I J k1 k2 Q (pc + 1) lo (st)) : GW G p l e R0 s m args below meth c nL z n sh R I J k1 k2 Q (pc) lo (vI x :: st) := fun H locs ls hP hS hz hi hl => lv_pop C.1.1 C.1.2.1 d rfl (k H locs ls hP hS hz hi hl)
theorem gw_dupR (C : gC G p l s m args meth c cc nL own ret nm) {x : Nat} (d : decode cc pc = .ok (.dup, 1)) (k : GW G p l e R0 s m args below meth c nL z n sh R I J k1 k2 Q (pc + 1) lo (vR x :: vR x :: st)) : GW G p l e R0 s m args below meth c nL z n sh R I J k1 k2 Q (pc) lo (vR x :: st) := fun H locs ls hP hS hz hi hl => lv_dup C.1.1 C.1.2.1 d rfl (k H locs ls hP hS hz hi hl)
theorem gw_popR (C : gC G p l s m args meth c cc nL own ret nm) {x : Nat} (d : decode cc pc = .ok (.pop, 1)) (k : GW G p l e R0 s m args below meth c nL z n sh R I J k1 k2 Q (pc + 1) lo (st)) : GW G p l e R0 s m args below meth c nL z n sh R I J k1 k2 Q (pc) lo (vR x :: st) := fun H locs ls hP hS hz hi hl => lv_pop C.1.1 C.1.2.1 d rfl (k H locs ls hP hS hz hi hl)
theorem gw_dupN (C : gC G p l s m args meth c cc nL own ret nm) (d : decode cc pc = .ok (.dup, 1)) (k : GW G p l e R0 s m args below meth c nL z n sh R I J k1 k2 Q (pc + 1) lo (vN :: vN :: st)) : GW G p l e R0 s m args below meth c nL z n sh R I J k1 k2 Q (pc) lo (vN :: st) := fun H locs ls hP hS hz hi hl => lv_dup C.1.1 C.1.2.1 d rfl (k H locs ls hP hS hz hi hl)
theorem gw_popN (C : gC G p l s m args meth c cc nL own ret nm) (d : decode cc pc = .ok (.pop, 1)) (k : GW G p l e R0 s m args below meth c nL z n sh R I J k1 k2 Q (pc + 1) lo (st)) : GW G p l e R0 s m args below meth c nL z n sh R I J k1 k2 Q (pc) lo (vN :: st) := fun H locs ls hP hS hz hi hl => lv_pop C.1.1 C.1.2.1 d rfl (k H locs ls hP hS hz hi hl)
theorem gw_dup2IR (C : gC G p l s m args meth c cc nL own ret nm) {x y : _} (d : decode cc pc = .ok (.dup2, 1)) (k : GW G p l e R0 s m args below meth c nL z n sh R I J k1 k2 Q (pc + 1) lo (vI x :: vR y :: vI x :: vR y :: st)) : GW G p l e R0 s m args below meth c nL z n sh R I J k1 k2 Q (pc) lo (vI x :: vR y :: st) := fun H locs ls hP hS hz hi hl => lv_dup2_11 C.1.1 C.1.2.1 d rfl rfl (k H locs ls hP hS hz hi hl)
theorem gw_dup_x1IR (C : gC G p l s m args meth c cc nL own ret nm) {x y : _} (d : decode cc pc = .ok (.dup_x1, 1)) (k : GW G p l e R0 s m args below meth c nL z n sh R I J k1 k2 Q (pc + 1) lo (vI x :: vR y :: vI x :: st)) : GW G p l e R0 s m args below meth c nL z n sh R I J k1 k2 Q (pc) lo (vI x :: vR y :: st) := fun H locs ls hP hS hz hi hl => lv_dup_x1 C.1.1 C.1.2.1 d rfl rfl (k H locs ls hP hS hz hi hl)
theorem gw_icmp_eq (C : gC G p l s m args meth c cc nL own ret nm) {x y : Int} {off : Int} {tgt : Nat} (d : decode cc pc = .ok (.if_icmp .eq off, 3)) (ht : (pc : Int) + off = (tgt : Int)) (hx : inI x) (hy : inI y) (kt : x = y → GW G p l e R0 s m args below meth c nL z n sh R I J k1 k2 Q (tgt) lo (st)) (kf : x ≠ y → GW G p l e R0 s m args below meth c nL z n sh R I J k1 k2 Q (pc + 3) lo (st)) : GW G p l e R0 s m args below meth c nL z n sh R I J k1 k2 Q (pc) lo (vI y :: vI x :: st) := fun H locs ls hP hS hz hi hl => lv_icmp_eq C.1.1 C.1.2.1 d ht (fun q => kt ((oi_eq hx hy).mp q) H locs ls hP hS hz hi hl) (fun q => kf (fun h => q ((oi_eq hx hy).mpr h)) H locs ls hP hS hz hi hl)
theorem gw_if_eq (C : gC G p l s m args meth c cc nL own ret nm) {x : Int} {off : Int} {tgt : Nat} (d : decode cc pc = .ok (.ifCond .eq off, 3)) (ht : (pc : Int) + off = (tgt : Int)) (hx : inI x) (kt : x = 0 → GW G p l e R0 s m args below meth c nL z n sh R I J k1 k2 Q (tgt) lo (st)) (kf : x ≠ 0 → GW G p l e R0 s m args below meth c nL z n sh R I J k1 k2 Q (pc + 3) lo (st)) : GW G p l e R0 s m args below meth c nL z n sh R I J k1 k2 Q (pc) lo (vI x :: st) := by
  have hy := in_0
  intro H locs ls hP hS hz hi hl
  refine lv_if_eq C.1.1 C.1.2.1 d ht ?_ ?_
  · rw [← oi_0]
    exact (fun q => kt ((oi_eq hx hy).mp q) H locs ls hP hS hz hi hl)
  · rw [← oi_0]
    exact (fun q => kf (fun h => q ((oi_eq hx hy).mpr h)) H locs ls hP hS hz hi hl)
theorem gw_icmp_ne (C : gC G p l s m args meth c cc nL own ret nm) {x y : Int} {off : Int} {tgt : Nat} (d : decode cc pc = .ok (.if_icmp .ne off, 3)) (ht : (pc : Int) + off = (tgt : Int)) (hx : inI x) (hy : inI y) (kt : x ≠ y → GW G p l e R0 s m args below meth c nL z n sh R I J k1 k2 Q (tgt) lo (st)) (kf : x = y → GW G p l e R0 s m args below meth c nL z n sh R I J k1 k2 Q (pc + 3) lo (st)) : GW G p l e R0 s m args below meth c nL z n sh R I J k1 k2 Q (pc) lo (vI y :: vI x :: st) := fun H locs ls hP hS hz hi hl => lv_icmp_ne C.1.1 C.1.2.1 d ht (fun q => kt (fun h => q ((oi_eq hx hy).mpr h)) H locs ls hP hS hz hi hl) (fun q => kf ((oi_eq hx hy).mp q) H locs ls hP hS hz hi hl)
theorem gw_if_ne (C : gC G p l s m args meth c cc nL own ret nm) {x : Int} {off : Int} {tgt : Nat} (d : decode cc pc = .ok (.ifCond .ne off, 3)) (ht : (pc : Int) + off = (tgt : Int)) (hx : inI x) (kt : x ≠ 0 → GW G p l e R0 s m args below meth c nL z n sh R I J k1 k2 Q (tgt) lo (st)) (kf : x = 0 → GW G p l e R0 s m args below meth c nL z n sh R I J k1 k2 Q (pc + 3) lo (st)) : GW G p l e R0 s m args below meth c nL z n sh R I J k1 k2 Q (pc) lo (vI x :: st) := by
  have hy := in_0
  intro H locs ls hP hS hz hi hl
  refine lv_if_ne C.1.1 C.1.2.1 d ht ?_ ?_
  · rw [← oi_0]
    exact (fun q => kt (fun h => q ((oi_eq hx hy).mpr h)) H locs ls hP hS hz hi hl)
  · rw [← oi_0]
    exact (fun q => kf ((oi_eq hx hy).mp q) H locs ls hP hS hz hi hl)
theorem gw_icmp_lt (C : gC G p l s m args meth c cc nL own ret nm) {x y : Int} {off : Int} {tgt : Nat} (d : decode cc pc = .ok (.if_icmp .lt off, 3)) (ht : (pc : Int) + off = (tgt : Int)) (hx : inI x) (hy : inI y) (kt : x < y → GW G p l e R0 s m args below meth c nL z n sh R I J k1 k2 Q (tgt) lo (st)) (kf : y ≤ x → GW G p l e R0 s m args below meth c nL z n sh R I J k1 k2 Q (pc + 3) lo (st)) : GW G p l e R0 s m args below meth c nL z n sh R I J k1 k2 Q (pc) lo (vI y :: vI x :: st) := fun H locs ls hP hS hz hi hl => lv_icmp_lt C.1.1 C.1.2.1 d ht (fun q => kt ((oi_lt hx hy).mp q) H locs ls hP hS hz hi hl) (fun q => kf (Int.not_lt.mp (fun h => q ((oi_lt hx hy).mpr (by omega)))) H locs ls hP hS hz hi hl)
theorem gw_if_lt (C : gC G p l s m args meth c cc nL own ret nm) {x : Int} {off : Int} {tgt : Nat} (d : decode cc pc = .ok (.ifCond .lt off, 3)) (ht : (pc : Int) + off = (tgt : Int)) (hx : inI x) (kt : x < 0 → GW G p l e R0 s m args below meth c nL z n sh R I J k1 k2 Q (tgt) lo (st)) (kf : 0 ≤ x → GW G p l e R0 s m args below meth c nL z n sh R I J k1 k2 Q (pc + 3) lo (st)) : GW G p l e R0 s m args below meth c nL z n sh R I J k1 k2 Q (pc) lo (vI x :: st) := by
  have hy := in_0
  intro H locs ls hP hS hz hi hl
  refine lv_if_lt C.1.1 C.1.2.1 d ht ?_ ?_
  · rw [← oi_0]
    exact (fun q => kt ((oi_lt hx hy).mp q) H locs ls hP hS hz hi hl)
  · rw [← oi_0]
    exact (fun q => kf (Int.not_lt.mp (fun h => q ((oi_lt hx hy).mpr (by omega)))) H locs ls hP hS hz hi hl)
theorem gw_icmp_ge (C : gC G p l s m args meth c cc nL own ret nm) {x y : Int} {off : Int} {tgt : Nat} (d : decode cc pc = .ok (.if_icmp .ge off, 3)) (ht : (pc : Int) + off = (tgt : Int)) (hx : inI x) (hy : inI y) (kt : y ≤ x → GW G p l e R0 s m args below meth c nL z n sh R I J k1 k2 Q (tgt) lo (st)) (kf : x < y → GW G p l e R0 s m args below meth c nL z n sh R I J k1 k2 Q (pc + 3) lo (st)) : GW G p l e R0 s m args below meth c nL z n sh R I J k1 k2 Q (pc) lo (vI y :: vI x :: st) := fun H locs ls hP hS hz hi hl => lv_icmp_ge C.1.1 C.1.2.1 d ht (fun q => kt ((oi_le hy hx).mp q) H locs ls hP hS hz hi hl) (fun q => kf (Int.not_le.mp (fun h => q ((oi_le hy hx).mpr (by omega)))) H locs ls hP hS hz hi hl)
theorem gw_if_ge (C : gC G p l s m args meth c cc nL own ret nm) {x : Int} {off : Int} {tgt : Nat} (d : decode cc pc = .ok (.ifCond .ge off, 3)) (ht : (pc : Int) + off = (tgt : Int)) (hx : inI x) (kt : 0 ≤ x → GW G p l e R0 s m args below meth c nL z n sh R I J k1 k2 Q (tgt) lo (st)) (kf : x < 0 → GW G p l e R0 s m args below meth c nL z n sh R I J k1 k2 Q (pc + 3) lo (st)) : GW G p l e R0 s m args below meth c nL z n sh R I J k1 k2 Q (pc) lo (vI x :: st) := by
  have hy := in_0
  intro H locs ls hP hS hz hi hl
  refine lv_if_ge C.1.1 C.1.2.1 d ht ?_ ?_
  · rw [← oi_0]
    exact (fun q => kt ((oi_le hy hx).mp q) H locs ls hP hS hz hi hl)
  · rw [← oi_0]
    exact (fun q => kf (Int.not_le.mp (fun h => q ((oi_le hy hx).mpr (by omega)))) H locs ls hP hS hz hi hl)
theorem gw_icmp_gt (C : gC G p l s m args meth c cc nL own ret nm) {x y : Int} {off : Int} {tgt : Nat} (d : decode cc pc = .ok (.if_icmp .gt off, 3)) (ht : (pc : Int) + off = (tgt : Int)) (hx : inI x) (hy : inI y) (kt : y < x → GW G p l e R0 s m args below meth c nL z n sh R I J k1 k2 Q (tgt) lo (st)) (kf : x ≤ y → GW G p l e R0 s m args below meth c nL z n sh R I J k1 k2 Q (pc + 3) lo (st)) : GW G p l e R0 s m args below meth c nL z n sh R I J k1 k2 Q (pc) lo (vI y :: vI x :: st) := fun H locs ls hP hS hz hi hl => lv_icmp_gt C.1.1 C.1.2.1 d ht (fun q => kt ((oi_lt hy hx).mp q) H locs ls hP hS hz hi hl) (fun q => kf (Int.not_lt.mp (fun h => q ((oi_lt hy hx).mpr (by omega)))) H locs ls hP hS hz hi hl)
theorem gw_if_gt (C : gC G p l s m args meth c cc nL own ret nm) {x : Int} {off : Int} {tgt : Nat} (d : decode cc pc = .ok (.ifCond .gt off, 3)) (ht : (pc : Int) + off = (tgt : Int)) (hx : inI x) (kt : 0 < x → GW G p l e R0 s m args below meth c nL z n sh R I J k1 k2 Q (tgt) lo (st)) (kf : x ≤ 0 → GW G p l e R0 s m args below meth c nL z n sh R I J k1 k2 Q (pc + 3) lo (st)) : GW G p l e R0 s m args below meth c nL z n sh R I J k1 k2 Q (pc) lo (vI x :: st) := by
  have hy := in_0
  intro H locs ls hP hS hz hi hl
  refine lv_if_gt C.1.1 C.1.2.1 d ht ?_ ?_
  · rw [← oi_0]
    exact (fun q => kt ((oi_lt hy hx).mp q) H locs ls hP hS hz hi hl)
  · rw [← oi_0]
    exact (fun q => kf (Int.not_lt.mp (fun h => q ((oi_lt hy hx).mpr (by omega)))) H locs ls hP hS hz hi hl)
theorem gw_icmp_le (C : gC G p l s m args meth c cc nL own ret nm) {x y : Int} {off : Int} {tgt : Nat} (d : decode cc pc = .ok (.if_icmp .le off, 3)) (ht : (pc : Int) + off = (tgt : Int)) (hx : inI x) (hy : inI y) (kt : x ≤ y → GW G p l e R0 s m args below meth c nL z n sh R I J k1 k2 Q (tgt) lo (st)) (kf : y < x → GW G p l e R0 s m args below meth c nL z n sh R I J k1 k2 Q (pc + 3) lo (st)) : GW G p l e R0 s m args below meth c nL z n sh R I J k1 k2 Q (pc) lo (vI y :: vI x :: st) := fun H locs ls hP hS hz hi hl => lv_icmp_le C.1.1 C.1.2.1 d ht (fun q => kt ((oi_le hx hy).mp q) H locs ls hP hS hz hi hl) (fun q => kf (Int.not_le.mp (fun h => q ((oi_le hx hy).mpr (by omega)))) H locs ls hP hS hz hi hl)
theorem gw_if_le (C : gC G p l s m args meth c cc nL own ret nm) {x : Int} {off : Int} {tgt : Nat} (d : decode cc pc = .ok (.ifCond .le off, 3)) (ht : (pc : Int) + off = (tgt : Int)) (hx : inI x) (kt : x ≤ 0 → GW G p l e R0 s m args below meth c nL z n sh R I J k1 k2 Q (tgt) lo (st)) (kf : 0 < x → GW G p l e R0 s m args below meth c nL z n sh R I J k1 k2 Q (pc + 3) lo (st)) : GW G p l e R0 s m args below meth c nL z n sh R I J k1 k2 Q (pc) lo (vI x :: st) := by
  have hy := in_0
  intro H locs ls hP hS hz hi hl
  refine lv_if_le C.1.1 C.1.2.1 d ht ?_ ?_
  · rw [← oi_0]
    exact (fun q => kt ((oi_le hx hy).mp q) H locs ls hP hS hz hi hl)
  · rw [← oi_0]
    exact (fun q => kf (Int.not_le.mp (fun h => q ((oi_le hx hy).mpr (by omega)))) H locs ls hP hS hz hi hl)
theorem gw_goto (C : gC G p l s m args meth c cc nL own ret nm) {off : Int} {tgt : Nat} (d : decode cc pc = .ok (.goto off, 3)) (ht : (pc : Int) + off = (tgt : Int)) (k : GW G p l e R0 s m args below meth c nL z n sh R I J k1 k2 Q (tgt) lo (st)) : GW G p l e R0 s m args below meth c nL z n sh R I J k1 k2 Q (pc) lo (st) := fun H locs ls hP hS hz hi hl => lv_goto C.1.1 C.1.2.1 d ht (k H locs ls hP hS hz hi hl)
theorem gw_ifnull (C : gC G p l s m args meth c cc nL own ret nm) {x : Nat} {off : Int} (d : decode cc pc = .ok (.ifnull off, 3)) (k : GW G p l e R0 s m args below meth c nL z n sh R I J k1 k2 Q (pc + 3) lo (st)) : GW G p l e R0 s m args below meth c nL z n sh R I J k1 k2 Q (pc) lo (vR x :: st) := fun H locs ls hP hS hz hi hl => lv_ifnull C.1.1 C.1.2.1 d (k H locs ls hP hS hz hi hl)
theorem gw_ifnullN (C : gC G p l s m args meth c cc nL own ret nm) {off : Int} {tgt : Nat} (d : decode cc pc = .ok (.ifnull off, 3)) (ht : (pc : Int) + off = (tgt : Int)) (k : GW G p l e R0 s m args below meth c nL z n sh R I J k1 k2 Q (tgt) lo (st)) : GW G p l e R0 s m args below meth c nL z n sh R I J k1 k2 Q (pc) lo (vN :: st) := fun H locs ls hP hS hz hi hl => lv_ifnullN C.1.1 C.1.2.1 d ht (k H locs ls hP hS hz hi hl)
theorem gw_ifnonnull (C : gC G p l s m args meth c cc nL own ret nm) {x : Nat} {off : Int} {tgt : Nat} (d : decode cc pc = .ok (.ifnonnull off, 3)) (ht : (pc : Int) + off = (tgt : Int)) (k : GW G p l e R0 s m args below meth c nL z n sh R I J k1 k2 Q (tgt) lo (st)) : GW G p l e R0 s m args below meth c nL z n sh R I J k1 k2 Q (pc) lo (vR x :: st) := fun H locs ls hP hS hz hi hl => lv_ifnonnull C.1.1 C.1.2.1 d ht (k H locs ls hP hS hz hi hl)
theorem gw_ifnonnullN (C : gC G p l s m args meth c cc nL own ret nm) {off : Int} (d : decode cc pc = .ok (.ifnonnull off, 3)) (k : GW G p l e R0 s m args below meth c nL z n sh R I J k1 k2 Q (pc + 3) lo (st)) : GW G p l e R0 s m args below meth c nL z n sh R I J k1 k2 Q (pc) lo (vN :: st) := fun H locs ls hP hS hz hi hl => lv_ifnonnullN C.1.1 C.1.2.1 d (k H locs ls hP hS hz hi hl)
theorem gw_tableIn (C : gC G p l s m args meth c cc nL own ret nm) {x dflt lo9 hi9 off : Int} {offs : Array Int} {len tgt : Nat} (d : decode cc pc = .ok (.tableswitch dflt lo9 hi9 offs, len)) (hx : inI x) (h1 : lo9 ≤ x) (h2 : x ≤ hi9) (ho : offs[(x - lo9).toNat]? = some off) (ht : (pc : Int) + off = (tgt : Int)) (k : GW G p l e R0 s m args below meth c nL z n sh R I J k1 k2 Q (tgt) lo (st)) : GW G p l e R0 s m args below meth c nL z n sh R I J k1 k2 Q (pc) lo (vI x :: st) := fun H locs ls hP hS hz hi hl => lv_tableIn C.1.1 C.1.2.1 d (by rw [oi hx]; omega) (by rw [oi hx]; omega) (by rw [oi hx]; exact ho) ht (k H locs ls hP hS hz hi hl)
theorem gw_tableOut (C : gC G p l s m args meth c cc nL own ret nm) {x dflt lo9 hi9 : Int} {offs : Array Int} {len tgt : Nat} (d : decode cc pc = .ok (.tableswitch dflt lo9 hi9 offs, len)) (hx : inI x) (h : x < lo9 ∨ hi9 < x) (ht : (pc : Int) + dflt = (tgt : Int)) (k : GW G p l e R0 s m args below meth c nL z n sh R I J k1 k2 Q (tgt) lo (st)) : GW G p l e R0 s m args below meth c nL z n sh R I J k1 k2 Q (pc) lo (vI x :: st) := fun H locs ls hP hS hz hi hl => lv_tableOut C.1.1 C.1.2.1 d (by rw [oi hx]; exact h) ht (k H locs ls hP hS hz hi hl)
theorem gw_lookup (C : gC G p l s m args meth c cc nL own ret nm) {x dflt off : Int} {ps : Array (Int × Int)} {len tgt : Nat} (d : decode cc pc = .ok (.lookupswitch dflt ps, len)) (hx : inI x) (hp : (ps.toList.zip (ps.toList.drop 1)).all (fun (a, next) => a.1 < next.1) = true) (ho : Op.lookupswitch.offset ps.toList dflt x = off) (ht : (pc : Int) + off = (tgt : Int)) (k : GW G p l e R0 s m args below meth c nL z n sh R I J k1 k2 Q (tgt) lo (st)) : GW G p l e R0 s m args below meth c nL z n sh R I J k1 k2 Q (pc) lo (vI x :: st) := fun H locs ls hP hS hz hi hl => lv_lookup C.1.1 C.1.2.1 d hp (by rw [oi hx]; exact ho) ht (k H locs ls hP hS hz hi hl)
theorem gw_getI (C : gC G p l s m args meth c cc nL own ret nm) {N ci index : Nat} {Cn : String} {T0 : u_T} {r : Nat} (j : Nat) (hw : Cond.fieldLink own index (T0 j).1 (T0 j).2.1 (T0 j).2.2.1 ∈ GA) (hin : ∀ w ∈ u_ws Cn T0 N, w ∈ GA) (hc : vwCl[ci]? = some (Cn, T0, N)) (hj : j < N) (hN : gN ci = N) (hk : gK ci j = 0) (d : decode cc pc = .ok (.getfield index, 3)) (hs : sh r = .inl ci) (hr : r < n) (k : inI (I r j) → GW G p l e R0 s m args below meth c nL z n sh R I J k1 k2 Q (pc + 3) lo (vI (I r j) :: st)) : GW G p l e R0 s m args below meth c nL z n sh R I J k1 k2 Q (pc) lo (vR r :: st) := by
  intro H locs ls hP hS hz hi hl
  have he := gW_get (G := G) (sh := sh) (R := R) (I := I) (J := J) hr
  rw [hs] at he
  refine va_get (ci := ci) C.1.1 C.1.2.1 C.1.2.2.2.2 hin C.1.2.2.2.1 C.2.2.2.2.1 hP r he hc j hj (C.1.2.2.2.2 _ hw) (fun _ h => h) (v := .int (Int32.ofInt (I r j))) ?_ d (k (hi _ _) H locs ls hP hS hz hi hl)
  show ((List.range (gN ci)).map (fun j => gF G.1 (gK ci j) (R r j) (I r j) (J r j)))[j]? = _
  rw [rg_get _ (by rw [hN]; exact hj)]
  simp only [hk, gF]
theorem gw_getL (C : gC G p l s m args meth c cc nL own ret nm) {N ci index : Nat} {Cn : String} {T0 : u_T} {r : Nat} (j : Nat) (hw : Cond.fieldLink own index (T0 j).1 (T0 j).2.1 (T0 j).2.2.1 ∈ GA) (hin : ∀ w ∈ u_ws Cn T0 N, w ∈ GA) (hc : vwCl[ci]? = some (Cn, T0, N)) (hj : j < N) (hN : gN ci = N) (hk : gK ci j = 1) (d : decode cc pc = .ok (.getfield index, 3)) (hs : sh r = .inl ci) (hr : r < n) (k : GW G p l e R0 s m args below meth c nL z n sh R I J k1 k2 Q (pc + 3) lo (vL (J r j) :: st)) : GW G p l e R0 s m args below meth c nL z n sh R I J k1 k2 Q (pc) lo (vR r :: st) := by
  intro H locs ls hP hS hz hi hl
  have he := gW_get (G := G) (sh := sh) (R := R) (I := I) (J := J) hr
  rw [hs] at he
  refine va_get (ci := ci) C.1.1 C.1.2.1 C.1.2.2.2.2 hin C.1.2.2.2.1 C.2.2.2.2.1 hP r he hc j hj (C.1.2.2.2.2 _ hw) (fun _ h => h) (v := .long (Int64.ofInt (J r j))) ?_ d (k H locs ls hP hS hz hi hl)
  show ((List.range (gN ci)).map (fun j => gF G.1 (gK ci j) (R r j) (I r j) (J r j)))[j]? = _
  rw [rg_get _ (by rw [hN]; exact hj)]
  simp only [hk, gF]
theorem gw_getR (C : gC G p l s m args meth c cc nL own ret nm) {N ci index : Nat} {Cn : String} {T0 : u_T} {r : Nat} (j : Nat) (hw : Cond.fieldLink own index (T0 j).1 (T0 j).2.1 (T0 j).2.2.1 ∈ GA) (hin : ∀ w ∈ u_ws Cn T0 N, w ∈ GA) (hc : vwCl[ci]? = some (Cn, T0, N)) (hj : j < N) (hN : gN ci = N) (hk : gK ci j = 2) (d : decode cc pc = .ok (.getfield index, 3)) (hs : sh r = .inl ci) (hr : r < n) (k : GW G p l e R0 s m args below meth c nL z n sh R I J k1 k2 Q (pc + 3) lo (vO (R r j) :: st)) : GW G p l e R0 s m args below meth c nL z n sh R I J k1 k2 Q (pc) lo (vR r :: st) := by
  intro H locs ls hP hS hz hi hl
  have he := gW_get (G := G) (sh := sh) (R := R) (I := I) (J := J) hr
  rw [hs] at he
  refine va_get (ci := ci) C.1.1 C.1.2.1 C.1.2.2.2.2 hin C.1.2.2.2.1 C.2.2.2.2.1 hP r he hc j hj (C.1.2.2.2.2 _ hw) (fun _ h => h) (v := va_rf ((R r j).map (fun q => G.1 + q))) ?_ d (k H locs ls hP hS hz hi hl)
  show ((List.range (gN ci)).map (fun j => gF G.1 (gK ci j) (R r j) (I r j) (J r j)))[j]? = _
  rw [rg_get _ (by rw [hN]; exact hj)]
  simp only [hk, gF]
theorem gw_putI (C : gC G p l s m args meth c cc nL own ret nm) {N ci index : Nat} {Cn : String} {T0 : u_T} {r : Nat} {x : Int} {ty : FieldType} (j : Nat) (hw : Cond.fieldLink own index (T0 j).1 (T0 j).2.1 (T0 j).2.2.1 ∈ GA) (hin : ∀ w ∈ u_ws Cn T0 N, w ∈ GA) (hc : vwCl[ci]? = some (Cn, T0, N)) (hj : j < N) (hN : gN ci = N) (hk : gK ci j = 0) (ty0 : Nat → FieldType) (hty : ∀ k, k < N → parseFieldDescriptor (T0 k).2.2.1 = some (ty0 k)) (hnm : ∀ a, a < N → ∀ b, b < N → a ≠ b → (T0 a).2.1 ≠ (T0 b).2.1) (hfin : (T0 j).2.2.2 = false) (hd : parseFieldDescriptor (T0 j).2.2.1 = some ty) (hnar : narrow ty (.int (Int32.ofInt x)) = .int (Int32.ofInt x)) (hfit : fits ty (.int (Int32.ofInt x)) = true) (hx : inI x) (d : decode cc pc = .ok (.putfield index, 3)) (hs : sh r = .inl ci) (hr : r < n) (k : GW G p l e R0 s m args below meth c nL z n sh R (up I r j x) J k1 k2 Q (pc + 3) lo (st)) : GW G p l e R0 s m args below meth c nL z n sh R I J k1 k2 Q (pc) lo (vI x :: vR r :: st) := by
  intro H locs ls hP hS hz hi hl
  have he := gW_get (G := G) (sh := sh) (R := R) (I := I) (J := J) hr
  rw [hs] at he
  have hap := va_apart (own := own) C.1.2.2.2.2 hin ty0 hty hnm C.2.2.2.2.1 hc
  obtain ⟨r9, h1, cell, q1, q2, q3, q4⟩ := hP r _ he
  have hr9 : r9 = (Cn, T0, N) := Option.some.inj (h1.symm.trans hc)
  subst hr9
  obtain ⟨hS9, hfc, kC, hkC, hkind⟩ := C.2.2.2.2.1.1 ci _ hc
  obtain ⟨cf, kf, fi, f, hi2, hsl⟩ := hS9 j hj
  have hlay := C.1.2.2.2.2 _ (hin _ (u_in_lay hj))
  unfold u_lay at hlay
  rw [if_neg (by rw [hfin]; decide)] at hlay
  have hst := (u_facts hfc hkC (u_lays C.1.2.2.2.2 hin hj) hi2).1
  have h6 := u_store hfc hkC hkind hlay hi2 hd hnar hfit
  refine W.putK C.1.1 C.1.2.1 (f := f) ⟨C.1.2.2.2.1, C.1.2.2.2.2 _ hw, ⟨_, _, _, hi2⟩, hst⟩ (by rw [q2]; exact h6) q1 q3 (by rw [hsl]; exact k2_hasslot (q4 j hj)) rfl rfl d fun H' e1 e2 e3 => ?_
  rw [hsl] at e1 ⊢
  have hlen : j < ((List.range (gN ci)).map (fun j => gF G.1 (gK ci j) (R r j) (I r j) (J r j))).length := by rw [List.length_map, List.length_range, hN]; exact hj
  have hP2 := hP.set gW_D he (e := .inr (ci, ((List.range (gN ci)).map (fun j => gF G.1 (gK ci j) (R r j) (I r j) (J r j))).set j (.int (Int32.ofInt x)))) ⟨_, hc, t_OB.to (V := updV (vp_V ((List.range (gN ci)).map (fun j => gF G.1 (gK ci j) (R r j) (I r j) (J r j)))) j (.int (Int32.ofInt x))) ⟨_, e1, q2, q3, t_set q4 hap hj _⟩ (fun i _ => vp_updV_set hlen _ i)⟩ e3
  rw [gW_set (R' := R) (I' := (up I r j x)) (J' := J) ?_ ?_ ?_ ?_] at hP2
  · exact k H' _ ls hP2 (hS.put e2 e3 (Nat.le_add_right _ _)) (e2.trans hz) (gIn_up hi hx) hl
  · rw [hs]
    show (.inr (ci, _) : va_E) = .inr (ci, _)
    congr 2
    refine rg_set _ _ _ _ _ ?_ (fun i hne => ?_)
    · simp only [hk, gF, up_eq, upR_eq] <;> rfl
    · simp only [up_ne2 hne, upR_ne2 hne]
  · intro a ha; first | rfl | exact upR_ne ha
  · intro a ha; first | rfl | exact up_ne ha
  · intro a ha; first | rfl | exact up_ne ha
theorem gw_putL (C : gC G p l s m args meth c cc nL own ret nm) {N ci index : Nat} {Cn : String} {T0 : u_T} {r : Nat} {x : Int} {ty : FieldType} (j : Nat) (hw : Cond.fieldLink own index (T0 j).1 (T0 j).2.1 (T0 j).2.2.1 ∈ GA) (hin : ∀ w ∈ u_ws Cn T0 N, w ∈ GA) (hc : vwCl[ci]? = some (Cn, T0, N)) (hj : j < N) (hN : gN ci = N) (hk : gK ci j = 1) (ty0 : Nat → FieldType) (hty : ∀ k, k < N → parseFieldDescriptor (T0 k).2.2.1 = some (ty0 k)) (hnm : ∀ a, a < N → ∀ b, b < N → a ≠ b → (T0 a).2.1 ≠ (T0 b).2.1) (hfin : (T0 j).2.2.2 = false) (hd : parseFieldDescriptor (T0 j).2.2.1 = some ty) (hnar : narrow ty (.long (Int64.ofInt x)) = .long (Int64.ofInt x)) (hfit : fits ty (.long (Int64.ofInt x)) = true) (d : decode cc pc = .ok (.putfield index, 3)) (hs : sh r = .inl ci) (hr : r < n) (k : GW G p l e R0 s m args below meth c nL z n sh R I (up J r j x) k1 k2 Q (pc + 3) lo (st)) : GW G p l e R0 s m args below meth c nL z n sh R I J k1 k2 Q (pc) lo (vL x :: vR r :: st) := by
  intro H locs ls hP hS hz hi hl
  have he := gW_get (G := G) (sh := sh) (R := R) (I := I) (J := J) hr
  rw [hs] at he
  have hap := va_apart (own := own) C.1.2.2.2.2 hin ty0 hty hnm C.2.2.2.2.1 hc
  obtain ⟨r9, h1, cell, q1, q2, q3, q4⟩ := hP r _ he
  have hr9 : r9 = (Cn, T0, N) := Option.some.inj (h1.symm.trans hc)
  subst hr9
  obtain ⟨hS9, hfc, kC, hkC, hkind⟩ := C.2.2.2.2.1.1 ci _ hc
  obtain ⟨cf, kf, fi, f, hi2, hsl⟩ := hS9 j hj
  have hlay := C.1.2.2.2.2 _ (hin _ (u_in_lay hj))
  unfold u_lay at hlay
  rw [if_neg (by rw [hfin]; decide)] at hlay
  have hst := (u_facts hfc hkC (u_lays C.1.2.2.2.2 hin hj) hi2).1
  have h6 := u_store hfc hkC hkind hlay hi2 hd hnar hfit
  refine W.putK C.1.1 C.1.2.1 (f := f) ⟨C.1.2.2.2.1, C.1.2.2.2.2 _ hw, ⟨_, _, _, hi2⟩, hst⟩ (by rw [q2]; exact h6) q1 q3 (by rw [hsl]; exact k2_hasslot (q4 j hj)) rfl rfl d fun H' e1 e2 e3 => ?_
  rw [hsl] at e1 ⊢
  have hlen : j < ((List.range (gN ci)).map (fun j => gF G.1 (gK ci j) (R r j) (I r j) (J r j))).length := by rw [List.length_map, List.length_range, hN]; exact hj
  have hP2 := hP.set gW_D he (e := .inr (ci, ((List.range (gN ci)).map (fun j => gF G.1 (gK ci j) (R r j) (I r j) (J r j))).set j (.long (Int64.ofInt x)))) ⟨_, hc, t_OB.to (V := updV (vp_V ((List.range (gN ci)).map (fun j => gF G.1 (gK ci j) (R r j) (I r j) (J r j)))) j (.long (Int64.ofInt x))) ⟨_, e1, q2, q3, t_set q4 hap hj _⟩ (fun i _ => vp_updV_set hlen _ i)⟩ e3
  rw [gW_set (R' := R) (I' := I) (J' := (up J r j x)) ?_ ?_ ?_ ?_] at hP2
  · exact k H' _ ls hP2 (hS.put e2 e3 (Nat.le_add_right _ _)) (e2.trans hz) hi hl
  · rw [hs]
    show (.inr (ci, _) : va_E) = .inr (ci, _)
    congr 2
    refine rg_set _ _ _ _ _ ?_ (fun i hne => ?_)
    · simp only [hk, gF, up_eq, upR_eq] <;> rfl
    · simp only [up_ne2 hne, upR_ne2 hne]
  · intro a ha; first | rfl | exact upR_ne ha
  · intro a ha; first | rfl | exact up_ne ha
  · intro a ha; first | rfl | exact up_ne ha
theorem gw_putR (C : gC G p l s m args meth c cc nL own ret nm) {N ci index : Nat} {Cn : String} {T0 : u_T} {r : Nat} {x : Nat} {ty : FieldType} (j : Nat) (hw : Cond.fieldLink own index (T0 j).1 (T0 j).2.1 (T0 j).2.2.1 ∈ GA) (hin : ∀ w ∈ u_ws Cn T0 N, w ∈ GA) (hc : vwCl[ci]? = some (Cn, T0, N)) (hj : j < N) (hN : gN ci = N) (hk : gK ci j = 2) (ty0 : Nat → FieldType) (hty : ∀ k, k < N → parseFieldDescriptor (T0 k).2.2.1 = some (ty0 k)) (hnm : ∀ a, a < N → ∀ b, b < N → a ≠ b → (T0 a).2.1 ≠ (T0 b).2.1) (hfin : (T0 j).2.2.2 = false) (hd : parseFieldDescriptor (T0 j).2.2.1 = some ty) (hnar : narrow ty (.ref (G.1 + x)) = .ref (G.1 + x)) (hfit : fits ty (.ref (G.1 + x)) = true) (d : decode cc pc = .ok (.putfield index, 3)) (hs : sh r = .inl ci) (hr : r < n) (k : GW G p l e R0 s m args below meth c nL z n sh (upR R r j (some x)) I J k1 k2 Q (pc + 3) lo (st)) : GW G p l e R0 s m args below meth c nL z n sh R I J k1 k2 Q (pc) lo (vR x :: vR r :: st) := by
  intro H locs ls hP hS hz hi hl
  have he := gW_get (G := G) (sh := sh) (R := R) (I := I) (J := J) hr
  rw [hs] at he
  have hap := va_apart (own := own) C.1.2.2.2.2 hin ty0 hty hnm C.2.2.2.2.1 hc
  obtain ⟨r9, h1, cell, q1, q2, q3, q4⟩ := hP r _ he
  have hr9 : r9 = (Cn, T0, N) := Option.some.inj (h1.symm.trans hc)
  subst hr9
  obtain ⟨hS9, hfc, kC, hkC, hkind⟩ := C.2.2.2.2.1.1 ci _ hc
  obtain ⟨cf, kf, fi, f, hi2, hsl⟩ := hS9 j hj
  have hlay := C.1.2.2.2.2 _ (hin _ (u_in_lay hj))
  unfold u_lay at hlay
  rw [if_neg (by rw [hfin]; decide)] at hlay
  have hst := (u_facts hfc hkC (u_lays C.1.2.2.2.2 hin hj) hi2).1
  have h6 := u_store hfc hkC hkind hlay hi2 hd hnar hfit
  refine W.putK C.1.1 C.1.2.1 (f := f) ⟨C.1.2.2.2.1, C.1.2.2.2.2 _ hw, ⟨_, _, _, hi2⟩, hst⟩ (by rw [q2]; exact h6) q1 q3 (by rw [hsl]; exact k2_hasslot (q4 j hj)) rfl rfl d fun H' e1 e2 e3 => ?_
  rw [hsl] at e1 ⊢
  have hlen : j < ((List.range (gN ci)).map (fun j => gF G.1 (gK ci j) (R r j) (I r j) (J r j))).length := by rw [List.length_map, List.length_range, hN]; exact hj
  have hP2 := hP.set gW_D he (e := .inr (ci, ((List.range (gN ci)).map (fun j => gF G.1 (gK ci j) (R r j) (I r j) (J r j))).set j (.ref (G.1 + x)))) ⟨_, hc, t_OB.to (V := updV (vp_V ((List.range (gN ci)).map (fun j => gF G.1 (gK ci j) (R r j) (I r j) (J r j)))) j (.ref (G.1 + x))) ⟨_, e1, q2, q3, t_set q4 hap hj _⟩ (fun i _ => vp_updV_set hlen _ i)⟩ e3
  rw [gW_set (R' := (upR R r j (some x))) (I' := I) (J' := J) ?_ ?_ ?_ ?_] at hP2
  · exact k H' _ ls hP2 (hS.put e2 e3 (Nat.le_add_right _ _)) (e2.trans hz) hi hl
  · rw [hs]
    show (.inr (ci, _) : va_E) = .inr (ci, _)
    congr 2
    refine rg_set _ _ _ _ _ ?_ (fun i hne => ?_)
    · simp only [hk, gF, up_eq, upR_eq] <;> rfl
    · simp only [up_ne2 hne, upR_ne2 hne]
  · intro a ha; first | rfl | exact upR_ne ha
  · intro a ha; first | rfl | exact up_ne ha
  · intro a ha; first | rfl | exact up_ne ha
theorem gw_putFR (C : gC G p l s m args meth c cc nL own ret nm) {N ci index : Nat} {Cn : String} {T0 : u_T} {r : Nat} {x : Nat} {ty : FieldType} (j : Nat) (hw : Cond.fieldLink own index (T0 j).1 (T0 j).2.1 (T0 j).2.2.1 ∈ GA) (hin : ∀ w ∈ u_ws Cn T0 N, w ∈ GA) (hc : vwCl[ci]? = some (Cn, T0, N)) (hj : j < N) (hN : gN ci = N) (hk : gK ci j = 2) (ty0 : Nat → FieldType) (hty : ∀ k, k < N → parseFieldDescriptor (T0 k).2.2.1 = some (ty0 k)) (hnm : ∀ a, a < N → ∀ b, b < N → a ≠ b → (T0 a).2.1 ≠ (T0 b).2.1) (hfin : (T0 j).2.2.2 = true) (hin2 : meth.name = "<init>") (hdecl : (T0 j).1 = own) (hd : parseFieldDescriptor (T0 j).2.2.1 = some ty) (hnar : narrow ty (.ref (G.1 + x)) = .ref (G.1 + x)) (hfit : fits ty (.ref (G.1 + x)) = true) (d : decode cc pc = .ok (.putfield index, 3)) (hs : sh r = .inl ci) (hr : r < n) (k : GW G p l e R0 s m args below meth c nL z n sh (upR R r j (some x)) I J k1 k2 Q (pc + 3) lo (st)) : GW G p l e R0 s m args below meth c nL z n sh R I J k1 k2 Q (pc) lo (vR x :: vR r :: st) := by
  intro H locs ls hP hS hz hi hl
  have he := gW_get (G := G) (sh := sh) (R := R) (I := I) (J := J) hr
  rw [hs] at he
  have hap := va_apart (own := own) C.1.2.2.2.2 hin ty0 hty hnm C.2.2.2.2.1 hc
  obtain ⟨r9, h1, cell, q1, q2, q3, q4⟩ := hP r _ he
  have hr9 : r9 = (Cn, T0, N) := Option.some.inj (h1.symm.trans hc)
  subst hr9
  obtain ⟨hS9, hfc, kC, hkC, hkind⟩ := C.2.2.2.2.1.1 ci _ hc
  obtain ⟨cf, kf, fi, f, hi2, hsl⟩ := hS9 j hj
  have hlay := C.1.2.2.2.2 _ (hin _ (u_in_lay hj))
  unfold u_lay at hlay
  rw [if_pos hfin] at hlay
  have hst := (u_facts hfc hkC (u_lays C.1.2.2.2.2 hin hj) hi2).1
  have hcf : m.cls = cf := by
    obtain ⟨_, _, c', _, _, _, -, -, hf', -, -, -, hown2, -⟩ := Cond.laysFinal_spec hlay
    have e1 : c' = cf := by have := hi2.symm.trans hf'; simp at this; exact this.1.symm
    rw [hdecl] at hown2
    rw [← e1]; exact Option.some.inj (C.1.2.2.2.1.symm.trans hown2)
  have h6 := u_fits hfc hkC hkind (Or.inr hlay) hi2 hd hnar hfit
  refine W.putFinK C.1.1 C.1.2.1 C.1.2.2.2.1 (C.1.2.2.2.2 _ hw) hi2 hst hcf hin2 (by rw [q2]; exact h6) q1 q3 (by rw [hsl]; exact k2_hasslot (q4 j hj)) rfl rfl d fun H' e1 e2 e3 => ?_
  rw [hsl] at e1 ⊢
  have hlen : j < ((List.range (gN ci)).map (fun j => gF G.1 (gK ci j) (R r j) (I r j) (J r j))).length := by rw [List.length_map, List.length_range, hN]; exact hj
  have hP2 := hP.set gW_D he (e := .inr (ci, ((List.range (gN ci)).map (fun j => gF G.1 (gK ci j) (R r j) (I r j) (J r j))).set j (.ref (G.1 + x)))) ⟨_, hc, t_OB.to (V := updV (vp_V ((List.range (gN ci)).map (fun j => gF G.1 (gK ci j) (R r j) (I r j) (J r j)))) j (.ref (G.1 + x))) ⟨_, e1, q2, q3, t_set q4 hap hj _⟩ (fun i _ => vp_updV_set hlen _ i)⟩ e3
  rw [gW_set (R' := (upR R r j (some x))) (I' := I) (J' := J) ?_ ?_ ?_ ?_] at hP2
  · exact k H' _ ls hP2 (hS.put e2 e3 (Nat.le_add_right _ _)) (e2.trans hz) hi hl
  · rw [hs]
    show (.inr (ci, _) : va_E) = .inr (ci, _)
    congr 2
    refine rg_set _ _ _ _ _ ?_ (fun i hne => ?_)
    · simp only [hk, gF, up_eq, upR_eq] <;> rfl
    · simp only [up_ne2 hne, upR_ne2 hne]
  · intro a ha; first | rfl | exact upR_ne ha
  · intro a ha; first | rfl | exact up_ne ha
  · intro a ha; first | rfl | exact up_ne ha
theorem gw_iald (C : gC G p l s m args meth c cc nL own ret nm) {i : Int} {r len : Nat} (q : Nat) (d : decode cc pc = .ok (.iaload, 1)) (hs : sh r = .inr (0, len)) (hr : r < n) (hq : i = (q : Int)) (hlt : q < len) (hlen : len < 2147483648) (k : inI (I r q) → GW G p l e R0 s m args below meth c nL z n sh R I J k1 k2 Q (pc + 1) lo (vI (I r q) :: st)) : GW G p l e R0 s m args below meth c nL z n sh R I J k1 k2 Q (pc) lo (vI i :: vR r :: st) := by
  intro H locs ls hP hS hz hi hl
  have he := gW_get (G := G) (sh := sh) (R := R) (I := I) (J := J) hr
  rw [hs] at he
  obtain ⟨o1, o2⟩ := oi_in hq hlt hlen
  refine va_iald C.1.1 C.1.2.1 C.2.2.2.2.1 hP r 0 he rfl o1 d ?_
  rw [o2]
  exact k (hi _ _) H locs ls hP hS hz hi hl
theorem gw_cald (C : gC G p l s m args meth c cc nL own ret nm) {i : Int} {r len : Nat} (q : Nat) (d : decode cc pc = .ok (.caload, 1)) (hs : sh r = .inr (2, len)) (hr : r < n) (hq : i = (q : Int)) (hlt : q < len) (hlen : len < 2147483648) (k : inI (I r q) → GW G p l e R0 s m args below meth c nL z n sh R I J k1 k2 Q (pc + 1) lo (vI (I r q) :: st)) : GW G p l e R0 s m args below meth c nL z n sh R I J k1 k2 Q (pc) lo (vI i :: vR r :: st) := by
  intro H locs ls hP hS hz hi hl
  have he := gW_get (G := G) (sh := sh) (R := R) (I := I) (J := J) hr
  rw [hs] at he
  obtain ⟨o1, o2⟩ := oi_in hq hlt hlen
  refine va_cald C.1.1 C.1.2.1 C.2.2.2.2.1 hP r 2 he rfl o1 d ?_
  rw [o2]
  exact k (hi _ _) H locs ls hP hS hz hi hl
theorem gw_aald (C : gC G p l s m args meth c cc nL own ret nm) {i : Int} {r len t : Nat} {Cn : String} (q : Nat) (d : decode cc pc = .ok (.aaload, 1)) (ht : (gT G.2.2.1)[t]? = some (G.2.2.1 t, .object Cn)) (h3 : 3 ≤ t) (hs : sh r = .inr (t, len)) (hr : r < n) (hq : i = (q : Int)) (hlt : q < len) (hlen : len < 2147483648) (k : GW G p l e R0 s m args below meth c nL z n sh R I J k1 k2 Q (pc + 1) lo (vO (R r q) :: st)) : GW G p l e R0 s m args below meth c nL z n sh R I J k1 k2 Q (pc) lo (vI i :: vR r :: st) := by
  intro H locs ls hP hS hz hi hl
  have he := gW_get (G := G) (sh := sh) (R := R) (I := I) (J := J) hr
  rw [hs] at he
  obtain ⟨o1, o2⟩ := oi_in hq hlt hlen
  have he2 : (gW G n sh R I J)[r]? = some (G.1 + r, .inl (G.2.2.1 t, len, .inr (.inr (.inr (.inr (fun j => (R r j).map (fun q => G.1 + q))))))) := by
    rw [he]
    show some (_, Sum.inl (_, _, gA _ _ _ _ _)) = _
    match t, h3 with
    | t + 3, _ => rfl
  refine va_aldq C.1.1 C.1.2.1 C.2.2.2.2.1 hP r t he2 ht o1 d ?_
  rw [o2]
  exact k H locs ls hP hS hz hi hl
theorem vpc0 (cA : ClassId) (b len : Nat) (R : Nat → Option Nat) (I J : Nat → Int) : vp_cell cA (len, gA b 0 R I J) = arrV cA len (fun j => .int (Int32.ofInt (I j))) := rfl
theorem vpc1 (cA : ClassId) (b len : Nat) (R : Nat → Option Nat) (I J : Nat → Int) : vp_cell cA (len, gA b 1 R I J) = arrV cA len (fun j => .long (Int64.ofInt (J j))) := rfl
theorem vpc2 (cA : ClassId) (b len : Nat) (R : Nat → Option Nat) (I J : Nat → Int) : vp_cell cA (len, gA b 2 R I J) = arrV cA len (fun j => .int (Int32.ofInt (I j))) := rfl
theorem gw_iast (C : gC G p l s m args meth c cc nL own ret nm) {i : Int} {r len : Nat} {x : Int} (q : Nat) (d : decode cc pc = .ok (.iastore, 1)) (hs : sh r = .inr (0, len)) (hr : r < n) (hq : i = (q : Int)) (hlt : q < len) (hlen : len < 2147483648) (hx : inI x) (k : GW G p l e R0 s m args below meth c nL z n sh R (up I r q x) J k1 k2 Q (pc + 1) lo (st)) : GW G p l e R0 s m args below meth c nL z n sh R I J k1 k2 Q (pc) lo (vI x :: vI i :: vR r :: st) := by
  intro H locs ls hP hS hz hi hl
  have he := gW_get (G := G) (sh := sh) (R := R) (I := I) (J := J) hr
  rw [hs] at he
  obtain ⟨o1, o2⟩ := oi_in hq hlt hlen
  refine W.iast C.1.1 C.1.2.1 (hP r _ he) ((C.2.2.2.2.1.2 0 _ rfl).1 len (fun j => .int (Int32.ofInt (I r j)))) (fun q => by cases q) (by show ¬ (_ ∨ (arrV _ _ _).slots.size ≤ _); rw [arrV_size]; exact o1) rfl rfl d fun H1 e1 e2 e3 => ?_
  rw [o2] at e1 ⊢
  have hP2 := hP.set gW_D he (e := gE G.1 G.2.2.1 (.inr (0, len)) (R r) ((up I r q x) r) (J r)) ?_ e3
  · rw [gW_set (R' := R) (I' := (up I r q x)) (J' := J) ?_ ?_ ?_ ?_] at hP2
    · exact k H1 _ ls hP2 (hS.put e2 e3 (Nat.le_add_right _ _)) (e2.trans hz) (gIn_up hi hx) hl
    · rw [hs]
    · intro a ha; rfl
    · intro a ha; first | rfl | exact up_ne ha
    · intro a ha; first | rfl | exact up_ne ha
  · show H1[G.1 + r]? = some (vp_cell (G.2.2.1 0) (len, gA G.1 0 (R r) ((up I r q x) r) (J r)))
    have e0 : H1[G.1 + r]? = some ((vp_cell (G.2.2.1 0) (len, gA G.1 0 (R r) (I r) (J r))).setSlot q _) := e1
    rw [e0, vpc0, vpc0, arrV_store]
    congr 2
    funext j
    by_cases hj : j = q
    · subst hj
      simp only [updV, up_eq, if_true]
    · simp only [updV, up_ne2 hj, if_neg hj]
theorem gw_cast (C : gC G p l s m args meth c cc nL own ret nm) {i : Int} {r len : Nat} {x : Int} (q : Nat) (d : decode cc pc = .ok (.castore, 1)) (hs : sh r = .inr (2, len)) (hr : r < n) (hq : i = (q : Int)) (hlt : q < len) (hlen : len < 2147483648) (hx : 0 ≤ x ∧ x < 65536) (k : GW G p l e R0 s m args below meth c nL z n sh R (up I r q x) J k1 k2 Q (pc + 1) lo (st)) : GW G p l e R0 s m args below meth c nL z n sh R I J k1 k2 Q (pc) lo (vI x :: vI i :: vR r :: st) := by
  intro H locs ls hP hS hz hi hl
  have he := gW_get (G := G) (sh := sh) (R := R) (I := I) (J := J) hr
  rw [hs] at he
  obtain ⟨o1, o2⟩ := oi_in hq hlt hlen
  refine W.cast C.1.1 C.1.2.1 (hP r _ he) ((C.2.2.2.2.1.2 2 _ rfl).1 len (fun j => .int (Int32.ofInt (I r j)))) (fun q => by cases q) (by show ¬ (_ ∨ (arrV _ _ _).slots.size ≤ _); rw [arrV_size]; exact o1) rfl rfl d fun H1 e1 e2 e3 => ?_
  rw [o2] at e1 ⊢
  have hP2 := hP.set gW_D he (e := gE G.1 G.2.2.1 (.inr (2, len)) (R r) ((up I r q x) r) (J r)) ?_ e3
  · rw [gW_set (R' := R) (I' := (up I r q x)) (J' := J) ?_ ?_ ?_ ?_] at hP2
    · exact k H1 _ ls hP2 (hS.put e2 e3 (Nat.le_add_right _ _)) (e2.trans hz) (gIn_up hi (by omega)) hl
    · rw [hs]
    · intro a ha; rfl
    · intro a ha; first | rfl | exact up_ne ha
    · intro a ha; first | rfl | exact up_ne ha
  · show H1[G.1 + r]? = some (vp_cell (G.2.2.1 2) (len, gA G.1 2 (R r) ((up I r q x) r) (J r)))
    have e0 : H1[G.1 + r]? = some ((vp_cell (G.2.2.1 2) (len, gA G.1 2 (R r) (I r) (J r))).setSlot q _) := e1
    rw [e0, vpc2, vpc2, arrV_store]
    congr 2
    funext j
    by_cases hj : j = q
    · subst hj
      simp only [updV, up_eq, if_true]
      exact oi_narc hx
    · simp only [updV, up_ne2 hj, if_neg hj]
theorem gw_alen (C : gC G p l s m args meth c cc nL own ret nm) {r t len : Nat} {ty : FieldType} (d : decode cc pc = .ok (.arraylength, 1)) (ht : (gT G.2.2.1)[t]? = some (G.2.2.1 t, ty)) (hs : sh r = .inr (t, len)) (hr : r < n) (k : GW G p l e R0 s m args below meth c nL z n sh R I J k1 k2 Q (pc + 1) lo (vI (len : Int) :: st)) : GW G p l e R0 s m args below meth c nL z n sh R I J k1 k2 Q (pc) lo (vR r :: st) := by
  intro H locs ls hP hS hz hi hl
  have he := gW_get (G := G) (sh := sh) (R := R) (I := I) (J := J) hr
  rw [hs] at he
  exact va_alen C.1.1 C.1.2.1 C.2.2.2.2.1 hP r t he ht (v := Int32.ofInt (len : Int)) Int32.ofInt_eq_ofNat.symm d (k H locs ls hP hS hz hi hl)
theorem gw_iabs (C : gC G p l s m args meth c cc nL own ret nm) {index : Nat} {x : Int} (d : decode cc pc = .ok (.invokestatic index, 3)) (hw : Cond.methodLink own index Lib.Math.abs.name ∈ GA) (hx : inI x) (hm : x ≠ -2147483648) (hfr : 1 ≤ R0.frames) (hlo : ((st.map (cv G.1)).map fun v => v.category).sum + 13 ≤ R0.locals) (hk1 : k1 ≤ R0.cells) (hk2 : k2 ≤ R0.slots) (k : GW G p l e R0 s m args below meth c nL z n sh R I J k1 k2 Q (pc + 3) lo (vI (x.natAbs : Int) :: st)) : GW G p l e R0 s m args below meth c nL z n sh R I J k1 k2 Q (pc) lo (vI x :: st) := by
  intro H locs ls hP hS hz hi hl
  have hts := C.1.2.2.2.2
  refine va_mabs C.1.1 C.1.2.1 (C.1.2.2.1.trans hl.1.symm) C.1.2.2.2.1 (hts _ hw) (hts _ (qMabs _ (by simp))) (hts _ (qMabs _ (by simp))) (hts _ (qMabs _ (by simp))) hfr hlo hk1 hk2 d ?_
  have e : (if (0 : Int32) ≤ Int32.ofInt x then Int32.ofInt x else 0 - Int32.ofInt x) = Int32.ofInt (x.natAbs : Int) := by
    rw [← oi_0]
    by_cases h : 0 ≤ x
    · rw [if_pos ((oi_le in_0 hx).mpr h)]; congr 1; omega
    · rw [if_neg (fun q => h ((oi_le in_0 hx).mp q)), ← Int32.ofInt_sub]; congr 1; omega
  rw [e]
  exact k H locs ls hP hS hz hi hl
theorem gw_imax (C : gC G p l s m args meth c cc nL own ret nm) {index : Nat} {x y : Int} (d : decode cc pc = .ok (.invokestatic index, 3)) (hw : Cond.methodLink own index Lib.Math.max.name ∈ GA) (hx : inI x) (hy : inI y) (hfr : 1 ≤ R0.frames) (hlo : ((st.map (cv G.1)).map fun v => v.category).sum + 13 ≤ R0.locals) (hk1 : k1 ≤ R0.cells) (hk2 : k2 ≤ R0.slots) (k : GW G p l e R0 s m args below meth c nL z n sh R I J k1 k2 Q (pc + 3) lo (vI (if x < y then y else x) :: st)) : GW G p l e R0 s m args below meth c nL z n sh R I J k1 k2 Q (pc) lo (vI y :: vI x :: st) := by
  intro H locs ls hP hS hz hi hl
  have hts := C.1.2.2.2.2
  refine va_mmax C.1.1 C.1.2.1 (C.1.2.2.1.trans hl.1.symm) C.1.2.2.2.1 (hts _ hw) (hts _ (qMmax _ (by simp))) (hts _ (qMmax _ (by simp))) (hts _ (qMmax _ (by simp))) hfr hlo hk1 hk2 d ?_
  have e : (if Int32.ofInt x < Int32.ofInt y then Int32.ofInt y else Int32.ofInt x) = Int32.ofInt (if x < y then y else x) := by
    by_cases h : x < y
    · rw [if_pos ((oi_lt hx hy).mpr h), if_pos h]
    · rw [if_neg (fun q => h ((oi_lt hx hy).mp q)), if_neg h]
  rw [e]
  exact k H locs ls hP hS hz hi hl
theorem gw_imin (C : gC G p l s m args meth c cc nL own ret nm) {index : Nat} {x y : Int} (d : decode cc pc = .ok (.invokestatic index, 3)) (hw : Cond.methodLink own index Lib.Math.min.name ∈ GA) (hx : inI x) (hy : inI y) (hfr : 1 ≤ R0.frames) (hlo : ((st.map (cv G.1)).map fun v => v.category).sum + 13 ≤ R0.locals) (hk1 : k1 ≤ R0.cells) (hk2 : k2 ≤ R0.slots) (k : GW G p l e R0 s m args below meth c nL z n sh R I J k1 k2 Q (pc + 3) lo (vI (if y < x then y else x) :: st)) : GW G p l e R0 s m args below meth c nL z n sh R I J k1 k2 Q (pc) lo (vI y :: vI x :: st) := by
  intro H locs ls hP hS hz hi hl
  have hts := C.1.2.2.2.2
  refine va_mmin C.1.1 C.1.2.1 (C.1.2.2.1.trans hl.1.symm) C.1.2.2.2.1 (hts _ hw) (hts _ (qMmin _ (by simp))) (hts _ (qMmin _ (by simp))) (hts _ (qMmin _ (by simp))) hfr hlo hk1 hk2 d ?_
  have e : (if Int32.ofInt y < Int32.ofInt x then Int32.ofInt y else Int32.ofInt x) = Int32.ofInt (if y < x then y else x) := by
    by_cases h : y < x
    · rw [if_pos ((oi_lt hy hx).mpr h), if_pos h]
    · rw [if_neg (fun q => h ((oi_lt hy hx).mp q)), if_neg h]
  rw [e]
  exact k H locs ls hP hS hz hi hl
def cpI (I : GI) (a b m : Nat) : GI := fun x y => if x = b then (if y < m then I a y else I b y) else I x y
theorem gIn_cp {I : GI} {a b m : Nat} (h : gIn I) : gIn (cpI I a b m) := fun x y => by
  unfold cpI
  split
  · split
    · exact h a y
    · exact h b y
  · exact h x y
theorem gw_copy (C : gC G p l s m args meth c cc nL own ret nm) {index ra rb la lb u : Nat} (d : decode cc pc = .ok (.invokestatic index, 3)) (hw : Cond.methodLink own index arraycopyName ∈ GA) (hsa : sh ra = .inr (0, la)) (hra : ra < n) (hsb : sh rb = .inr (0, lb)) (hrb : rb < n) (hma : u ≤ la) (hmb : u ≤ lb) (hm : u < 2147483648) (hne : ra ≠ rb) (hfr : 1 ≤ R0.frames) (hlo : ((st.map (cv G.1)).map fun v => v.category).sum + (nativeFrameWords "java/lang/System" "arraycopy" 5 + 11) ≤ R0.locals) (k : ∀ z' : Nat, GW G p l e R0 s m args below meth c nL z' n sh R (cpI I ra rb u) J k1 k2 Q (pc + 3) lo (st)) : GW G p l e R0 s m args below meth c nL z n sh R I J k1 k2 Q (pc) lo (vI (u : Int) :: vI 0 :: vR rb :: vI 0 :: vR ra :: st) := by
  intro H locs ls hP hS hz hi hl
  have hts := C.1.2.2.2.2
  have hea := gW_get (G := G) (sh := sh) (R := R) (I := I) (J := J) hra
  rw [hsa] at hea
  have heb := gW_get (G := G) (sh := sh) (R := R) (I := I) (J := J) hrb
  rw [hsb] at heb
  have im : inI (u : Int) := ⟨by omega, by omega⟩
  have c0 : (Int32.ofInt 0).toNatClampNeg = 0 := by decide
  have cm : (Int32.ofInt (u : Int)).toNatClampNeg = u := by rw [oi_cl im]; omega
  refine va_copyi C.1.1 C.1.2.1 (C.1.2.2.1.trans hl.1.symm) C.1.2.2.2.1 (hts _ hw) (hts _ (qCopy _ (by simp))) (hts _ (qCopy _ (by simp))) (hts _ (qCopy _ (by simp))) C.2.2.2.2.1 hP gW_D hS ra rb 0 0 hea heb rfl rfl rfl (sp := Int32.ofInt 0) (dp := Int32.ofInt 0) (n := Int32.ofInt (u : Int)) (by decide) (by decide) (by rw [← oi_0, oi_lt im in_0]; omega) (by rw [c0, cm]; omega) (by rw [c0, cm]; omega) (fun _ _ => rfl) hfr hlo d fun H1 locs1 hP1 _ hS1 => ?_
  rw [c0, cm, gW_set (R' := R) (I' := cpI I ra rb u) (J' := J) ?_ ?_ ?_ ?_] at hP1
  · have hlt : G.1 + ra < H1.size := (hP1 ra _ (gW_get hra)).lt
    exact k (H1.size - G.1) H1 locs1 ls hP1 hS1 (by omega) (gIn_cp hi) hl
  · rw [hsb]
    show (Sum.inl (_, _, Sum.inl _) : va_E) = Sum.inl (_, _, Sum.inl _)
    congr 4
    funext j
    unfold va_cpy cpI
    by_cases hj : j < u
    · rw [if_pos (by omega), if_pos rfl, if_pos hj]
      show Int32.ofInt (I ra (0 + (j - 0))) = _
      rw [Nat.zero_add, Nat.sub_zero]
    · rw [if_neg (by omega), if_pos rfl, if_neg hj]
  · intro a ha; rfl
  · intro a ha; unfold cpI; funext y; rw [if_neg ha]
  · intro a ha; rfl
def gMem (G : GG) (z n : Nat) (sh : GSh) (R : GR) (I J : GI) (H : Heap) : Prop := va_P G.2.1 vwCl (gW G n sh R I J) H ∧ H.size = G.1 + z ∧ gIn I
def GQ (G : GG) (n : Nat) (sh : GSh) (R : GR) (Qs : Option GV → Nat → GI → GI → Prop) : Array Value → State → Outcome → State → Prop := fun _ st oc t => (∃ (v : Option GV) (z : Nat) (I J : GI), Qs v z I J ∧ oc = .returned (v.map (cv G.1)) ∧ gMem G z n sh R I J t.heap) ∧ va_F (ge G) st t
def GX (G : GG) (n : Nat) (sh : GSh) (R : GR) (Xs : String → Nat → GI → GI → Prop) : String → State → State → Prop := fun E st t => (∃ (z : Nat) (I J : GI), Xs E z I J ∧ gMem G z n sh R I J t.heap) ∧ va_F (ge G) st t
/-- a contract: what the method is given, the memory that it starts on, what it returns on which memory, which exceptions leave it on which memory -/
def GM (l : Launch) (y : MethodName) (cw : Cond) (fr lo9 mc ms : Nat) (G : GG) (n : Nat) (sh : GSh) (R : GR) (as : List GV) (z : Nat) (I J : GI) (Qs : Option GV → Nat → GI → GI → Prop) (Xs : String → Nat → GI → GI → Prop) : Prop :=
  vx_Met l y (cw :: GA) ({ frames := fr, cells := mc, slots := ms, locals := lo9 } : Room) (va_Pc (as.map (cv G.1)) (gRep G z n sh R I J)) (GQ G n sh R Qs) (GX G n sh R Xs) mc ms (ge G)
def gNo : String → Nat → GI → GI → Prop := fun _ _ _ _ => False
theorem gQ_of {G : GG} {s t : State} {z n : Nat} {sh : GSh} {R : GR} {I J : GI} {H : Heap} {locs : List Loc} {Qs : Option GV → Nat → GI → GI → Prop} {args : Array Value} {v : Option GV} (hP : va_P G.2.1 vwCl (gW G n sh R I J) H) (hS : va_S (ge G) s.heap H locs) (hz : H.size = G.1 + z) (hi : gIn I) (hQ : Qs v z I J) (ht : t.heap = H) : GQ G n sh R Qs args s (.returned (v.map (cv G.1))) t :=
  ⟨⟨v, z, I, J, hQ, rfl, by rw [ht]; exact hP, by rw [ht]; exact hz, hi⟩, hS.F ht⟩
theorem gw_iret (C : gC G p l s m args meth c cc nL own (some .int) nm) {x : Int} {Qs : Option GV → Nat → GI → GI → Prop} {Xs : String → Nat → GI → GI → Prop} {mc ms : Nat} (hk1 : k1 ≤ mc) (hk2 : k2 ≤ ms) (d : decode cc pc = .ok (.ireturn, 1)) (hQ : Qs (some (vI x)) z I J) : GW G p l e R0 s m args below meth c nL z n sh R I J k1 k2 (vx_MQ below (GQ G n sh R Qs) (GX G n sh R Xs) args s mc ms (ge G)) (pc) lo ([vI x]) := by
  intro H locs ls hP hS hz hi hl
  refine W.widen hk1 hk2 (vx_ret ?_)
  exact W.iret C.1.1 C.1.2.1 C.2.1 (fun t ht _ => gQ_of (v := some (vI x)) hP hS hz hi hQ ht) hS.2.2 d C.2.2.1
theorem gw_zret (C : gC G p l s m args meth c cc nL own (some .boolean) nm) {x : Int} {Qs : Option GV → Nat → GI → GI → Prop} {Xs : String → Nat → GI → GI → Prop} {mc ms : Nat} (hk1 : k1 ≤ mc) (hk2 : k2 ≤ ms) (d : decode cc pc = .ok (.ireturn, 1)) (hx : x = 0 ∨ x = 1) (hQ : Qs (some (vI x)) z I J) : GW G p l e R0 s m args below meth c nL z n sh R I J k1 k2 (vx_MQ below (GQ G n sh R Qs) (GX G n sh R Xs) args s mc ms (ge G)) (pc) lo ([vI x]) := by
  intro H locs ls hP hS hz hi hl
  refine W.widen hk1 hk2 (vx_ret ?_)
  exact W.zret C.1.1 C.1.2.1 C.2.1 (by rcases hx with rfl | rfl <;> rfl) (fun t ht _ => gQ_of (v := some (vI x)) hP hS hz hi hQ ht) hS.2.2 d C.2.2.1
theorem gw_lret (C : gC G p l s m args meth c cc nL own (some .long) nm) {x : Int} {Qs : Option GV → Nat → GI → GI → Prop} {Xs : String → Nat → GI → GI → Prop} {mc ms : Nat} (hk1 : k1 ≤ mc) (hk2 : k2 ≤ ms) (d : decode cc pc = .ok (.lreturn, 1)) (hQ : Qs (some (vL x)) z I J) : GW G p l e R0 s m args below meth c nL z n sh R I J k1 k2 (vx_MQ below (GQ G n sh R Qs) (GX G n sh R Xs) args s mc ms (ge G)) (pc) lo ([vL x]) := by
  intro H locs ls hP hS hz hi hl
  refine W.widen hk1 hk2 (vx_ret ?_)
  exact W.lret C.1.1 C.1.2.1 C.2.1 (fun t ht _ => gQ_of (v := some (vL x)) hP hS hz hi hQ ht) hS.2.2 d C.2.2.1
theorem gw_vret (C : gC G p l s m args meth c cc nL own none nm) {Qs : Option GV → Nat → GI → GI → Prop} {Xs : String → Nat → GI → GI → Prop} {mc ms : Nat} (hk1 : k1 ≤ mc) (hk2 : k2 ≤ ms) (d : decode cc pc = .ok (.return_, 1)) (hQ : Qs (none) z I J) : GW G p l e R0 s m args below meth c nL z n sh R I J k1 k2 (vx_MQ below (GQ G n sh R Qs) (GX G n sh R Xs) args s mc ms (ge G)) (pc) lo ([]) := by
  intro H locs ls hP hS hz hi hl
  refine W.widen hk1 hk2 (vx_ret ?_)
  exact W.vret C.1.1 C.1.2.1 C.2.1 (fun t ht _ => gQ_of (v := none) hP hS hz hi hQ ht) hS.2.2 d C.2.2.1
theorem gw_aret (C : gC G p l s m args meth c cc nL own (some (.object Cn)) nm) {r : Option Nat} {Qs : Option GV → Nat → GI → GI → Prop} {Xs : String → Nat → GI → GI → Prop} {mc ms : Nat} (hk1 : k1 ≤ mc) (hk2 : k2 ≤ ms) (d : decode cc pc = .ok (.areturn, 1)) (hQ : Qs (some (vO r)) z I J) : GW G p l e R0 s m args below meth c nL z n sh R I J k1 k2 (vx_MQ below (GQ G n sh R Qs) (GX G n sh R Xs) args s mc ms (ge G)) (pc) lo ([vO r]) := by
  intro H locs ls hP hS hz hi hl
  refine W.widen hk1 hk2 (vx_ret ?_)
  exact W.aret C.1.1 C.1.2.1 C.2.1 (Or.inl ⟨_, rfl⟩) (by cases r with | none => exact Or.inl rfl | some q => exact Or.inr ⟨_, rfl⟩) (fun t ht _ => gQ_of (v := some (vO r)) hP hS hz hi hQ ht) hS.2.2 d C.2.2.1
def gArgs : List GV → List (Option GV)
  | [] => []
  | v :: vs => if gLong (some (some v)) then some v :: none :: gArgs vs else some v :: gArgs vs
def gEntry (nL : Nat) (as : List GV) : List (Option GV) := gArgs as ++ List.replicate (nL - (gArgs as).length) none
theorem gArgs_in (b : Nat) : ∀ (as : List GV) (o i : Nat) (v : GV), (gArgs as)[i]? = some (some v) → (o + i, cv b v) ∈ lv_args o (as.map (cv b)) := by
  intro as
  induction as with
  | nil => intro o i v h; simp [gArgs] at h
  | cons a as ih =>
    intro o i v h
    have hc := cv_cat b a
    unfold gArgs at h
    show _ ∈ (o, cv b a) :: lv_args (if (cv b a).category = 2 then o + 2 else o + 1) (as.map (cv b))
    by_cases hl : gLong (some (some a)) = true
    · rw [if_pos hl] at h hc
      rw [if_pos hc]
      match i, h with
      | 0, h => cases h; exact List.mem_cons_self
      | 1, h => cases h
      | i + 2, h =>
        have := ih (o + 2) i v h
        rw [show o + 2 + i = o + (i + 2) by omega] at this
        exact List.mem_cons_of_mem _ this
    · rw [if_neg hl] at h hc
      rw [if_neg (by omega)]
      match i, h with
      | 0, h => cases h; exact List.mem_cons_self
      | i + 1, h =>
        have := ih (o + 1) i v h
        rw [show o + 1 + i = o + (i + 1) by omega] at this
        exact List.mem_cons_of_mem _ this
theorem gEntry_L {G : GG} {nL : Nat} {as : List GV} {ls : Array Slot} (h : lv_has ls nL (lv_args 0 (as.map (cv G.1)))) : gL G ls nL (gEntry nL as) := by
  refine ⟨h.1, h.2.1, fun i v hi => ?_⟩
  unfold gEntry at hi
  by_cases hlt : i < (gArgs as).length
  · rw [List.getElem?_append_left hlt] at hi
    have := gArgs_in G.1 as 0 i v hi
    rw [Nat.zero_add] at this
    exact h.2.2 _ this
  · rw [List.getElem?_append_right (by omega), List.getElem?_replicate] at hi
    split at hi <;> cases hi
theorem gRep_blind {G : GG} {z n : Nat} {sh : GSh} {R : GR} {I J : GI} {av : List Value} : FrameBlind (va_Pc av (gRep G z n sh R I J)) := fun a U g mk h => by
  obtain ⟨h0, h1, h2, h3, h4, h5⟩ := h
  exact ⟨h0, h1, va_K.moved (u := U) (U := U.calling g mk a) (Vm.Alike.refl U.vm) h2, h3, h4, gRO.at h5 (State.WarmedH.refl U) (fun _ _ _ => rfl)⟩
theorem gm_of {l : Launch} {y : MethodName} {cc : ByteArray} {nL : Nat} {ret : Option FieldType} {fr lo9 mc ms : Nat} {G : GG} {n : Nat} {sh : GSh} {R : GR} {as : List GV} {z : Nat} {I J : GI} {Qs : Option GV → Nat → GI → GI → Prop} {Xs : String → Nat → GI → GI → Prop} {lo0 : List (Option GV)} (hl0 : l.stackTraces = false) (hy : plainName y.cls = true) (hlo : gEntry nL as = lo0) (hsz : (lg_sl (as.map (cv G.1))).length ≤ nL)
    (body : ∀ (p : Program) (e : Env) (s : State) (m : MethodId) (args : Array Value) (below : List Frame) (meth : Method) (c : Code), gC G p l s m args meth c cc nL y.cls ret y.name → (∀ x ∈ c.exceptionTable.toList, False) → gIn I → GW G p l e ({ frames := fr, cells := mc, slots := ms, locals := lo9 } : Room) s m args below meth c nL z n sh R I J 0 0 (vx_MQ below (GQ G n sh R Qs) (GX G n sh R Xs) args s mc ms (ge G)) 0 lo0 []) : GM l y (.code y cc nL ret) fr lo9 mc ms G n sh R as z I J Qs Xs := by
  refine vx_ofW (cc := cc) (maxL := nL) (ret := ret) hy rfl ?_
  intro p e s m args below meth c s₁ B hml ht hv
  obtain ⟨rfl, hP, hK, hz, hi, hRO⟩ := hv
  have hts := atoms_spec B.pre
  have hown := findClass_of_methodNamed B.named
  have C : gC G p l s m (as.map (cv G.1)).toArray meth c cc nL y.cls ret y.name := ⟨⟨B.exec, B.bytes, hml, hown, fun w hw => hts w (List.mem_cons_of_mem _ hw)⟩, B.returns, B.notSynchronized, hl0, hK, hRO, (name_of_methodNamed B.named B.method).1⟩
  have hl := lv_entry (as.map (cv G.1)) (n := nL) hsz
  rw [lg_entry_eq]
  generalize (lg_sl (as.map (cv G.1)) ++ List.replicate (nL - (lg_sl (as.map (cv G.1))).length) Slot.unset).toArray = ls at hl ⊢
  have hg := gEntry_L hl
  rw [hlo] at hg
  exact body p e s m _ below meth c C ht hi s.heap [] ls hP va_S.rf hz hi hg
theorem gm_ofH {l : Launch} {y : MethodName} {cc : ByteArray} {nL : Nat} {ret : Option FieldType} {hh : List (Nat × Nat × Nat × Nat)} {fr lo9 mc ms : Nat} {G : GG} {n : Nat} {sh : GSh} {R : GR} {as : List GV} {z : Nat} {I J : GI} {Qs : Option GV → Nat → GI → GI → Prop} {Xs : String → Nat → GI → GI → Prop} {lo0 : List (Option GV)} (hl0 : l.stackTraces = false) (hy : plainName y.cls = true) (hlo : gEntry nL as = lo0) (hsz : (lg_sl (as.map (cv G.1))).length ≤ nL)
    (body : ∀ (p : Program) (e : Env) (s : State) (m : MethodId) (args : Array Value) (below : List Frame) (meth : Method) (c : Code), gC G p l s m args meth c cc nL y.cls ret y.name → c.exceptionTable.toList = tableOf hh → gIn I → GW G p l e ({ frames := fr, cells := mc, slots := ms, locals := lo9 } : Room) s m args below meth c nL z n sh R I J 0 0 (vx_MQ below (GQ G n sh R Qs) (GX G n sh R Xs) args s mc ms (ge G)) 0 lo0 []) : GM l y (.codeWith y cc nL ret hh) fr lo9 mc ms G n sh R as z I J Qs Xs := by
  refine vx_ofWH (cc := cc) (maxL := nL) (ret := ret) (hh := hh) hy rfl ?_
  intro p e s m args below meth c s₁ B hml hv
  obtain ⟨rfl, hP, hK, hz, hi, hRO⟩ := hv
  have hts := atoms_spec B.pre
  have hown := findClass_of_methodNamed B.named
  have ht := vx_table (x := y) B (hts _ List.mem_cons_self)
  have C : gC G p l s m (as.map (cv G.1)).toArray meth c cc nL y.cls ret y.name := ⟨⟨B.exec, B.bytes, hml, hown, fun w hw => hts w (List.mem_cons_of_mem _ hw)⟩, B.returns, B.notSynchronized, hl0, hK, hRO, (name_of_methodNamed B.named B.method).1⟩
  have hl := lv_entry (as.map (cv G.1)) (n := nL) hsz
  rw [lg_entry_eq]
  generalize (lg_sl (as.map (cv G.1)) ++ List.replicate (nL - (lg_sl (as.map (cv G.1))).length) Slot.unset).toArray = ls at hl ⊢
  have hg := gEntry_L hl
  rw [hlo] at hg
  exact body p e s m _ below meth c C ht hi s.heap [] ls hP va_S.rf hz hi hg
def GWX (E : String) (G : GG) (p : Program) (l : Launch) (e : Env) (R0 : Room) (s : State) (m : MethodId) (args : Array Value) (below : List Frame) (meth : Method) (c : Code) (nL : Nat) (z n : Nat) (sh : GSh) (R : GR) (I J : GI) (k1 k2 : Nat) (Q : State → Prop) (pc : Nat) (lo : List (Option GV)) (st : List GV) : Prop :=
  ∀ (H : Heap) (locs : List Loc) (ls : Array Slot) (q9 : Addr) (ce : Cell), va_P G.2.1 vwCl (gW G n sh R I J) H → va_S (ge G) s.heap H locs → H.size = G.1 + z → gIn I → gL G ls nL lo → H[q9]? = some ce → ce.vm = .none → s.vm.findClass E = some ce.cls → vx_W p l e R0 s m args below meth c H locs k1 k2 Q (F0 m pc ls (st.map (cv G.1))) q9
theorem gwx_out (C : gC G p l s m args meth c cc nL own ret nm) {Qs : Option GV → Nat → GI → GI → Prop} {Xs : String → Nat → GI → GI → Prop} {mc ms : Nat} {E : String} (ht : ∀ x ∈ c.exceptionTable.toList, False) (hk1 : k1 ≤ mc) (hk2 : k2 ≤ ms) (hX : Xs E z I J) : GWX E G p l e R0 s m args below meth c nL z n sh R I J k1 k2 (vx_MQ below (GQ G n sh R Qs) (GX G n sh R Xs) args s mc ms (ge G)) (pc) lo (st) := by
  intro H locs ls q9 ce hP hS hz hi hl hce hcv hcl
  refine vx_out (fun x hx => (ht x hx).elim) C.2.2.1 hce hcv hcl (fun t ht2 _ => ⟨⟨z, I, J, hX, by rw [ht2]; exact hP, by rw [ht2]; exact hz, hi⟩, hS.F ht2⟩) hS.2.2 hk1 hk2
theorem gwx_catch (C : gC G p l s m args meth c cc nL own ret nm) {E name : String} (pre : List ExceptionTableEntry) (x : ExceptionTableEntry) (suf : List ExceptionTableEntry) (hsplit : c.exceptionTable.toList = pre ++ x :: suf) (hpass : ∀ y ∈ pre, covers y pc = false ∨ (y.catchType ≠ 0 ∧ ∃ nm : String, Cond.classLink own y.catchType nm ∈ GA ∧ (E, nm) ∈ gNCast)) (hx : covers x pc = true) (h0 : x.catchType ≠ 0) (hlink : Cond.classLink own x.catchType name ∈ GA) (hcast : (E, name) ∈ gCast) (k : ∀ q9 : Addr, GW G p l e R0 s m args below meth c nL z n sh R I J k1 k2 Q (x.handlerPc) lo ([vA q9])) : GWX E G p l e R0 s m args below meth c nL z n sh R I J k1 k2 Q (pc) lo (st) := by
  intro H locs ls q9 ce hP hS hz hi hl hce hcv hcl
  have hts := C.1.2.2.2.2
  have hRO := C.2.2.2.2.2.1
  exact vx_catch C.1.2.2.2.1 pre x suf hsplit (fun y hy => (hpass y hy).elim Or.inl (fun ⟨a, nm, b1, b2⟩ => Or.inr ⟨a, nm, hts _ b1, hRO.2.2.2.2.2.2.2.1 (E, nm) b2⟩)) hx h0 (hts _ hlink) (va_Nw.use rfl (hRO.2.2.2.2.2.2.1 (E, name) hcast)) hce hcv hcl (k q9 H locs ls hP hS hz hi hl)
theorem gP_of (C : gC G p l s m args meth c cc nL own ret nm) {H : Heap} {locs : List Loc} (hP : va_P G.2.1 vwCl (gW G n sh R I J) H) (hS : va_S (ge G) s.heap H locs) (hz : H.size = G.1 + z) (hi : gIn I) {U : State} (hU : U.heap = H) (hW : s.WarmedH U.vm) : gRep G z n sh R I J U :=
  ⟨by rw [hU]; exact hP, va_K.moved hW.alike C.2.2.2.2.1, by rw [hU]; exact hz, hi, gRO.at C.2.2.2.2.2.1 hW (fun a h1 h2 => by rw [hU]; exact hS.2.1 a h1 h2)⟩
theorem gw_run (C : gC G p l s m args meth c cc nL own ret nm) {mc ms : Nat} {Qs : Option GV → Nat → GI → GI → Prop} {Xs : String → Nat → GI → GI → Prop} {st0 : List GV} {aV : Array Value} (hr : ∀ (H : Heap) (locs : List Loc) (ls : Array Slot), va_P G.2.1 vwCl (gW G n sh R I J) H → va_S (ge G) s.heap H locs → H.size = G.1 + z → gIn I → ls.size = nL → vx_Run p l e R0 s m args below meth c H locs k1 k2 mc ms (F0 m pc ls (st0.map (cv G.1))) (st.map (cv G.1)) (GQ G n sh R Qs aV) (GX G n sh R Xs) (ge G)) (kx : ∀ (E : String) (z' : Nat) (I' J' : GI), Xs E z' I' J' → GWX E G p l e R0 s m args below meth c nL z' n sh R I' J' (k1 + mc) (k2 + ms) Q (pc) lo (st)) (kk : ∀ (v : Option GV) (z' : Nat) (I' J' : GI), Qs v z' I' J' → GW G p l e R0 s m args below meth c nL z' n sh R I' J' (k1 + mc) (k2 + ms) Q (pc + 3) lo (v.toList ++ st)) : GW G p l e R0 s m args below meth c nL z n sh R I J k1 k2 Q (pc) lo (st0) := by
  intro H locs ls hP hS hz hi hl T hT X
  rcases hr H locs ls hP hS hz hi hl.1 T hT X with ⟨v, st₀, t, T', L, h0, X', hL, e1, e2, ⟨⟨v', z', I', J', hQ, hv, hM1, hM2, hM3⟩, hF⟩, stp⟩ | ⟨q, st₀, t, T', L, E, ce, h0, X', hL, e1, e2, ⟨⟨z', I', J', hQ, hM1, hM2, hM3⟩, hF⟩, hce, hcv, hcl, stp⟩
  · cases hv
    obtain ⟨a1, a2, a3⟩ := vx_keep h0 e1 hS (fun _ _ h => h) (fun _ h => h) hL hF
    rw [← e1] at hM1 hM2
    obtain ⟨t2, b1, b2⟩ := kk v' z' I' J' hQ T'.heap (locs ++ L) ls hM1 a3 hM2 hM3 hl T' rfl X'
    refine ⟨t2, stp t2 ?_, b2⟩
    have e : (v'.map (cv G.1)).toList ++ st.map (cv G.1) = (v'.toList ++ st).map (cv G.1) := by cases v' <;> rfl
    rw [e]
    exact b1
  · obtain ⟨a1, a2, a3⟩ := vx_keep h0 e1 hS (fun _ _ h => h) (fun _ h => h) hL hF
    rw [← e1] at hM1 hM2 hce
    obtain ⟨t2, b1, b2⟩ := kx E z' I' J' hQ T'.heap (locs ++ L) ls q ce hM1 a3 hM2 hM3 hl hce hcv hcl T' rfl X'
    exact ⟨t2, stp.trans b1, b2⟩
theorem gw_callV (C : gC G p l s m args meth c cc nL own ret nm) {as : List GV} {index fr lo9 mc ms : Nat} {y : MethodName} {bytes : ByteArray} {maxL : Nat} {ret9 : Option FieldType} {Qs : Option GV → Nat → GI → GI → Prop} {Xs : String → Nat → GI → GI → Prop} {st0 : List GV} {b ci N : Nat} {T0 : u_T} (hM : GM l y (.code y bytes maxL ret9) fr lo9 mc ms G n sh R (vR b :: as) z I J Qs Xs) (d : decode cc pc = .ok (.invokevirtual index, 3)) (hw : Cond.methodLink own index y ∈ GA) (hq : ∀ w ∈ [Cond.code y bytes maxL ret9, Cond.initialized y.cls, Cond.instanceMethod y, Cond.selects y.cls y y], w ∈ GA) (hd : y.cls ≠ "java/lang/invoke/MethodHandle" ∧ y.cls ≠ "java/lang/invoke/VarHandle" ∧ (parseMethodDescriptor y.desc).map (fun d => d.parameters.length) = some as.length) (hR : fr + 1 ≤ R0.frames ∧ 8 + (maxL + 11) + lo9 ≤ R0.locals) (hk : k1 + mc ≤ R0.cells ∧ k2 + ms ≤ R0.slots) (hst : ((st.map (cv G.1)).map fun v => v.category).sum ≤ 8) (hc : vwCl[ci]? = some (y.cls, T0, N)) (hs : sh b = .inl ci) (hb : b < n) (hst0 : st0 = as.reverse ++ vR b :: st) (kx : ∀ (E : String) (z' : Nat) (I' J' : GI), Xs E z' I' J' → GWX E G p l e R0 s m args below meth c nL z' n sh R I' J' (k1 + mc) (k2 + ms) Q (pc) lo (st)) (kk : ∀ (v : Option GV) (z' : Nat) (I' J' : GI), Qs v z' I' J' → GW G p l e R0 s m args below meth c nL z' n sh R I' J' (k1 + mc) (k2 + ms) Q (pc + 3) lo (v.toList ++ st)) : GW G p l e R0 s m args below meth c nL z n sh R I J k1 k2 Q (pc) lo (st0) := by
  subst hst0
  have hts := C.1.2.2.2.2
  have hG : GoodIn GA (.code y bytes maxL ret9 :: GA) := fun w h => by
    have h1 : w ∈ GA := (List.mem_cons.mp h).elim (fun e => by rw [e]; exact hq _ (by simp)) id
    exact ⟨h1, good_of_word (List.mem_filter.mp h1).2⟩
  refine gw_run C (aV := ((Value.ref (G.1 + b)) :: as.map (cv G.1)).toArray) (fun H locs ls hP hS hz hi hsz => ?_) kx kk
  have he := gW_get (G := G) (sh := sh) (R := R) (I := I) (J := J) hb
  rw [hs] at he
  exact vx_runV (As := as.map (cv G.1)) (rest := st.map (cv G.1)) (b := G.1 + b) ⟨C.1.1, C.1.2.1, C.1.2.2.1, C.1.2.2.2.1, hts⟩ hM ⟨callB_of as.length hts hG rfl rfl rfl (hts _ (hq _ (by simp))) (hts _ hw) hd hR, hts _ (hq _ (by simp)), hts _ (hq _ (by simp))⟩ ⟨gRep_blind, va_recv C.2.2.2.2.1 hP hc he, fun U hU hW => ⟨rfl, gP_of C hP hS hz hi hU hW⟩⟩ rfl (by rw [List.length_map]) hsz (by rw [List.map_append, List.map_reverse]; rfl) (lv_room hst) d hk
theorem gw_callS (C : gC G p l s m args meth c cc nL own ret nm) {as : List GV} {index fr lo9 mc ms : Nat} {y : MethodName} {bytes : ByteArray} {maxL : Nat} {ret9 : Option FieldType} {Qs : Option GV → Nat → GI → GI → Prop} {Xs : String → Nat → GI → GI → Prop} {st0 : List GV} (hM : GM l y (.code y bytes maxL ret9) fr lo9 mc ms G n sh R as z I J Qs Xs) (d : decode cc pc = .ok (.invokestatic index, 3)) (hw : Cond.methodLink own index y ∈ GA) (hq : ∀ w ∈ [Cond.code y bytes maxL ret9, Cond.initialized y.cls, Cond.static y], w ∈ GA) (hd : y.cls ≠ "java/lang/invoke/MethodHandle" ∧ y.cls ≠ "java/lang/invoke/VarHandle" ∧ (parseMethodDescriptor y.desc).map (fun d => d.parameters.length) = some as.length) (hR : fr + 1 ≤ R0.frames ∧ 8 + (maxL + 11) + lo9 ≤ R0.locals) (hk : k1 + mc ≤ R0.cells ∧ k2 + ms ≤ R0.slots) (hst : ((st.map (cv G.1)).map fun v => v.category).sum ≤ 8) (hst0 : st0 = as.reverse ++ st) (kx : ∀ (E : String) (z' : Nat) (I' J' : GI), Xs E z' I' J' → GWX E G p l e R0 s m args below meth c nL z' n sh R I' J' (k1 + mc) (k2 + ms) Q (pc) lo (st)) (kk : ∀ (v : Option GV) (z' : Nat) (I' J' : GI), Qs v z' I' J' → GW G p l e R0 s m args below meth c nL z' n sh R I' J' (k1 + mc) (k2 + ms) Q (pc + 3) lo (v.toList ++ st)) : GW G p l e R0 s m args below meth c nL z n sh R I J k1 k2 Q (pc) lo (st0) := by
  subst hst0
  have hts := C.1.2.2.2.2
  have hG : GoodIn GA (.code y bytes maxL ret9 :: GA) := fun w h => by
    have h1 : w ∈ GA := (List.mem_cons.mp h).elim (fun e => by rw [e]; exact hq _ (by simp)) id
    exact ⟨h1, good_of_word (List.mem_filter.mp h1).2⟩
  refine gw_run C (aV := (as.map (cv G.1)).toArray) (fun H locs ls hP hS hz hi hsz => ?_) kx kk
  exact vx_runS (As := as.map (cv G.1)) (rest := st.map (cv G.1)) ⟨C.1.1, C.1.2.1, C.1.2.2.1, C.1.2.2.2.1, hts⟩ hM ⟨callB_of as.length hts hG rfl rfl rfl (hts _ (hq _ (by simp))) (hts _ hw) hd hR, hts _ (hq _ (by simp))⟩ ⟨gRep_blind, fun U hU hW => ⟨rfl, gP_of C hP hS hz hi hU hW⟩⟩ rfl (by rw [List.length_map]) hsz (by rw [List.map_append, List.map_reverse]) (lv_room hst) d hk
theorem gw_callSH (C : gC G p l s m args meth c cc nL own ret nm) {as : List GV} {index fr lo9 mc ms : Nat} {y : MethodName} {bytes : ByteArray} {maxL : Nat} {ret9 : Option FieldType} {Qs : Option GV → Nat → GI → GI → Prop} {Xs : String → Nat → GI → GI → Prop} {st0 : List GV} {hh : List (Nat × Nat × Nat × Nat)} (hM : GM l y (.codeWith y bytes maxL ret9 hh) fr lo9 mc ms G n sh R as z I J Qs Xs) (d : decode cc pc = .ok (.invokestatic index, 3)) (hw : Cond.methodLink own index y ∈ GA) (hq : ∀ w ∈ [Cond.codeWith y bytes maxL ret9 hh, Cond.initialized y.cls, Cond.static y], w ∈ GA) (hd : y.cls ≠ "java/lang/invoke/MethodHandle" ∧ y.cls ≠ "java/lang/invoke/VarHandle" ∧ (parseMethodDescriptor y.desc).map (fun d => d.parameters.length) = some as.length) (hR : fr + 1 ≤ R0.frames ∧ 8 + (maxL + 11) + lo9 ≤ R0.locals) (hk : k1 + mc ≤ R0.cells ∧ k2 + ms ≤ R0.slots) (hst : ((st.map (cv G.1)).map fun v => v.category).sum ≤ 8) (hst0 : st0 = as.reverse ++ st) (kx : ∀ (E : String) (z' : Nat) (I' J' : GI), Xs E z' I' J' → GWX E G p l e R0 s m args below meth c nL z' n sh R I' J' (k1 + mc) (k2 + ms) Q (pc) lo (st)) (kk : ∀ (v : Option GV) (z' : Nat) (I' J' : GI), Qs v z' I' J' → GW G p l e R0 s m args below meth c nL z' n sh R I' J' (k1 + mc) (k2 + ms) Q (pc + 3) lo (v.toList ++ st)) : GW G p l e R0 s m args below meth c nL z n sh R I J k1 k2 Q (pc) lo (st0) := by
  subst hst0
  have hts := C.1.2.2.2.2
  have hG : GoodIn GA (va_wsS own index y (.codeWith y bytes maxL ret9 hh :: GA)) := fun w h => by
    have h1 : w ∈ GA := by
      unfold va_wsS at h
      simp only [List.cons_append, List.nil_append, List.mem_cons] at h
      rcases h with rfl | rfl | rfl | rfl | h
      · exact hw
      · exact hq _ (by simp)
      · exact hq _ (by simp)
      · exact hq _ (by simp)
      · exact h
    exact ⟨h1, good_of_word (List.mem_filter.mp h1).2⟩
  refine gw_run C (aV := (as.map (cv G.1)).toArray) (fun H locs ls hP hS hz hi hsz => ?_) kx kk
  exact vx_runSX (As := as.map (cv G.1)) (rest := st.map (cv G.1)) ⟨C.1.1, C.1.2.1, C.1.2.2.1, C.1.2.2.2.1, hts⟩ hM (vx_cwSW as.length hts hG rfl rfl rfl hd hR) ⟨gRep_blind, fun U hU hW => ⟨rfl, gP_of C hP hS hz hi hU hW⟩⟩ rfl (by rw [List.length_map]) hsz (by rw [List.map_append, List.map_reverse]) (lv_room hst) d hk
theorem gw_callSN (C : gC G p l s m args meth c cc nL own ret nm) {as : List GV} {index fr lo9 mc ms : Nat} {y : MethodName} {bytes : ByteArray} {maxL : Nat} {ret9 : Option FieldType} {Qs : Option GV → Nat → GI → GI → Prop} {Xs : String → Nat → GI → GI → Prop} {st0 : List GV} {host : String} (hM : GM l y (.code y bytes maxL ret9) fr lo9 mc ms G n sh R as z I J Qs Xs) (d : decode cc pc = .ok (.invokestatic index, 3)) (hw : (own, index, y, host) ∈ gNM) (hq : ∀ w ∈ [Cond.code y bytes maxL ret9, Cond.initialized y.cls, Cond.static y], w ∈ GA) (hd : y.cls ≠ "java/lang/invoke/MethodHandle" ∧ y.cls ≠ "java/lang/invoke/VarHandle" ∧ (parseMethodDescriptor y.desc).map (fun d => d.parameters.length) = some as.length) (hR : fr + 1 ≤ R0.frames ∧ 8 + (maxL + 11) + lo9 ≤ R0.locals) (hk : k1 + mc ≤ R0.cells ∧ k2 + ms ≤ R0.slots) (hst : ((st.map (cv G.1)).map fun v => v.category).sum ≤ 8) (hst0 : st0 = as.reverse ++ st) (kx : ∀ (E : String) (z' : Nat) (I' J' : GI), Xs E z' I' J' → GWX E G p l e R0 s m args below meth c nL z' n sh R I' J' (k1 + mc) (k2 + ms) Q (pc) lo (st)) (kk : ∀ (v : Option GV) (z' : Nat) (I' J' : GI), Qs v z' I' J' → GW G p l e R0 s m args below meth c nL z' n sh R I' J' (k1 + mc) (k2 + ms) Q (pc + 3) lo (v.toList ++ st)) : GW G p l e R0 s m args below meth c nL z n sh R I J k1 k2 Q (pc) lo (st0) := by
  subst hst0
  have hts := C.1.2.2.2.2
  have hG : GoodIn GA (.code y bytes maxL ret9 :: GA) := fun w h => by
    have h1 : w ∈ GA := (List.mem_cons.mp h).elim (fun e => by rw [e]; exact hq _ (by simp)) id
    exact ⟨h1, good_of_word (List.mem_filter.mp h1).2⟩
  refine gw_run C (aV := (as.map (cv G.1)).toArray) (fun H locs ls hP hS hz hi hsz => ?_) kx kk
  have hn := C.2.2.2.2.2.1.2.2.2.2.1 _ hw
  exact vx_runSN (host := host) (As := as.map (cv G.1)) (rest := st.map (cv G.1)) ⟨C.1.1, C.1.2.1, C.1.2.2.1, C.1.2.2.2.1, hts⟩ hM ⟨va_cnB as.length hts hG rfl rfl rfl hn (hts _ (hq _ (by simp))) hd hR, hts _ (hq _ (by simp)), trivial⟩ ⟨gRep_blind, fun U hU hW => ⟨rfl, gP_of C hP hS hz hi hU hW⟩⟩ rfl (by rw [List.length_map]) hsz (by rw [List.map_append, List.map_reverse]) (lv_room hst) d hk
def gEx : List String := ["java/lang/RuntimeException", "java/lang/Exception"]
theorem gw_throw (C : gC G p l s m args meth c cc nL own ret nm) {Qs : Option GV → Nat → GI → GI → Prop} {Xs : String → Nat → GI → GI → Prop} {mc ms : Nat} {cls text : String} {ik is ic : Nat} (ht : ∀ x ∈ c.exceptionTable.toList, False) (hcls : Bundle.fit cls = true) (hnames : ∀ n ∈ gEx, Bundle.fit n = true) (hk : Cond.classLink own ik cls ∈ GA) (hini : Cond.initialized cls ∈ GA) (hstr : (own, is, text) ∈ gStr) (hat1 : ∀ w ∈ (vx_atS own ic cls gEx).filter goodWord, w ∈ GA) (hat2 : ∀ w ∈ (vx_atS own ic cls gEx).filter (fun w => !goodWord w), w ∈ Cond.castable cls cls :: gDecl.map Cond.declares) (hca : (cls, cls) ∈ gCast) (hgood : ∀ w ∈ Cond.classLink own ik cls :: Cond.initialized cls :: vx_atS own ic cls gEx, vx_ot w = true)
    (d0 : decode cc pc = .ok (.new ik, 3)) (d3 : decode cc (pc + 3) = .ok (.dup, 1)) (d4 : decode cc (pc + 4) = .ok (.ldc is, 2)) (d6 : decode cc (pc + 6) = .ok (.invokespecial ic, 3)) (d9 : decode cc (pc + 9) = .ok (.athrow, 1))
    (hfr : 5 < R0.frames) (hlo : ((st.map (cv G.1)).map fun v => v.category).sum + 82 ≤ R0.locals) (hc1 : k1 + 1 ≤ R0.cells) (hc2 : k2 + 6 ≤ R0.slots) (hm1 : k1 + 1 ≤ mc) (hm2 : k2 + 6 ≤ ms) (hX : ∀ z' : Nat, Xs cls z' I J) : GW G p l e R0 s m args below meth c nL z n sh R I J k1 k2 (vx_MQ below (GQ G n sh R Qs) (GX G n sh R Xs) args s mc ms (ge G)) (pc) lo (st) := by
  intro H locs ls hP hS hz hi hl
  have hts := C.1.2.2.2.2
  have hRO := C.2.2.2.2.2.1
  obtain ⟨sa, hsa⟩ := hRO.2.2.2.1 _ hstr
  refine vx_throwS C.1.1 C.1.2.1 C.2.2.2.1 C.1.2.2.2.1 hcls hnames (hts _ hk) (hts _ hini) hsa (vx_hat (B := Cond.castable cls cls :: gDecl.map Cond.declares) (fun w h => hts _ (hat1 w h)) hat2 (fun w h => by
    rcases List.mem_cons.mp h with rfl | h
    · exact va_Nw.use rfl (hRO.2.2.2.2.2.2.1 _ hca)
    · obtain ⟨q, hq, rfl⟩ := List.mem_map.mp h
      exact va_Nw.use rfl (hRO.2.2.2.2.2.2.2.2.2 _ hq))) hgood hRO.1.1 hRO.1.2 hS (hl.1.trans C.1.2.2.1.symm) d0 d3 d4 d6 d9 (fun x hx => (ht x hx).elim) hfr hlo hc1 hc2 C.2.2.1 (fun t hv h1 h2 => ?_) hS.2.2 hm1 hm2
  refine ⟨⟨t.heap.size - G.1, I, J, hX _, hP.kept (fun k q hq => h2 _ (hP k q hq).lt), by omega, hi⟩, Nat.le_trans hS.1 h1, fun q h3 h4 => ?_⟩
  rw [h2 q (Nat.lt_of_lt_of_le h3 hS.1)]
  exact hS.2.1 q h3 h4
def gFr (n : Nat) (R : GR) (I J : GI) : Prop := ∀ k, n ≤ k → ∀ j, R k j = none ∧ I k j = 0 ∧ J k j = 0
theorem gFr.mono {n n' : Nat} {R : GR} {I J : GI} (h : gFr n R I J) (hn : n ≤ n') : gFr n' R I J := fun k hk j => h k (Nat.le_trans hn hk) j
theorem gFr.upI {n r j : Nat} {x : Int} {R : GR} {I J : GI} (h : gFr n R I J) (hr : r < n) : gFr n R (up I r j x) J := fun k hk i => by
  obtain ⟨a, b, c⟩ := h k hk i
  exact ⟨a, by rw [up_ne (by omega)]; exact b, c⟩
theorem gFr.upR {n r j : Nat} {x : Option Nat} {R : GR} {I J : GI} (h : gFr n R I J) (hr : r < n) : gFr n (upR R r j x) I J := fun k hk i => by
  obtain ⟨a, b, c⟩ := h k hk i
  exact ⟨by rw [upR_ne (by omega)]; exact a, b, c⟩
theorem gW_push {G : GG} {n : Nat} {sh : GSh} {R : GR} {I J : GI} {x : Nat ⊕ (Nat × Nat)} : gW G (n + 1) (upS sh n x) R I J = gW G n sh R I J ++ [(G.1 + n, gE G.1 G.2.2.1 x (R n) (I n) (J n))] := by
  unfold gW
  rw [List.range_succ, List.map_append]
  congr 1
  · refine List.map_congr_left fun k hk => ?_
    have h := List.mem_range.mp hk
    unfold upS
    rw [if_neg (by omega)]
  · show [(G.1 + n, gE G.1 G.2.2.1 (if n = n then x else sh n) (R n) (I n) (J n))] = _
    rw [if_pos rfl]
theorem gP_push {G : GG} {n z : Nat} {sh : GSh} {R : GR} {I J : GI} {x : Nat ⊕ (Nat × Nat)} {H H1 : Heap} (hP : va_P G.2.1 vwCl (gW G n sh R I J) H) (hz : H.size = G.1 + z) (hzn : z = n) (o1 : ∀ q : Nat, q < H.size → H1[q]? = H[q]?) (e : va_at G.2.1 vwCl (H.size, gE G.1 G.2.2.1 x (R n) (I n) (J n)) H1) : va_P G.2.1 vwCl (gW G (n + 1) (upS sh n x) R I J) H1 := by
  rw [gW_push]
  refine (hP.kept (fun k q hk => o1 q.1 (hP k q hk).lt)).app (fun k q hk => ?_)
  have hk1 : k < 1 := (List.getElem?_eq_some_iff.mp hk).1
  rw [show k = 0 by omega] at hk
  cases hk
  rw [← hzn, ← hz]
  rw [hzn]
  exact e
theorem gS_push {A : Nat → Prop} {H0 H H1 : Heap} {locs : List Loc} (hS : va_S A H0 H locs) (z1 : H1.size = H.size + 1) (o1 : ∀ q : Nat, q < H.size → H1[q]? = H[q]?) : va_S A H0 H1 locs :=
  ⟨Nat.le_trans hS.1 (by omega), fun x h1 h2 => (o1 x (Nat.lt_of_lt_of_le h1 hS.1)).trans (hS.2.1 x h1 h2), hS.2.2⟩
theorem gw_new (C : gC G p l s m args meth c cc nL own ret nm) {index ci N : Nat} {Cn : String} {T0 : u_T} (ty : Nat → FieldType) (hty : ∀ k, k < N → parseFieldDescriptor (T0 k).2.2.1 = some (ty k)) (hdf : ∀ j, j < N → defaultValue (ty j) = gF G.1 (gK ci j) none 0 0) (hin : ∀ w ∈ u_ws Cn T0 N, w ∈ GA) (hc : vwCl[ci]? = some (Cn, T0, N)) (hN : gN ci = N) (hw : Cond.classLink own index Cn ∈ GA) (hm : Cond.instantiable Cn N ∈ GA) (hini : Cond.initialized Cn ∈ GA) (d : decode cc pc = .ok (.new index, 3)) (hzn : z = n) (hfr : gFr n R I J) (hk1 : k1 + 1 ≤ R0.cells) (hk2 : k2 + N ≤ R0.slots) (k : GW G p l e R0 s m args below meth c nL (z + 1) (n + 1) (upS sh n (.inl ci)) R I J (k1 + 1) (k2 + N) Q (pc + 3) lo (vR n :: st)) : GW G p l e R0 s m args below meth c nL z n sh R I J k1 k2 Q (pc) lo (st) := by
  intro H locs ls hP hS hz hi hl
  have hts := C.1.2.2.2.2
  have hKn := C.2.2.2.2.1.1 ci _ hc
  refine W.newcK C.1.1 C.1.2.1 C.1.2.2.2.1 (hts _ hw) (hts _ hm) (hts _ hini) rfl d hk1 hk2 hKn.2.1 rfl fun H1 kC hkC e1 z1 o1 => ?_
  have hP1 := gP_push (x := .inl ci) (H1 := H1) hP hz hzn o1 ⟨_, hc, (u_born ty hts hin hKn hkC e1 hty).to (fun j hj => by
    rw [hdf j hj]
    show _ = List.getD _ j Value.null
    rw [List.getD_eq_getElem?_getD, rg_get _ (by rw [hN]; exact hj)]
    obtain ⟨a1, a2, a3⟩ := hfr n (Nat.le_refl n) j
    rw [a1, a2, a3]; rfl)⟩
  have h := k H1 locs ls hP1 (gS_push hS z1 o1) (by omega) hi hl
  rw [hz, hzn]
  exact h
theorem gw_newarr (C : gC G p l s m args meth c cc nL own ret nm) {len t : Nat} {atype : ArrayType} {ty : FieldType} (hat : newarray.typeOf atype = ty) (hw : Cond.arrayClass ty ∈ GA) (ht : (gT G.2.2.1)[t]? = some (G.2.2.1 t, ty)) (hne : va_RA s (G.2.2.1 t) ty = (s.vm.findClass ("[" ++ ty.toString) = some (G.2.2.1 t))) (hcell : ∀ cA : ClassId, vp_cell cA (len, gA G.1 t (fun _ => none) (fun _ => 0) (fun _ => 0)) = arrV cA len (fun _ => defaultValue ty)) (d : decode cc pc = .ok (.newarray atype, 2)) (hlen : len < 2147483648) (hby : len * componentBytes ty ≤ 536870912) (hzn : z = n) (hfr : gFr n R I J) (hk1 : k1 + 1 ≤ R0.cells) (hk2 : k2 + len ≤ R0.slots) (k : GW G p l e R0 s m args below meth c nL (z + 1) (n + 1) (upS sh n (.inr (t, len))) R I J (k1 + 1) (k2 + len) Q (pc + 2) lo (vR n :: st)) : GW G p l e R0 s m args below meth c nL z n sh R I J k1 k2 Q (pc) lo (vI (len : Int) :: st) := by
  subst hat
  intro H locs ls hP hS hz hi hl
  have hts := C.1.2.2.2.2
  have il : inI (len : Int) := ⟨by omega, by omega⟩
  refine va_newaK C.1.1 C.1.2.1 (hts _ hw) rfl d (n := Int32.ofInt (len : Int)) (N := len) rfl (by rw [← oi_0, oi_lt il in_0]; omega) (by rw [oi_cl il]; omega) hby hk1 hk2 rfl fun H1 cA e1 z1 o1 hAr hNm => ?_
  have hRA := (C.2.2.2.2.1.2 t _ ht).2
  rw [hne] at hRA
  have hcA : cA = G.2.2.1 t := Option.some.inj (hNm.symm.trans hRA)
  have hP1 := gP_push (x := .inr (t, len)) (H1 := H1) hP hz hzn o1 (by
    show H1[H.size]? = some (vp_cell _ _)
    have hR : R n = fun _ => none := funext fun j => (hfr n (Nat.le_refl n) j).1
    have hI : I n = fun _ => 0 := funext fun j => (hfr n (Nat.le_refl n) j).2.1
    have hJ : J n = fun _ => 0 := funext fun j => (hfr n (Nat.le_refl n) j).2.2
    rw [e1, hcA]
    show _ = some (vp_cell (G.2.2.1 t) (len, gA G.1 t (R n) (I n) (J n)))
    rw [hR, hI, hJ, hcell])
  have h := k H1 locs ls hP1 (gS_push hS z1 o1) (by omega) hi hl
  rw [hz, hzn]
  exact h
theorem gw_newq (C : gC G p l s m args meth c cc nL own ret nm) {len t index : Nat} {Cn : String} (hw : Cond.classLink own index Cn ∈ GA) (hao : Cn ∈ gAO) (ht : (gT G.2.2.1)[t]? = some (G.2.2.1 t, .object Cn)) (h3 : 3 ≤ t) (d : decode cc pc = .ok (.anewarray index, 3)) (hlen : len < 1000000) (hzn : z = n) (hfr : gFr n R I J) (hk1 : k1 + 1 ≤ R0.cells) (hk2 : k2 + len ≤ R0.slots) (k : GW G p l e R0 s m args below meth c nL (z + 1) (n + 1) (upS sh n (.inr (t, len))) R I J (k1 + 1) (k2 + len) Q (pc + 3) lo (vR n :: st)) : GW G p l e R0 s m args below meth c nL z n sh R I J k1 k2 Q (pc) lo (vI (len : Int) :: st) := by
  intro H locs ls hP hS hz hi hl
  have hts := C.1.2.2.2.2
  have il : inI (len : Int) := ⟨by omega, by omega⟩
  have hcl : (Int32.ofInt (len : Int)).toNatClampNeg = len := by rw [oi_cl il]; omega
  have hRO := C.2.2.2.2.2.1
  refine W.anew C.1.1 C.1.2.1 C.1.2.2.2.1 (hts _ hw) (va_AO.use (hRO.2.2.2.2.2.2.2.2.1 _ hao)) rfl d rfl (by rw [← oi_0, oi_lt il in_0]; omega) (by rw [hcl]; omega) hk1 (by rw [hcl]; exact hk2) fun cA kA comp f1 f2 f3 f4 => ?_
  rw [hcl]
  generalize hH1 : H.push ({ cls := cA, slots := Array.replicate len .null, vm := .none } : Cell) = H1
  have z1 : H1.size = H.size + 1 := by rw [← hH1, Array.size_push]
  have e1 : H1[H.size]? = some (arrV cA len (fun _ => .null)) := by rw [← hH1, Array.getElem?_push_size, ← arrV_new]
  have o1 : ∀ q : Nat, q < H.size → H1[q]? = H[q]? := fun q hq => by rw [← hH1, Array.getElem?_push, if_neg (Nat.ne_of_lt hq)]
  obtain ⟨kA2, comp2, b1, b2, b3, b4⟩ := (C.2.2.2.2.1.2 t _ ht).2
  have hcA : cA = G.2.2.1 t := Option.some.inj (f1.symm.trans b4)
  have hP1 := gP_push (x := .inr (t, len)) (H1 := H1) hP hz hzn o1 (by
    show H1[H.size]? = some (vp_cell _ _)
    have hR : R n = fun _ => none := funext fun j => (hfr n (Nat.le_refl n) j).1
    rw [e1, hcA]
    show _ = some (vp_cell (G.2.2.1 t) (len, gA G.1 t (R n) (I n) (J n)))
    rw [hR]
    match t, h3 with
    | t + 3, _ => rfl)
  have h := k H1 locs ls hP1 (gS_push hS z1 o1) (by omega) hi hl
  rw [hz, hzn]
  exact h
theorem gw_aast (C : gC G p l s m args meth c cc nL own ret nm) {i : Int} {r len t x ci : Nat} {cl : vw_C} (q : Nat) (d : decode cc pc = .ok (.aastore, 1)) (ht : (gT G.2.2.1)[t]? = some (G.2.2.1 t, .object cl.1)) (h3 : 3 ≤ t) (hc : vwCl[ci]? = some cl) (hsx : sh x = .inl ci) (hx : x < n) (hs : sh r = .inr (t, len)) (hr : r < n) (hq : i = (q : Int)) (hlt : q < len) (hlen : len < 2147483648) (k : GW G p l e R0 s m args below meth c nL z n sh (upR R r q (some x)) I J k1 k2 Q (pc + 1) lo (st)) : GW G p l e R0 s m args below meth c nL z n sh R I J k1 k2 Q (pc) lo (vR x :: vI i :: vR r :: st) := by
  intro H locs ls hP hS hz hi hl
  have he := gW_get (G := G) (sh := sh) (R := R) (I := I) (J := J) hr
  rw [hs] at he
  obtain ⟨o1, o2⟩ := oi_in hq hlt hlen
  have hv := gW_get (G := G) (sh := sh) (R := R) (I := I) (J := J) hx
  rw [hsx] at hv
  have hga : ∀ (b : Nat) (R : Nat → Option Nat) (I J : Nat → Int), gA b t R I J = .inr (.inr (.inr (.inr (fun j => (R j).map (fun q => b + q))))) := fun b R I J => by
    match t, h3 with
    | t + 3, _ => rfl
  have he2 : (gW G n sh R I J)[r]? = some (G.1 + r, .inl (G.2.2.1 t, len, .inr (.inr (.inr (.inr (fun j => (R r j).map (fun q => G.1 + q))))))) := by
    rw [he]
    show some (_, Sum.inl (_, _, gA _ _ _ _ _)) = _
    rw [hga]
  obtain ⟨r', hr', cellV, g1, g2, g3, -⟩ := hP x _ hv
  have hcls := (C.2.2.2.2.1.1 ci cl hc).2
  obtain ⟨kA, comp, b1, b2, b3, -⟩ := (C.2.2.2.2.1.2 t _ ht).2
  have hcomp : comp = G.2.1.1 ci := Option.some.inj (b3.symm.trans hcls.1)
  subst hcomp
  obtain ⟨kC, hkC, -⟩ := hcls.2
  have hin0 : ¬ (Int32.ofInt i) < 0 := fun q => o1 (Or.inl q)
  refine W.aast C.1.1 C.1.2.1 (hP r _ he2) (fun q h => by cases h) (fun h => by cases h) b1 b2 rfl hkC ⟨hin0, by show _ < (arrV _ _ _).slots.size; rw [arrV_size, o2]; exact hlt⟩ g1 (fun q h => by rw [g3] at h; cases h) (by rw [g2]; exact hkC) (by rw [g2]; exact va_assign hcls) rfl rfl d fun H1 e1 e2 e3 => ?_
  rw [o2] at e1 ⊢
  have hP2 := hP.set gW_D he (e := gE G.1 G.2.2.1 (.inr (t, len)) (upR R r q (some x) r) (I r) (J r)) ?_ e3
  · rw [gW_set (R' := upR R r q (some x)) (I' := I) (J' := J) ?_ ?_ ?_ ?_] at hP2
    · exact k H1 _ ls hP2 (hS.put e2 e3 (Nat.le_add_right _ _)) (e2.trans hz) hi hl
    · rw [hs]
    · intro a ha; exact upR_ne ha
    · intro a ha; rfl
    · intro a ha; rfl
  · show H1[G.1 + r]? = some (vp_cell (G.2.2.1 t) (len, gA G.1 t (upR R r q (some x) r) (I r) (J r)))
    rw [hga, vp_cell_q]
    have e0 : H1[G.1 + r]? = some ((arrV (G.2.2.1 t) len (fun j => va_rf ((R r j).map (fun q => G.1 + q)))).setSlot q (.ref (G.1 + x))) := e1
    rw [e0, arrV_store]
    congr 2
    funext j
    by_cases hj : j = q
    · subst hj
      simp only [updV, upR_eq, if_true]; rfl
    · simp only [updV, upR_ne2 hj, if_neg hj]
def GQa (G : GG) (Qa : Nat → Nat → GSh → GR → GI → GI → Prop) : Array Value → State → Outcome → State → Prop := fun _ st oc t => (∃ (z n : Nat) (sh : GSh) (R : GR) (I J : GI), Qa z n sh R I J ∧ oc = .returned none ∧ gMem G z n sh R I J t.heap) ∧ va_F (ge G) st t
def gNoX : String → State → State → Prop := fun _ _ _ => False
/-- the contract of a constructor: it may make cells -/
def GMa (l : Launch) (y : MethodName) (cw : Cond) (fr lo9 mc ms : Nat) (G : GG) (as : List GV) (z n : Nat) (sh : GSh) (R : GR) (I J : GI) (Qa : Nat → Nat → GSh → GR → GI → GI → Prop) : Prop :=
  vx_Met l y (cw :: GA) ({ frames := fr, cells := mc, slots := ms, locals := lo9 } : Room) (va_Pc (as.map (cv G.1)) (gRep G z n sh R I J)) (GQa G Qa) gNoX mc ms (ge G)
theorem gw_vretA (C : gC G p l s m args meth c cc nL own none nm) {Qa : Nat → Nat → GSh → GR → GI → GI → Prop} {mc ms : Nat} (hk1 : k1 ≤ mc) (hk2 : k2 ≤ ms) (d : decode cc pc = .ok (.return_, 1)) (hQ : Qa z n sh R I J) : GW G p l e R0 s m args below meth c nL z n sh R I J k1 k2 (vx_MQ below (GQa G Qa) gNoX args s mc ms (ge G)) (pc) lo ([]) := by
  intro H locs ls hP hS hz hi hl
  refine W.widen hk1 hk2 (vx_ret ?_)
  exact W.vret C.1.1 C.1.2.1 C.2.1 (fun t ht _ => ⟨⟨z, n, sh, R, I, J, hQ, rfl, by rw [ht]; exact hP, by rw [ht]; exact hz, hi⟩, hS.F ht⟩) hS.2.2 d C.2.2.1
theorem gw_objInit (C : gC G p l s m args meth c cc nL own ret nm) {idx r : Nat} (d : decode cc pc = .ok (.invokespecial idx, 3)) (hw : Cond.methodLink own idx objectInit ∈ GA) (hfr : 1 ≤ R0.frames) (hlo : ((st.map (cv G.1)).map fun v => v.category).sum + 12 ≤ R0.locals) (k : GW G p l e R0 s m args below meth c nL z n sh R I J k1 k2 Q (pc + 3) lo (st)) : GW G p l e R0 s m args below meth c nL z n sh R I J k1 k2 Q (pc) lo (vR r :: st) := by
  intro H locs ls hP hS hz hi hl
  have hts := C.1.2.2.2.2
  exact W.objInit C.1.1 C.1.2.1 C.1.2.2.2.1 (hts _ hw) (hts _ (qObj _ (by simp))) (hts _ (qObj _ (by simp))) rfl (hl.1.trans C.1.2.2.1.symm) rfl d hfr (by show 2 * 0 + _ + 12 ≤ _; omega) (k H locs ls hP hS hz hi hl)
theorem gma_of {l : Launch} {y : MethodName} {cc : ByteArray} {nL : Nat} {fr lo9 mc ms : Nat} {G : GG} {n : Nat} {sh : GSh} {R : GR} {as : List GV} {z : Nat} {I J : GI} {Qa : Nat → Nat → GSh → GR → GI → GI → Prop} {lo0 : List (Option GV)} (hl0 : l.stackTraces = false) (hy : plainName y.cls = true) (hlo : gEntry nL as = lo0) (hsz : (lg_sl (as.map (cv G.1))).length ≤ nL)
    (body : ∀ (p : Program) (e : Env) (s : State) (m : MethodId) (args : Array Value) (below : List Frame) (meth : Method) (c : Code), gC G p l s m args meth c cc nL y.cls none y.name → gIn I → GW G p l e ({ frames := fr, cells := mc, slots := ms, locals := lo9 } : Room) s m args below meth c nL z n sh R I J 0 0 (vx_MQ below (GQa G Qa) gNoX args s mc ms (ge G)) 0 lo0 []) : GMa l y (.code y cc nL none) fr lo9 mc ms G as z n sh R I J Qa := by
  refine vx_ofW (cc := cc) (maxL := nL) (ret := none) hy rfl ?_
  intro p e s m args below meth c s₁ B hml ht hv
  obtain ⟨rfl, hP, hK, hz, hi, hRO⟩ := hv
  have hts := atoms_spec B.pre
  have hown := findClass_of_methodNamed B.named
  have C : gC G p l s m (as.map (cv G.1)).toArray meth c cc nL y.cls none y.name := ⟨⟨B.exec, B.bytes, hml, hown, fun w hw => hts w (List.mem_cons_of_mem _ hw)⟩, B.returns, B.notSynchronized, hl0, hK, hRO, (name_of_methodNamed B.named B.method).1⟩
  have hl := lv_entry (as.map (cv G.1)) (n := nL) hsz
  rw [lg_entry_eq]
  generalize (lg_sl (as.map (cv G.1)) ++ List.replicate (nL - (lg_sl (as.map (cv G.1))).length) Slot.unset).toArray = ls at hl ⊢
  have hg := gEntry_L hl
  rw [hlo] at hg
  exact body p e s m _ below meth c C hi s.heap [] ls hP va_S.rf hz hi hg
theorem gw_callI (C : gC G p l s m args meth c cc nL own ret nm) {as : List GV} {index fr lo9 mc ms b : Nat} {y : MethodName} {bytes : ByteArray} {maxL : Nat} {Qa : Nat → Nat → GSh → GR → GI → GI → Prop} {st0 : List GV} (hM : GMa l y (.code y bytes maxL none) fr lo9 mc ms G (vR b :: as) z n sh R I J Qa) (d : decode cc pc = .ok (.invokespecial index, 3)) (hw : Cond.methodLink own index y ∈ GA) (hy1 : y.name = "<init>") (hq : ∀ w ∈ [Cond.code y bytes maxL none, Cond.initialized y.cls, Cond.instanceMethod y], w ∈ GA) (hd : y.cls ≠ "java/lang/invoke/MethodHandle" ∧ y.cls ≠ "java/lang/invoke/VarHandle" ∧ (parseMethodDescriptor y.desc).map (fun d => d.parameters.length) = some as.length) (hR : fr + 1 ≤ R0.frames ∧ 8 + (maxL + 11) + lo9 ≤ R0.locals) (hk : k1 + mc ≤ R0.cells ∧ k2 + ms ≤ R0.slots) (hst : ((st.map (cv G.1)).map fun v => v.category).sum ≤ 8) (hst0 : st0 = as.reverse ++ vR b :: st) (kk : ∀ (z' n' : Nat) (sh' : GSh) (R' : GR) (I' J' : GI), Qa z' n' sh' R' I' J' → GW G p l e R0 s m args below meth c nL z' n' sh' R' I' J' (k1 + mc) (k2 + ms) Q (pc + 3) lo (st)) : GW G p l e R0 s m args below meth c nL z n sh R I J k1 k2 Q (pc) lo (st0) := by
  subst hst0
  have hts := C.1.2.2.2.2
  have hG : GoodIn GA (.code y bytes maxL none :: GA) := fun w h => by
    have h1 : w ∈ GA := (List.mem_cons.mp h).elim (fun e => by rw [e]; exact hq _ (by simp)) id
    exact ⟨h1, good_of_word (List.mem_filter.mp h1).2⟩
  intro H locs ls hP hS hz hi hl T hT X
  have hr : vx_Run p l e R0 s m args below meth c H locs k1 k2 mc ms (F0 m pc ls ((as.reverse ++ vR b :: st).map (cv G.1))) (st.map (cv G.1)) (GQa G Qa (Value.ref (G.1 + b) :: as.map (cv G.1)).toArray) gNoX (ge G) := vx_runI (As := as.map (cv G.1)) (rest := st.map (cv G.1)) (b := G.1 + b) (g := F0 m pc ls ((as.reverse ++ vR b :: st).map (cv G.1))) ⟨C.1.1, C.1.2.1, C.1.2.2.1, C.1.2.2.2.1, hts⟩ hM ⟨callB_of as.length hts hG rfl rfl rfl (hts _ (hq _ (by simp))) (hts _ hw) hd hR, hy1, hts _ (hq _ (by simp))⟩ ⟨gRep_blind, fun U hU hW => ⟨rfl, gP_of C hP hS hz hi hU hW⟩⟩ rfl (by rw [List.length_map]) hl.1 (by rw [List.map_append, List.map_reverse]; rfl) (lv_room hst) d hk
  rcases hr T hT X with ⟨v, st₀, t, T', L, h0, X', hL, e1, e2, ⟨⟨z', n', sh', R', I', J', hQ, hv, hM1, hM2, hM3⟩, hF⟩, stp⟩ | ⟨q, st₀, t, T', L, E, ce, h0, X', hL, e1, e2, hx, -⟩
  · cases hv
    obtain ⟨a1, a2, a3⟩ := vx_keep h0 e1 hS (fun _ _ h => h) (fun _ h => h) hL hF
    rw [← e1] at hM1 hM2
    obtain ⟨t2, b1, b2⟩ := kk z' n' sh' R' I' J' hQ T'.heap (locs ++ L) ls hM1 a3 hM2 hM3 hl T' rfl X'
    exact ⟨t2, stp t2 b1, b2⟩
  · exact hx.elim
theorem gw_callIN (C : gC G p l s m args meth c cc nL own ret nm) {as : List GV} {index fr lo9 mc ms b : Nat} {y : MethodName} {bytes : ByteArray} {maxL : Nat} {Qa : Nat → Nat → GSh → GR → GI → GI → Prop} {st0 : List GV} {host : String} (hM : GMa l y (.code y bytes maxL none) fr lo9 mc ms G (vR b :: as) z n sh R I J Qa) (d : decode cc pc = .ok (.invokespecial index, 3)) (hw : (own, index, y, host) ∈ gNM) (hy1 : y.name = "<init>") (hq : ∀ w ∈ [Cond.code y bytes maxL none, Cond.initialized y.cls, Cond.instanceMethod y], w ∈ GA) (hd : y.cls ≠ "java/lang/invoke/MethodHandle" ∧ y.cls ≠ "java/lang/invoke/VarHandle" ∧ (parseMethodDescriptor y.desc).map (fun d => d.parameters.length) = some as.length) (hR : fr + 1 ≤ R0.frames ∧ 8 + (maxL + 11) + lo9 ≤ R0.locals) (hk : k1 + mc ≤ R0.cells ∧ k2 + ms ≤ R0.slots) (hst : ((st.map (cv G.1)).map fun v => v.category).sum ≤ 8) (hst0 : st0 = as.reverse ++ vR b :: st) (kk : ∀ (z' n' : Nat) (sh' : GSh) (R' : GR) (I' J' : GI), Qa z' n' sh' R' I' J' → GW G p l e R0 s m args below meth c nL z' n' sh' R' I' J' (k1 + mc) (k2 + ms) Q (pc + 3) lo (st)) : GW G p l e R0 s m args below meth c nL z n sh R I J k1 k2 Q (pc) lo (st0) := by
  subst hst0
  have hts := C.1.2.2.2.2
  have hG : GoodIn GA (.code y bytes maxL none :: GA) := fun w h => by
    have h1 : w ∈ GA := (List.mem_cons.mp h).elim (fun e => by rw [e]; exact hq _ (by simp)) id
    exact ⟨h1, good_of_word (List.mem_filter.mp h1).2⟩
  intro H locs ls hP hS hz hi hl T hT X
  have hr : vx_Run p l e R0 s m args below meth c H locs k1 k2 mc ms (F0 m pc ls ((as.reverse ++ vR b :: st).map (cv G.1))) (st.map (cv G.1)) (GQa G Qa (Value.ref (G.1 + b) :: as.map (cv G.1)).toArray) gNoX (ge G) := vx_runIN (host := host) (As := as.map (cv G.1)) (rest := st.map (cv G.1)) (b := G.1 + b) (g := F0 m pc ls ((as.reverse ++ vR b :: st).map (cv G.1))) ⟨C.1.1, C.1.2.1, C.1.2.2.1, C.1.2.2.2.1, hts⟩ hM ⟨va_cnB as.length hts hG rfl rfl rfl (C.2.2.2.2.2.1.2.2.2.2.1 _ hw) (hts _ (hq _ (by simp))) hd hR, hy1, hts _ (hq _ (by simp))⟩ ⟨gRep_blind, fun U hU hW => ⟨rfl, gP_of C hP hS hz hi hU hW⟩⟩ rfl (by rw [List.length_map]) hl.1 (by rw [List.map_append, List.map_reverse]; rfl) (lv_room hst) d hk
  rcases hr T hT X with ⟨v, st₀, t, T', L, h0, X', hL, e1, e2, ⟨⟨z', n', sh', R', I', J', hQ, hv, hM1, hM2, hM3⟩, hF⟩, stp⟩ | ⟨q, st₀, t, T', L, E, ce, h0, X', hL, e1, e2, hx, -⟩
  · cases hv
    obtain ⟨a1, a2, a3⟩ := vx_keep h0 e1 hS (fun _ _ h => h) (fun _ h => h) hL hF
    rw [← e1] at hM1 hM2
    obtain ⟨t2, b1, b2⟩ := kk z' n' sh' R' I' J' hQ T'.heap (locs ++ L) ls hM1 a3 hM2 hM3 hl T' rfl X'
    exact ⟨t2, stp t2 b1, b2⟩
  · exact hx.elim
theorem gw_getRs (C : gC G p l s m args meth c cc nL own ret nm) {N ci index : Nat} {Cn : String} {T0 : u_T} {r : Nat} (x : Nat) (j : Nat) (hw : Cond.fieldLink own index (T0 j).1 (T0 j).2.1 (T0 j).2.2.1 ∈ GA) (hin : ∀ w ∈ u_ws Cn T0 N, w ∈ GA) (hc : vwCl[ci]? = some (Cn, T0, N)) (hj : j < N) (hN : gN ci = N) (hk : gK ci j = 2) (d : decode cc pc = .ok (.getfield index, 3)) (hs : sh r = .inl ci) (hr : r < n) (hx : R r j = some x) (k : GW G p l e R0 s m args below meth c nL z n sh R I J k1 k2 Q (pc + 3) lo (vR x :: st)) : GW G p l e R0 s m args below meth c nL z n sh R I J k1 k2 Q (pc) lo (vR r :: st) :=
  gw_getR C j hw hin hc hj hN hk d hs hr (by rw [hx]; exact k)
theorem gw_aalds (C : gC G p l s m args meth c cc nL own ret nm) {i : Int} {r len t : Nat} {Cn : String} (x : Nat) (q : Nat) (d : decode cc pc = .ok (.aaload, 1)) (ht : (gT G.2.2.1)[t]? = some (G.2.2.1 t, .object Cn)) (h3 : 3 ≤ t) (hs : sh r = .inr (t, len)) (hr : r < n) (hq : i = (q : Int)) (hlt : q < len) (hlen : len < 2147483648) (hx : R r q = some x) (k : GW G p l e R0 s m args below meth c nL z n sh R I J k1 k2 Q (pc + 1) lo (vR x :: st)) : GW G p l e R0 s m args below meth c nL z n sh R I J k1 k2 Q (pc) lo (vI i :: vR r :: st) :=
  gw_aald C q d ht h3 hs hr hq hlt hlen (by rw [hx]; exact k)
def memQ (r : Option GV) (I1 J1 : GI) : Option GV → Nat → GI → GI → Prop := fun v _ I' J' => v = r ∧ I' = I1 ∧ J' = J1
def boolQ (c : Prop) (I1 J1 : GI) : Option GV → Nat → GI → GI → Prop := fun v _ I' J' => (c ∧ v = some (vI 1) ∨ ¬ c ∧ v = some (vI 0)) ∧ I' = I1 ∧ J' = J1
def gLe : List (Option GV) → List (Option GV) → Prop
  | [], _ => True
  | none :: xs, _ :: ys => gLe xs ys
  | none :: xs, [] => gLe xs []
  | some a :: xs, b :: ys => b = some a ∧ gLe xs ys
  | some _ :: _, [] => False
theorem gLe_at : ∀ (xs ys : List (Option GV)), gLe xs ys → ∀ (i : Nat) (v : GV), xs[i]? = some (some v) → ys[i]? = some (some v)
  | [], _, _, i, v, h => by simp at h
  | none :: xs, y :: ys, hl, i, v, h => by
    cases i with
    | zero => simp at h
    | succ i => simpa using gLe_at xs ys hl i v (by simpa using h)
  | none :: xs, [], hl, i, v, h => by
    cases i with
    | zero => simp at h
    | succ i => simpa using gLe_at xs [] hl i v (by simpa using h)
  | some a :: xs, b :: ys, hl, i, v, h => by
    cases i with
    | zero => obtain ⟨rfl, -⟩ := hl; simpa using h
    | succ i => simpa using gLe_at xs ys hl.2 i v (by simpa using h)
  | some _ :: _, [], hl, _, _, _ => hl.elim
theorem gw_weak {lo' : List (Option GV)} (h : gLe lo' lo) (k : GW G p l e R0 s m args below meth c nL z n sh R I J k1 k2 Q (pc) lo' (st)) : GW G p l e R0 s m args below meth c nL z n sh R I J k1 k2 Q (pc) lo (st) := fun H locs ls hP hS hz hi hl => k H locs ls hP hS hz hi (gL_sub hl (gLe_at lo' lo h))
theorem gw_rng (k : gIn I → GW G p l e R0 s m args below meth c nL z n sh R I J k1 k2 Q (pc) lo (st)) : GW G p l e R0 s m args below meth c nL z n sh R I J k1 k2 Q (pc) lo (st) := fun H locs ls hP hS hz hi hl => k hi H locs ls hP hS hz hi hl
theorem gw_callVm (C : gC G p l s m args meth c cc nL own ret nm) {as : List GV} {index fr lo9 mc ms : Nat} {y : MethodName} {bytes : ByteArray} {maxL : Nat} {ret9 : Option FieldType} {st0 : List GV} {b ci N : Nat} {T0 : u_T} {r9 : Option GV} {I1 J1 : GI} (hM : GM l y (.code y bytes maxL ret9) fr lo9 mc ms G n sh R (vR b :: as) z I J (memQ r9 I1 J1) gNo) (d : decode cc pc = .ok (.invokevirtual index, 3)) (hw : Cond.methodLink own index y ∈ GA) (hq : ∀ w ∈ [Cond.code y bytes maxL ret9, Cond.initialized y.cls, Cond.instanceMethod y, Cond.selects y.cls y y], w ∈ GA) (hd : y.cls ≠ "java/lang/invoke/MethodHandle" ∧ y.cls ≠ "java/lang/invoke/VarHandle" ∧ (parseMethodDescriptor y.desc).map (fun d => d.parameters.length) = some as.length) (hR : fr + 1 ≤ R0.frames ∧ 8 + (maxL + 11) + lo9 ≤ R0.locals) (hk : k1 + mc ≤ R0.cells ∧ k2 + ms ≤ R0.slots) (hst : ((st.map (cv G.1)).map fun v => v.category).sum ≤ 8) (hc : vwCl[ci]? = some (y.cls, T0, N)) (hs : sh b = .inl ci) (hb : b < n) (hst0 : st0 = as.reverse ++ vR b :: st) (kk : ∀ z' : Nat, GW G p l e R0 s m args below meth c nL z' n sh R I1 J1 (k1 + mc) (k2 + ms) Q (pc + 3) lo (r9.toList ++ st)) : GW G p l e R0 s m args below meth c nL z n sh R I J k1 k2 Q (pc) lo (st0) :=
  gw_callV C hM d hw hq hd hR hk hst hc hs hb hst0 (fun _ _ _ _ h => h.elim) (fun v z' I' J' h => by
    obtain ⟨rfl, rfl, rfl⟩ := h
    exact kk z')
theorem gw_callVb (C : gC G p l s m args meth c cc nL own ret nm) {as : List GV} {index fr lo9 mc ms : Nat} {y : MethodName} {bytes : ByteArray} {maxL : Nat} {ret9 : Option FieldType} {st0 : List GV} {b ci N : Nat} {T0 : u_T} {c9 : Prop} {I1 J1 : GI} (hM : GM l y (.code y bytes maxL ret9) fr lo9 mc ms G n sh R (vR b :: as) z I J (boolQ c9 I1 J1) gNo) (d : decode cc pc = .ok (.invokevirtual index, 3)) (hw : Cond.methodLink own index y ∈ GA) (hq : ∀ w ∈ [Cond.code y bytes maxL ret9, Cond.initialized y.cls, Cond.instanceMethod y, Cond.selects y.cls y y], w ∈ GA) (hd : y.cls ≠ "java/lang/invoke/MethodHandle" ∧ y.cls ≠ "java/lang/invoke/VarHandle" ∧ (parseMethodDescriptor y.desc).map (fun d => d.parameters.length) = some as.length) (hR : fr + 1 ≤ R0.frames ∧ 8 + (maxL + 11) + lo9 ≤ R0.locals) (hk : k1 + mc ≤ R0.cells ∧ k2 + ms ≤ R0.slots) (hst : ((st.map (cv G.1)).map fun v => v.category).sum ≤ 8) (hc : vwCl[ci]? = some (y.cls, T0, N)) (hs : sh b = .inl ci) (hb : b < n) (hst0 : st0 = as.reverse ++ vR b :: st) (kt : c9 → ∀ z' : Nat, GW G p l e R0 s m args below meth c nL z' n sh R I1 J1 (k1 + mc) (k2 + ms) Q (pc + 3) lo (vI 1 :: st)) (kf : ¬ c9 → ∀ z' : Nat, GW G p l e R0 s m args below meth c nL z' n sh R I1 J1 (k1 + mc) (k2 + ms) Q (pc + 3) lo (vI 0 :: st)) : GW G p l e R0 s m args below meth c nL z n sh R I J k1 k2 Q (pc) lo (st0) :=
  gw_callV C hM d hw hq hd hR hk hst hc hs hb hst0 (fun _ _ _ _ h => h.elim) (fun v z' I' J' h => by
    obtain ⟨⟨h1, rfl⟩ | ⟨h1, rfl⟩, rfl, rfl⟩ := h
    · exact kt h1 z'
    · exact kf h1 z')
theorem gw_callSm (C : gC G p l s m args meth c cc nL own ret nm) {as : List GV} {index fr lo9 mc ms : Nat} {y : MethodName} {bytes : ByteArray} {maxL : Nat} {ret9 : Option FieldType} {st0 : List GV} {r9 : Option GV} {I1 J1 : GI} (hM : GM l y (.code y bytes maxL ret9) fr lo9 mc ms G n sh R as z I J (memQ r9 I1 J1) gNo) (d : decode cc pc = .ok (.invokestatic index, 3)) (hw : Cond.methodLink own index y ∈ GA) (hq : ∀ w ∈ [Cond.code y bytes maxL ret9, Cond.initialized y.cls, Cond.static y], w ∈ GA) (hd : y.cls ≠ "java/lang/invoke/MethodHandle" ∧ y.cls ≠ "java/lang/invoke/VarHandle" ∧ (parseMethodDescriptor y.desc).map (fun d => d.parameters.length) = some as.length) (hR : fr + 1 ≤ R0.frames ∧ 8 + (maxL + 11) + lo9 ≤ R0.locals) (hk : k1 + mc ≤ R0.cells ∧ k2 + ms ≤ R0.slots) (hst : ((st.map (cv G.1)).map fun v => v.category).sum ≤ 8) (hst0 : st0 = as.reverse ++ st) (kk : ∀ z' : Nat, GW G p l e R0 s m args below meth c nL z' n sh R I1 J1 (k1 + mc) (k2 + ms) Q (pc + 3) lo (r9.toList ++ st)) : GW G p l e R0 s m args below meth c nL z n sh R I J k1 k2 Q (pc) lo (st0) :=
  gw_callS C hM d hw hq hd hR hk hst hst0 (fun _ _ _ _ h => h.elim) (fun v z' I' J' h => by
    obtain ⟨rfl, rfl, rfl⟩ := h
    exact kk z')
theorem gw_callSb (C : gC G p l s m args meth c cc nL own ret nm) {as : List GV} {index fr lo9 mc ms : Nat} {y : MethodName} {bytes : ByteArray} {maxL : Nat} {ret9 : Option FieldType} {st0 : List GV} {c9 : Prop} {I1 J1 : GI} (hM : GM l y (.code y bytes maxL ret9) fr lo9 mc ms G n sh R as z I J (boolQ c9 I1 J1) gNo) (d : decode cc pc = .ok (.invokestatic index, 3)) (hw : Cond.methodLink own index y ∈ GA) (hq : ∀ w ∈ [Cond.code y bytes maxL ret9, Cond.initialized y.cls, Cond.static y], w ∈ GA) (hd : y.cls ≠ "java/lang/invoke/MethodHandle" ∧ y.cls ≠ "java/lang/invoke/VarHandle" ∧ (parseMethodDescriptor y.desc).map (fun d => d.parameters.length) = some as.length) (hR : fr + 1 ≤ R0.frames ∧ 8 + (maxL + 11) + lo9 ≤ R0.locals) (hk : k1 + mc ≤ R0.cells ∧ k2 + ms ≤ R0.slots) (hst : ((st.map (cv G.1)).map fun v => v.category).sum ≤ 8) (hst0 : st0 = as.reverse ++ st) (kt : c9 → ∀ z' : Nat, GW G p l e R0 s m args below meth c nL z' n sh R I1 J1 (k1 + mc) (k2 + ms) Q (pc + 3) lo (vI 1 :: st)) (kf : ¬ c9 → ∀ z' : Nat, GW G p l e R0 s m args below meth c nL z' n sh R I1 J1 (k1 + mc) (k2 + ms) Q (pc + 3) lo (vI 0 :: st)) : GW G p l e R0 s m args below meth c nL z n sh R I J k1 k2 Q (pc) lo (st0) :=
  gw_callS C hM d hw hq hd hR hk hst hst0 (fun _ _ _ _ h => h.elim) (fun v z' I' J' h => by
    obtain ⟨⟨h1, rfl⟩ | ⟨h1, rfl⟩, rfl, rfl⟩ := h
    · exact kt h1 z'
    · exact kf h1 z')
theorem gw_callSNm (C : gC G p l s m args meth c cc nL own ret nm) {as : List GV} {index fr lo9 mc ms : Nat} {y : MethodName} {bytes : ByteArray} {maxL : Nat} {ret9 : Option FieldType} {st0 : List GV} {host : String} {r9 : Option GV} {I1 J1 : GI} (hM : GM l y (.code y bytes maxL ret9) fr lo9 mc ms G n sh R as z I J (memQ r9 I1 J1) gNo) (d : decode cc pc = .ok (.invokestatic index, 3)) (hw : (own, index, y, host) ∈ gNM) (hq : ∀ w ∈ [Cond.code y bytes maxL ret9, Cond.initialized y.cls, Cond.static y], w ∈ GA) (hd : y.cls ≠ "java/lang/invoke/MethodHandle" ∧ y.cls ≠ "java/lang/invoke/VarHandle" ∧ (parseMethodDescriptor y.desc).map (fun d => d.parameters.length) = some as.length) (hR : fr + 1 ≤ R0.frames ∧ 8 + (maxL + 11) + lo9 ≤ R0.locals) (hk : k1 + mc ≤ R0.cells ∧ k2 + ms ≤ R0.slots) (hst : ((st.map (cv G.1)).map fun v => v.category).sum ≤ 8) (hst0 : st0 = as.reverse ++ st) (kk : ∀ z' : Nat, GW G p l e R0 s m args below meth c nL z' n sh R I1 J1 (k1 + mc) (k2 + ms) Q (pc + 3) lo (r9.toList ++ st)) : GW G p l e R0 s m args below meth c nL z n sh R I J k1 k2 Q (pc) lo (st0) :=
  gw_callSN C hM d hw hq hd hR hk hst hst0 (fun _ _ _ _ h => h.elim) (fun v z' I' J' h => by
    obtain ⟨rfl, rfl, rfl⟩ := h
    exact kk z')
theorem gw_callSNb (C : gC G p l s m args meth c cc nL own ret nm) {as : List GV} {index fr lo9 mc ms : Nat} {y : MethodName} {bytes : ByteArray} {maxL : Nat} {ret9 : Option FieldType} {st0 : List GV} {host : String} {c9 : Prop} {I1 J1 : GI} (hM : GM l y (.code y bytes maxL ret9) fr lo9 mc ms G n sh R as z I J (boolQ c9 I1 J1) gNo) (d : decode cc pc = .ok (.invokestatic index, 3)) (hw : (own, index, y, host) ∈ gNM) (hq : ∀ w ∈ [Cond.code y bytes maxL ret9, Cond.initialized y.cls, Cond.static y], w ∈ GA) (hd : y.cls ≠ "java/lang/invoke/MethodHandle" ∧ y.cls ≠ "java/lang/invoke/VarHandle" ∧ (parseMethodDescriptor y.desc).map (fun d => d.parameters.length) = some as.length) (hR : fr + 1 ≤ R0.frames ∧ 8 + (maxL + 11) + lo9 ≤ R0.locals) (hk : k1 + mc ≤ R0.cells ∧ k2 + ms ≤ R0.slots) (hst : ((st.map (cv G.1)).map fun v => v.category).sum ≤ 8) (hst0 : st0 = as.reverse ++ st) (kt : c9 → ∀ z' : Nat, GW G p l e R0 s m args below meth c nL z' n sh R I1 J1 (k1 + mc) (k2 + ms) Q (pc + 3) lo (vI 1 :: st)) (kf : ¬ c9 → ∀ z' : Nat, GW G p l e R0 s m args below meth c nL z' n sh R I1 J1 (k1 + mc) (k2 + ms) Q (pc + 3) lo (vI 0 :: st)) : GW G p l e R0 s m args below meth c nL z n sh R I J k1 k2 Q (pc) lo (st0) :=
  gw_callSN C hM d hw hq hd hR hk hst hst0 (fun _ _ _ _ h => h.elim) (fun v z' I' J' h => by
    obtain ⟨⟨h1, rfl⟩ | ⟨h1, rfl⟩, rfl, rfl⟩ := h
    · exact kt h1 z'
    · exact kf h1 z')
theorem gw_throwW (C : gC G p l s m args meth c cc nL own ret nm) {Qs : Option GV → Nat → GI → GI → Prop} {Xs : String → Nat → GI → GI → Prop} {mc ms : Nat} {cls text : String} {ik is ic : Nat} (ht : ∀ x ∈ c.exceptionTable.toList, False) (hcls : Bundle.fit cls = true) (hnames : ∀ n ∈ gEx, Bundle.fit n = true) (hk : Cond.classLink own ik cls ∈ GA) (hini : Cond.initialized cls ∈ GA) (hstr : (own, is, text) ∈ gStr) (hat1 : ∀ w ∈ (vx_atS own ic cls gEx).filter goodWord, w ∈ GA) (hat2 : ∀ w ∈ (vx_atS own ic cls gEx).filter (fun w => !goodWord w), w ∈ Cond.castable cls cls :: gDecl.map Cond.declares) (hca : (cls, cls) ∈ gCast) (hgood : ∀ w ∈ Cond.classLink own ik cls :: Cond.initialized cls :: vx_atS own ic cls gEx, vx_ot w = true)
    (d0 : decode cc pc = .ok (.new ik, 3)) (d3 : decode cc (pc + 3) = .ok (.dup, 1)) (d4 : decode cc (pc + 4) = .ok (.ldc_w is, 3)) (d7 : decode cc (pc + 7) = .ok (.invokespecial ic, 3)) (d10 : decode cc (pc + 10) = .ok (.athrow, 1))
    (hfr : 5 < R0.frames) (hlo : ((st.map (cv G.1)).map fun v => v.category).sum + 82 ≤ R0.locals) (hc1 : k1 + 1 ≤ R0.cells) (hc2 : k2 + 6 ≤ R0.slots) (hm1 : k1 + 1 ≤ mc) (hm2 : k2 + 6 ≤ ms) (hX : ∀ z' : Nat, Xs cls z' I J) : GW G p l e R0 s m args below meth c nL z n sh R I J k1 k2 (vx_MQ below (GQ G n sh R Qs) (GX G n sh R Xs) args s mc ms (ge G)) (pc) lo (st) := by
  intro H locs ls hP hS hz hi hl
  have hts := C.1.2.2.2.2
  have hRO := C.2.2.2.2.2.1
  obtain ⟨sa, hsa⟩ := hRO.2.2.2.1 _ hstr
  refine vx_throwSW C.1.1 C.1.2.1 C.2.2.2.1 C.1.2.2.2.1 hcls hnames (hts _ hk) (hts _ hini) hsa (vx_hat (B := Cond.castable cls cls :: gDecl.map Cond.declares) (fun w h => hts _ (hat1 w h)) hat2 (fun w h => by
    rcases List.mem_cons.mp h with rfl | h
    · exact va_Nw.use rfl (hRO.2.2.2.2.2.2.1 _ hca)
    · obtain ⟨q, hq, rfl⟩ := List.mem_map.mp h
      exact va_Nw.use rfl (hRO.2.2.2.2.2.2.2.2.2 _ hq))) hgood hRO.1.1 hRO.1.2 hS (hl.1.trans C.1.2.2.1.symm) d0 d3 d4 d7 d10 (fun x hx => (ht x hx).elim) hfr hlo hc1 hc2 C.2.2.1 (fun t hv h1 h2 => ?_) hS.2.2 hm1 hm2
  refine ⟨⟨t.heap.size - G.1, I, J, hX _, hP.kept (fun k q hq => h2 _ (hP k q hq).lt), by omega, hi⟩, Nat.le_trans hS.1 h1, fun q h3 h4 => ?_⟩
  rw [h2 q (Nat.lt_of_lt_of_le h3 hS.1)]
  exact hS.2.1 q h3 h4
end GR1
