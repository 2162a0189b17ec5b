section GR67
variable {G : GG} {p : Program} {l : Launch} {e : Env} {R0 : Room} {s : State} {m : MethodId} {args : Array Value} {below : List Frame} {meth : Method} {c : Code} {cc : ByteArray} {nL z n : Nat} {sh : GSh} {R : GR} {I J : GI} {k1 k2 pc : Nat} {Q : State → Prop} {lo : List (Option GV)} {st : List GV} {own nm Cn : String} {ret : Option FieldType} {a9 : Nat} {f9 : Nat → Int}
def GH (a9 : Nat) (f9 : Nat → Int) (G : GG) (p : Program) (l : Launch) (e : Env) (R0 : Room) (s : State) (m : MethodId) (args : Array Value) (below : List Frame) (meth : Method) (c : Code) (nL : Nat) (z n : Nat) (sh : GSh) (R : GR) (I J : GI) (k1 k2 : Nat) (Q : State → Prop) (pc : Nat) (lo : List (Option GV)) (st : List GV) : Prop :=
  ∀ (H : Heap) (locs : List Loc) (ls : Array Slot), va_P G.2.1 vwCl (gW G n sh R I J) H → (H[a9]? = some (arrV (G.2.2.1 0) 6 (fun j => .int (Int32.ofInt (f9 j)))) ∧ G.1 + n ≤ a9) → va_S (ge G) s.heap H locs → H.size = G.1 + z → gIn I → gL G ls nL lo → W p l e R0 s m args below meth c H locs k1 k2 Q (F0 m pc ls (st.map (cv G.1)))
theorem gh_out (k : GW G p l e R0 s m args below meth c nL z n sh R I J k1 k2 Q pc lo st) : GH a9 f9 G p l e R0 s m args below meth c nL z n sh R I J k1 k2 Q pc lo st := fun H locs ls hP _ hS hz hi hl => k H locs ls hP hS hz hi hl
theorem gh_new (C : gC G p l s m args meth c cc nL own ret nm) (d : decode cc pc = .ok (.newarray .int, 2)) (hk1 : k1 + 1 ≤ R0.cells) (hk2 : k2 + 6 ≤ R0.slots) (k : GH (G.1 + z) (fun _ => 0) G p l e R0 s m args below meth c nL (z + 1) n sh R I J (k1 + 1) (k2 + 6) Q (pc + 2) lo (vA (G.1 + z) :: st)) : GW G p l e R0 s m args below meth c nL z n sh R I J k1 k2 Q pc lo (vI 6 :: st) := by
  intro H locs ls hP hS hz hi hl
  have hts := C.1.2.2.2.2
  refine va_newaK (atype := .int) C.1.1 C.1.2.1 (hts _ a_int) rfl d (n := Int32.ofInt 6) (N := 6) rfl (by decide) (by decide) (by decide) hk1 hk2 rfl fun H1 cA e1 z1 o1 hAr hNm => ?_
  have hRA := (C.2.2.2.2.1.2 0 _ rfl).2
  have hcA : cA = G.2.2.1 0 := Option.some.inj (hNm.symm.trans hRA)
  have hn : n ≤ z := by
    rcases Nat.eq_zero_or_pos n with h | h
    · omega
    · have := (hP (n - 1) _ (gW_get (by omega))).lt
      have h2 : G.1 + (n - 1) < H.size := this
      omega
  have h := k H1 locs ls (hP.kept (fun j q hq => o1 _ (hP j q hq).lt)) ⟨by rw [← hz, e1, hcA]; rfl, by omega⟩ (gS_push hS z1 o1) (by omega) hi hl
  rw [← hz] at h
  exact h
theorem gh_ialdA (C : gC G p l s m args meth c cc nL own ret nm) {i : Int} (q : Nat) (d : decode cc pc = .ok (.iaload, 1)) (hq : i = (q : Int)) (hlt : q < 6) (k : GH a9 f9 G p l e R0 s m args below meth c nL z n sh R I J k1 k2 Q (pc + 1) lo (vI (f9 q) :: st)) : GH a9 f9 G p l e R0 s m args below meth c nL z n sh R I J k1 k2 Q pc lo (vI i :: vA a9 :: st) := by
  intro H locs ls hP hA9 hS hz hi hl
  obtain ⟨o1, o2⟩ := oi_in hq hlt (by decide)
  refine W.iald (v := .int (Int32.ofInt (f9 q))) C.1.1 C.1.2.1 hA9.1 ((C.2.2.2.2.1.2 0 _ rfl).1 6 (fun j => .int (Int32.ofInt (f9 j)))) (fun q => by cases q) (by show ¬ (_ ∨ (arrV _ _ _).slots.size ≤ _); rw [arrV_size]; exact o1) (by show (arrV _ _ _).slots[_]? = _; rw [o2, arrV_read _ _ hlt]) rfl rfl d ?_
  exact k H locs ls hP hA9 hS hz hi hl
theorem gh_iastA (C : gC G p l s m args meth c cc nL own ret nm) {i x : Int} (q : Nat) (d : decode cc pc = .ok (.iastore, 1)) (hq : i = (q : Int)) (hlt : q < 6) (k : GH a9 (us f9 q x) G p l e R0 s m args below meth c nL z n sh R I J k1 k2 Q (pc + 1) lo st) : GH a9 f9 G p l e R0 s m args below meth c nL z n sh R I J k1 k2 Q pc lo (vI x :: vI i :: vA a9 :: st) := by
  intro H locs ls hP hA9 hS hz hi hl
  obtain ⟨o1, o2⟩ := oi_in hq hlt (by decide)
  refine W.iast C.1.1 C.1.2.1 hA9.1 ((C.2.2.2.2.1.2 0 _ rfl).1 6 (fun j => .int (Int32.ofInt (f9 j)))) (fun q => by cases q) (by show ¬ (_ ∨ (arrV _ _ _).slots.size ≤ _); rw [arrV_size]; exact o1) rfl rfl d fun H1 e1 e2 e3 => ?_
  rw [o2] at e1 ⊢
  refine k H1 _ ls (hP.kept (fun j w hw => e3 _ (Nat.ne_of_lt (by
    obtain ⟨h1, h2⟩ := gW_some hw
    have h3 : w.1 = G.1 + j := by rw [h2]
    have h4 := hA9.2
    show w.1 < a9
    omega)))) ⟨?_, hA9.2⟩ (hS.put e2 e3 (by have := hA9.2; show G.1 ≤ a9; omega)) (e2.trans hz) hi hl
  rw [e1, arrV_store]
  congr 2
  funext j
  by_cases hj : j = q
  · subst hj
    simp only [updV, us, if_true]
  · simp only [updV, us, if_neg hj]
theorem gh_iast (C : gC G p l s m args meth c cc nL own ret nm) {i : Int} {r len : Nat} {x : Int} (q : Nat) (d : decode cc pc = .ok (.iastore, 1)) (hs : sh r = .inr (0, len)) (hr : r < n) (hq : i = (q : Int)) (hlt : q < len) (hlen : len < 2147483648) (hx : inI x) (k : GH a9 f9 G p l e R0 s m args below meth c nL z n sh R (up I r q x) J k1 k2 Q (pc + 1) lo (st)) : GH a9 f9 G p l e R0 s m args below meth c nL z n sh R I J k1 k2 Q (pc) lo (vI x :: vI i :: vR r :: st) := by
  intro H locs ls hP hA9 hS hz hi hl
  have he := gW_get (G := G) (sh := sh) (R := R) (I := I) (J := J) hr
  rw [hs] at he
  obtain ⟨o1, o2⟩ := oi_in hq hlt hlen
  refine W.iast C.1.1 C.1.2.1 (hP r _ he) ((C.2.2.2.2.1.2 0 _ rfl).1 len (fun j => .int (Int32.ofInt (I r j)))) (fun q => by cases q) (by show ¬ (_ ∨ (arrV _ _ _).slots.size ≤ _); rw [arrV_size]; exact o1) rfl rfl d fun H1 e1 e2 e3 => ?_
  rw [o2] at e1 ⊢
  have hP2 := hP.set gW_D he (e := gE G.1 G.2.2.1 (.inr (0, len)) (R r) ((up I r q x) r) (J r)) ?_ e3
  · rw [gW_set (R' := R) (I' := (up I r q x)) (J' := J) ?_ ?_ ?_ ?_] at hP2
    · exact k H1 _ ls hP2 ⟨(e3 a9 (Nat.ne_of_gt (by have := hA9.2; show G.1 + r < a9; omega))).trans hA9.1, hA9.2⟩ (hS.put e2 e3 (Nat.le_add_right _ _)) (e2.trans hz) (gIn_up hi hx) hl
    · rw [hs]
    · intro a ha; rfl
    · intro a ha; first | rfl | exact up_ne ha
    · intro a ha; first | rfl | exact up_ne ha
  · show H1[G.1 + r]? = some (vp_cell (G.2.2.1 0) (len, gA G.1 0 (R r) ((up I r q x) r) (J r)))
    have e0 : H1[G.1 + r]? = some ((vp_cell (G.2.2.1 0) (len, gA G.1 0 (R r) (I r) (J r))).setSlot q _) := e1
    rw [e0, vpc0, vpc0, arrV_store]
    congr 2
    funext j
    by_cases hj : j = q
    · subst hj
      simp only [updV, up_eq, if_true]
    · simp only [updV, up_ne2 hj, if_neg hj]
theorem gh_iconst (C : gC G p l s m args meth c cc nL own ret nm) {x : Int} (d : decode cc pc = .ok (.iconst x, 1)) (k : GH a9 f9 G p l e R0 s m args below meth c nL z n sh R I J k1 k2 Q (pc + 1) lo (vI x :: st)) : GH a9 f9 G p l e R0 s m args below meth c nL z n sh R I J k1 k2 Q (pc) lo (st) := fun H locs ls hP hA9 hS hz hi hl => lv_iconst C.1.1 C.1.2.1 d rfl (k H locs ls hP hA9 hS hz hi hl)
theorem gh_bipush (C : gC G p l s m args meth c cc nL own ret nm) {x : Int} (d : decode cc pc = .ok (.bipush x, 2)) (hv : (Int8.ofInt x).toInt32 = Int32.ofInt x) (k : GH a9 f9 G p l e R0 s m args below meth c nL z n sh R I J k1 k2 Q (pc + 2) lo (vI x :: st)) : GH a9 f9 G p l e R0 s m args below meth c nL z n sh R I J k1 k2 Q (pc) lo (st) := fun H locs ls hP hA9 hS hz hi hl => lv_bipush C.1.1 C.1.2.1 d hv (k H locs ls hP hA9 hS hz hi hl)
theorem gh_iload (C : gC G p l s m args meth c cc nL own ret nm) {i : Nat} {x : Int} (d : decode cc pc = .ok (.iload i, 2)) (h : lo[i]? = some (some (vI x))) (k : GH a9 f9 G p l e R0 s m args below meth c nL z n sh R I J k1 k2 Q (pc + 2) lo (vI x :: st)) : GH a9 f9 G p l e R0 s m args below meth c nL z n sh R I J k1 k2 Q (pc) lo (st) := fun H locs ls hP hA9 hS hz hi hl => lv_iload C.1.1 C.1.2.1 d (hl.2.2 _ _ h) (k H locs ls hP hA9 hS hz hi hl)
theorem gh_iload_n (C : gC G p l s m args meth c cc nL own ret nm) {q : Fin 4} {x : Int} (i : Nat) (d : decode cc pc = .ok (.iload_n q, 1)) (hq : (q : Nat) = i) (h : lo[i]? = some (some (vI x))) (k : GH a9 f9 G p l e R0 s m args below meth c nL z n sh R I J k1 k2 Q (pc + 1) lo (vI x :: st)) : GH a9 f9 G p l e R0 s m args below meth c nL z n sh R I J k1 k2 Q (pc) lo (st) := fun H locs ls hP hA9 hS hz hi hl => lv_iload_n C.1.1 C.1.2.1 d hq (hl.2.2 _ _ h) (k H locs ls hP hA9 hS hz hi hl)
theorem gh_aload (C : gC G p l s m args meth c cc nL own ret nm) {i : Nat} {x : Nat} (d : decode cc pc = .ok (.aload i, 2)) (h : lo[i]? = some (some (vR x))) (k : GH a9 f9 G p l e R0 s m args below meth c nL z n sh R I J k1 k2 Q (pc + 2) lo (vR x :: st)) : GH a9 f9 G p l e R0 s m args below meth c nL z n sh R I J k1 k2 Q (pc) lo (st) := fun H locs ls hP hA9 hS hz hi hl => lv_aload C.1.1 C.1.2.1 d (hl.2.2 _ _ h) (k H locs ls hP hA9 hS hz hi hl)
theorem gh_aload_n (C : gC G p l s m args meth c cc nL own ret nm) {q : Fin 4} {x : Nat} (i : Nat) (d : decode cc pc = .ok (.aload_n q, 1)) (hq : (q : Nat) = i) (h : lo[i]? = some (some (vR x))) (k : GH a9 f9 G p l e R0 s m args below meth c nL z n sh R I J k1 k2 Q (pc + 1) lo (vR x :: st)) : GH a9 f9 G p l e R0 s m args below meth c nL z n sh R I J k1 k2 Q (pc) lo (st) := fun H locs ls hP hA9 hS hz hi hl => lv_aload_n C.1.1 C.1.2.1 d hq (hl.2.2 _ _ h) (k H locs ls hP hA9 hS hz hi hl)
theorem gh_aloadA (C : gC G p l s m args meth c cc nL own ret nm) {i : Nat} {x : Nat} (d : decode cc pc = .ok (.aload i, 2)) (h : lo[i]? = some (some (vA x))) (k : GH a9 f9 G p l e R0 s m args below meth c nL z n sh R I J k1 k2 Q (pc + 2) lo (vA x :: st)) : GH a9 f9 G p l e R0 s m args below meth c nL z n sh R I J k1 k2 Q (pc) lo (st) := fun H locs ls hP hA9 hS hz hi hl => lv_aload C.1.1 C.1.2.1 d (hl.2.2 _ _ h) (k H locs ls hP hA9 hS hz hi hl)
theorem gh_astoreA (C : gC G p l s m args meth c cc nL own ret nm) {x : Nat} {lo1 : List (Option GV)} {i : Nat} (d : decode cc pc = .ok (.astore i, 2)) (hn : i < nL) (hlo : gSet lo i (vA x) = lo1) (k : GH a9 f9 G p l e R0 s m args below meth c nL z n sh R I J k1 k2 Q (pc + 2) lo1 (st)) : GH a9 f9 G p l e R0 s m args below meth c nL z n sh R I J k1 k2 Q (pc) lo (vA x :: st) := by
  intro H locs ls hP hA9 hS hz hi hl
  obtain ⟨ls', e', h'⟩ := gL_store1 (v := vA x) hl hn rfl
  rw [hlo] at h'
  have k' := k H locs ls' hP hA9 hS hz hi h'
  have hx := C.1.1
  have hb := C.1.2.1
  have e2 : storeLocals ls i (cv G.1 (vA x)) = some ls' := e'
  intro T hT X
  obtain ⟨t, a, b⟩ := k' T hT X
  refine ⟨t, ?_, b⟩
  skip
  simp only [cv, va_rf, Option.map] at e2
  simp only [List.map_cons, cv, va_rf, Option.map]
  jvm_step X.here [X.here.top, ↓top_set X.here.top, hx, hb, d, e2]
  first | exact a | exact ⟨rfl, a⟩
theorem gh_istore (C : gC G p l s m args meth c cc nL own ret nm) {x : Int} {lo1 : List (Option GV)} {i : Nat} (d : decode cc pc = .ok (.istore i, 2)) (hn : i < nL) (hlo : gSet lo i (vI x) = lo1) (k : GH a9 f9 G p l e R0 s m args below meth c nL z n sh R I J k1 k2 Q (pc + 2) lo1 (st)) : GH a9 f9 G p l e R0 s m args below meth c nL z n sh R I J k1 k2 Q (pc) lo (vI x :: st) := by
  intro H locs ls hP hA9 hS hz hi hl
  obtain ⟨ls', e', h'⟩ := gL_store1 (v := vI x) hl hn rfl
  rw [hlo] at h'
  have k' := k H locs ls' hP hA9 hS hz hi h'
  have hx := C.1.1
  have hb := C.1.2.1
  have e2 : storeLocals ls i (cv G.1 (vI x)) = some ls' := e'
  intro T hT X
  obtain ⟨t, a, b⟩ := k' T hT X
  refine ⟨t, ?_, b⟩
  skip
  simp only [cv, va_rf, Option.map] at e2
  simp only [List.map_cons, cv, va_rf, Option.map]
  jvm_step X.here [X.here.top, ↓top_set X.here.top, hx, hb, d, e2]
  first | exact a | exact ⟨rfl, a⟩
theorem gh_imul (C : gC G p l s m args meth c cc nL own ret nm) {x y : Int} (d : decode cc pc = .ok (.imul, 1)) (k : GH a9 f9 G p l e R0 s m args below meth c nL z n sh R I J k1 k2 Q (pc + 1) lo (vI (x * y) :: st)) : GH a9 f9 G p l e R0 s m args below meth c nL z n sh R I J k1 k2 Q (pc) lo (vI y :: vI x :: st) := fun H locs ls hP hA9 hS hz hi hl => lv_imul C.1.1 C.1.2.1 d (by rw [← Int32.ofInt_mul]; exact k H locs ls hP hA9 hS hz hi hl)
theorem gh_iadd (C : gC G p l s m args meth c cc nL own ret nm) {x y : Int} (d : decode cc pc = .ok (.iadd, 1)) (k : GH a9 f9 G p l e R0 s m args below meth c nL z n sh R I J k1 k2 Q (pc + 1) lo (vI (x + y) :: st)) : GH a9 f9 G p l e R0 s m args below meth c nL z n sh R I J k1 k2 Q (pc) lo (vI y :: vI x :: st) := fun H locs ls hP hA9 hS hz hi hl => lv_iadd C.1.1 C.1.2.1 d (by rw [← Int32.ofInt_add]; exact k H locs ls hP hA9 hS hz hi hl)
theorem gh_iinc (C : gC G p l s m args meth c cc nL own ret nm) {i : Nat} {x a : Int} {lo1 : List (Option GV)} (d : decode cc pc = .ok (.iinc i a, 3)) (h : lo[i]? = some (some (vI x))) (hn : i < nL) (hlo : gSet lo i (vI (x + a)) = lo1) (k : GH a9 f9 G p l e R0 s m args below meth c nL z n sh R I J k1 k2 Q (pc + 3) lo1 (st)) : GH a9 f9 G p l e R0 s m args below meth c nL z n sh R I J k1 k2 Q (pc) lo (st) := by
  intro H locs ls hP hA9 hS hz hi hl
  obtain ⟨ls', e', h'⟩ := gL_store1 (v := vI (x + a)) hl hn rfl
  rw [hlo] at h'
  have k' := k H locs ls' hP hA9 hS hz hi h'
  have hx := C.1.1
  have hb := C.1.2.1
  have hg : ls[i]? = some (.val (.int (Int32.ofInt x))) := hl.2.2 i _ h
  have e2 : storeLocals ls i (.int (Int32.ofInt x + Int32.ofInt a)) = some ls' := by rw [← Int32.ofInt_add]; exact e'
  intro T hT X
  obtain ⟨t, a1, b⟩ := k' T hT X
  refine ⟨t, ?_, b⟩
  jvm_step X.here [X.here.top, ↓top_set X.here.top, hx, hb, d, hg, e2]
  exact a1
theorem gh_goto (C : gC G p l s m args meth c cc nL own ret nm) {off : Int} {tgt : Nat} (d : decode cc pc = .ok (.goto off, 3)) (ht : (pc : Int) + off = (tgt : Int)) (k : GH a9 f9 G p l e R0 s m args below meth c nL z n sh R I J k1 k2 Q (tgt) lo (st)) : GH a9 f9 G p l e R0 s m args below meth c nL z n sh R I J k1 k2 Q (pc) lo (st) := fun H locs ls hP hA9 hS hz hi hl => lv_goto C.1.1 C.1.2.1 d ht (k H locs ls hP hA9 hS hz hi hl)
theorem gh_iald (C : gC G p l s m args meth c cc nL own ret nm) {i : Int} {r len : Nat} (q : Nat) (d : decode cc pc = .ok (.iaload, 1)) (hs : sh r = .inr (0, len)) (hr : r < n) (hq : i = (q : Int)) (hlt : q < len) (hlen : len < 2147483648) (k : inI (I r q) → GH a9 f9 G p l e R0 s m args below meth c nL z n sh R I J k1 k2 Q (pc + 1) lo (vI (I r q) :: st)) : GH a9 f9 G p l e R0 s m args below meth c nL z n sh R I J k1 k2 Q (pc) lo (vI i :: vR r :: st) := by
  intro H locs ls hP hA9 hS hz hi hl
  have he := gW_get (G := G) (sh := sh) (R := R) (I := I) (J := J) hr
  rw [hs] at he
  obtain ⟨o1, o2⟩ := oi_in hq hlt hlen
  refine va_iald C.1.1 C.1.2.1 C.2.2.2.2.1 hP r 0 he rfl o1 d ?_
  rw [o2]
  exact k (hi _ _) H locs ls hP hA9 hS hz hi hl
theorem gh_icmp_ge (C : gC G p l s m args meth c cc nL own ret nm) {x y : Int} {off : Int} {tgt : Nat} (d : decode cc pc = .ok (.if_icmp .ge off, 3)) (ht : (pc : Int) + off = (tgt : Int)) (hx : inI x) (hy : inI y) (kt : y ≤ x → GH a9 f9 G p l e R0 s m args below meth c nL z n sh R I J k1 k2 Q (tgt) lo (st)) (kf : x < y → GH a9 f9 G p l e R0 s m args below meth c nL z n sh R I J k1 k2 Q (pc + 3) lo (st)) : GH a9 f9 G p l e R0 s m args below meth c nL z n sh R I J k1 k2 Q (pc) lo (vI y :: vI x :: st) := fun H locs ls hP hA9 hS hz hi hl => lv_icmp_ge C.1.1 C.1.2.1 d ht (fun q => kt ((oi_le hy hx).mp q) H locs ls hP hA9 hS hz hi hl) (fun q => kf (Int.not_le.mp (fun h => q ((oi_le hy hx).mpr (by omega)))) H locs ls hP hA9 hS hz hi hl)
end GR67
