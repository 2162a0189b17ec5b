theorem w_wi {S : Nat → Int} {w : Nat} {a c1 c2 c3 : Int} (h : (w : Int) < S 3) (ha : 0 ≤ a ∧ a ≤ 5) : cdV (kWire S (w : Int) a) (rWire S (w : Int).toNat a) c1 c2 c3 = rWire S w a := cdV_0 (by unfold kWire; rw [if_neg (by omega), if_neg (by omega)])
theorem w_wi2 {S : Nat → Int} {w : Nat} {a c1 c2 c3 : Int} (h : (w : Int) < S 3) (ha : a = 6) : cdV (kWire S (w : Int) a) (rWire S (w : Int).toNat a) c1 c2 c3 = c2 := cdV_2 (by unfold kWire; rw [if_neg (by omega), if_pos (by omega)])
theorem w_jo {S : Nat → Int} {k : Nat} {a c1 c2 c3 : Int} (h : (k : Int) < S 4) (ha : 0 ≤ a ∧ a ≤ 7) : cdV (kJoinOf S (k : Int) a) (rJoinOf S (k : Int).toNat a) c1 c2 c3 = rJoinOf S k a := cdV_0 (by unfold kJoinOf; rw [if_neg (by omega), if_neg (by omega)])
theorem w_jo2 {S : Nat → Int} {k : Nat} {a c1 c2 c3 : Int} (h : (k : Int) < S 4) (ha : a = 8) : cdV (kJoinOf S (k : Int) a) (rJoinOf S (k : Int).toNat a) c1 c2 c3 = c2 := cdV_2 (by unfold kJoinOf; rw [if_neg (by omega), if_pos (by omega)])
theorem w_tr {S : Nat → Int} {t : Nat} {a c1 c2 c3 : Int} (h : (t : Int) < S 5) (ha : 0 ≤ a ∧ a ≤ 9) : cdV (kTrav S (t : Int) a) (rTrav S (t : Int).toNat a) c1 c2 c3 = rTrav S t a := cdV_0 (by unfold kTrav; rw [if_neg (by omega), if_neg (by omega)])
theorem w_tr2 {S : Nat → Int} {t : Nat} {a c1 c2 c3 : Int} (h : (t : Int) < S 5) (ha : a = 10) : cdV (kTrav S (t : Int) a) (rTrav S (t : Int).toNat a) c1 c2 c3 = c2 := cdV_2 (by unfold kTrav; rw [if_neg (by omega), if_pos (by omega)])
theorem w_lg {S : Nat → Int} {t k : Nat} {a c1 c2 c3 : Int} (h : (t : Int) < S 5) (hk : (k : Int) < S (103 + 28 * t)) (ha : 0 ≤ a ∧ a ≤ 4) : cdV (kLeg S (t : Int) (k : Int) a) (rLeg S (t : Int).toNat (k : Int).toNat a) c1 c2 c3 = rLeg S t k a := cdV_0 (by unfold kLeg; rw [show ((t : Nat) : Int).toNat = t from rfl]; rw [if_neg (by omega), if_neg (by omega)])
theorem w_lg2 {S : Nat → Int} {t k : Nat} {a c1 c2 c3 : Int} (h : (t : Int) < S 5) (hk : (k : Int) < S (103 + 28 * t)) (ha : a = 5) : cdV (kLeg S (t : Int) (k : Int) a) (rLeg S (t : Int).toNat (k : Int).toNat a) c1 c2 c3 = c2 := cdV_2 (by unfold kLeg; rw [show ((t : Nat) : Int).toNat = t from rfl]; rw [if_neg (by omega), if_pos (by omega)])
theorem w_wi1 {S : Nat → Int} {w a c1 c2 c3 r : Int} (h : ¬ w < S 3) : cdV (kWire S w a) r c1 c2 c3 = c1 := cdV_1 (by unfold kWire; rw [if_pos (by omega)])
theorem w_jo1 {S : Nat → Int} {w a c1 c2 c3 r : Int} (h : ¬ w < S 4) : cdV (kJoinOf S w a) r c1 c2 c3 = c1 := cdV_1 (by unfold kJoinOf; rw [if_pos (by omega)])
theorem w_tr1 {S : Nat → Int} {w a c1 c2 c3 r : Int} (h : ¬ w < S 5) : cdV (kTrav S w a) r c1 c2 c3 = c1 := cdV_1 (by unfold kTrav; rw [if_pos (by omega)])
theorem w_lg1 {S : Nat → Int} {w q a c1 c2 c3 r : Int} (h : ¬ (w < S 5 ∧ q < S (103 + 28 * w.toNat))) : cdV (kLeg S w q a) r c1 c2 c3 = c1 := cdV_1 (by unfold kLeg; rw [if_pos (by omega)])
theorem w_tb1 {S : Nat → Int} {w c1 c2 c3 r : Int} (h : ¬ w < S 5) : cdV (kTrb S w) r c1 c2 c3 = c1 := cdV_1 (by unfold kTrb; rw [if_pos (by omega)])
theorem w_tb {S : Nat → Int} {t : Nat} {v c1 c2 c3 : Int} (h : (t : Int) < S 5) : cdV (kTrb S (t : Int)) (rTrb S (t : Int).toNat v) c1 c2 c3 = rTrb S t v := cdV_0 (by unfold kTrb; rw [if_neg (by omega)])
theorem w_in {S : Nat → Int} {a c1 c2 c3 : Int} (ha : 0 ≤ a ∧ a ≤ 7) : cdV (kInfo a) (rInfo S a) c1 c2 c3 = rInfo S a := cdV_0 (by unfold kInfo; rw [if_pos ha])
theorem w_in1 {S : Nat → Int} {a c1 c2 c3 r : Int} (ha : ¬ (0 ≤ a ∧ a ≤ 7)) : cdV (kInfo a) r c1 c2 c3 = c1 := cdV_1 (by unfold kInfo; rw [if_neg ha])
theorem rLeg_n {S : Nat → Int} {t k : Nat} {a : Int} (ha : 2 ≤ a) (hj : sJ S (S (102 + 28 * t)).toNat ≠ 0) : rLeg S t k a = -2000000000 := by
  unfold rLeg
  rw [if_neg (by omega), if_neg (by omega), if_neg (fun q => hj (sTT_5.mp q).2)]
theorem rLeg_y {S : Nat → Int} {t k : Nat} (hk : (k : Int) < S (103 + 28 * t)) (hj : sJ S (S (102 + 28 * t)).toNat = 0) : rLeg S t k 2 = sBr S t (k + 1) ∧ rLeg S t k 3 = sEa S t (k + 1) ∧ rLeg S t k 4 = sNo S t (k + 1) := by
  have h : sTT S t ≠ 5 ∧ sTT S t ≠ 6 := sTT_5.mpr ⟨by omega, hj⟩
  refine ⟨?_, ?_, ?_⟩ <;> (unfold rLeg; rw [if_neg (by decide), if_neg (by decide), if_pos h]) <;> rfl
theorem tr_cases {S : Nat → Int} (ho : Oks S) {t : Nat} (htt : (t : Int) < S 5) : (sTT S t = 5 ∧ S (104 + 28 * t) < 0) ∨ (sTT S t = 6 ∧ S (104 + 28 * t) < 0 ∧ sJ S (S (102 + 28 * t)).toNat ≠ 0) ∨ (sTT S t = 6 ∧ 0 ≤ S (104 + 28 * t) ∧ sJ S (S (102 + 28 * t)).toNat ≠ 0) ∨ (sTT S t = 7 ∧ 0 ≤ S (104 + 28 * t) ∧ sJ S (S (104 + 28 * t)).toNat ≠ 0) ∨ (sTT S t = 8 ∧ 0 ≤ S (104 + 28 * t)) ∨ (sTT S t = 0 ∧ S (104 + 28 * t) < 0) ∨ (sTT S t = 0 ∧ 0 ≤ S (104 + 28 * t)) := by
  have h9 := okT ho htt
  have e6 : sTT S t = 6 → sJ S (S (102 + 28 * t)).toNat ≠ 0 := sTT_67.1
  have e7 : sTT S t = 7 → 0 ≤ S (104 + 28 * t) ∧ sJ S (S (104 + 28 * t)).toNat ≠ 0 := sTT_67.2.1
  have e8 : sTT S t = 8 → 0 ≤ S (104 + 28 * t) := by
    intro h
    rcases Int.lt_or_le (S (104 + 28 * t)) 0 with g | g
    · unfold sTT at h
      (repeat' split at h) <;> first | exact absurd h (by decide) | omega
    · exact g
  have e5 : sTT S t = 5 → S (103 + 28 * t) = 0 := by
    intro h
    unfold sTT at h
    split at h
    · assumption
    · (repeat' split at h) <;> exact absurd h (by decide)
  rcases sTT_v S t with h | h | h | h | h
  · rcases Int.lt_or_le (S (104 + 28 * t)) 0 with g | g
    · exact Or.inr (Or.inr (Or.inr (Or.inr (Or.inr (Or.inl ⟨h, g⟩)))))
    · exact Or.inr (Or.inr (Or.inr (Or.inr (Or.inr (Or.inr ⟨h, g⟩)))))
  · have := e5 h
    refine Or.inl ⟨h, ?_⟩
    rcases Int.lt_or_le (S (104 + 28 * t)) 0 with g | g
    · exact g
    · have := (h9.2.1 g).2; omega
  · rcases Int.lt_or_le (S (104 + 28 * t)) 0 with g | g
    · exact Or.inr (Or.inl ⟨h, g, e6 h⟩)
    · exact Or.inr (Or.inr (Or.inl ⟨h, g, e6 h⟩))
  · exact Or.inr (Or.inr (Or.inr (Or.inl ⟨h, e7 h⟩)))
  · exact Or.inr (Or.inr (Or.inr (Or.inr (Or.inl ⟨h, e8 h⟩))))
theorem jlS_2 {S : Nat → Int} {j : Nat} (h : sJ S j = 3) : jlS S 2 j = sC S j := by
  unfold jlS
  rw [if_neg (by decide), if_pos ⟨rfl, (sJ_c9 S j).1.mp h⟩]
theorem jlS_n {S : Nat → Int} {j : Nat} (h : sJ S j ≠ 3) : jlS S 2 j = -2000000000 := by
  unfold jlS
  rw [if_neg (by decide), if_neg (fun q => h ((sJ_c9 S j).1.mpr q.2))]
theorem jlS_o {S : Nat → Int} {j : Nat} {v : Int} (h : v ≠ 1 ∧ v ≠ 2) : jlS S v j = -2000000000 := by
  unfold jlS
  rw [if_neg h.1, if_neg (fun q => h.2 q.1)]
theorem rTrb_6 {S : Nat → Int} {t : Nat} {v : Int} (h : sTT S t = 6) (hv : v ≠ 0) : rTrb S t v = jlS S v (S (102 + 28 * t)).toNat := by
  unfold rTrb
  rw [if_neg hv, if_pos h]
theorem rTrb_7 {S : Nat → Int} {t : Nat} {v : Int} (h : sTT S t = 7) (hv : v ≠ 0) : rTrb S t v = jlS S v (S (104 + 28 * t)).toNat := by
  unfold rTrb
  rw [if_neg hv, if_neg (by omega), if_pos h]
theorem rTrb_o {S : Nat → Int} {t : Nat} {v : Int} (h : sTT S t ≠ 6 ∧ sTT S t ≠ 7) (hv : v ≠ 0) : rTrb S t v = -2000000000 := by
  unfold rTrb
  rw [if_neg hv, if_neg h.1, if_neg h.2]
theorem rTrb_z {S : Nat → Int} {t : Nat} : (sTT S t = 0 → rTrb S t 0 = -2000000000) ∧ (sTT S t ≠ 0 → rTrb S t 0 = sTT S t) := by
  unfold rTrb
  rw [if_pos rfl]
  exact ⟨fun h => by rw [if_pos h], fun h => by rw [if_neg h]⟩
theorem rTr_w {S : Nat → Int} {t : Nat} (h : whl S t) : rTrav S t 5 = sG S t ∧ rTrav S t 7 = sME S t ∧ rTrav S t 8 = sMN S t ∧ rTrav S t 9 = rootZ (sME S t * sME S t + sMN S t * sMN S t) := by
  refine ⟨?_, ?_, ?_, ?_⟩ <;> (unfold rTrav; (repeat rw [if_neg (by decide)]); rw [if_pos h]) <;> rfl
theorem rTr_n {S : Nat → Int} {t : Nat} {a : Int} (h : ¬ whl S t) (ha : a = 5 ∨ 7 ≤ a) : rTrav S t a = -2000000000 := by
  unfold rTrav
  rw [if_neg (by omega), if_neg (by omega), if_neg (by omega), if_neg (by omega), if_neg (by omega), if_neg (by omega), if_neg h]
section GR62
variable {G : GG} {p : Program} {l : Launch} {e : Env} {R0 : Room} {s : State} {m : MethodId} {args : Array Value} {below : List Frame} {meth : Method} {c : Code} {cc : ByteArray} {nL z n : Nat} {sh : GSh} {R : GR} {I J : GI} {k1 k2 pc : Nat} {Q : State → Prop} {lo : List (Option GV)} {st : List GV} {own nm Cn : String} {ret : Option FieldType}
theorem gw_callSHm (C : gC G p l s m args meth c cc nL own ret nm) {as : List GV} {index fr lo9 mc ms : Nat} {y : MethodName} {bytes : ByteArray} {maxL : Nat} {ret9 : Option FieldType} {st0 : List GV} {hh : List (Nat × Nat × Nat × Nat)} {r9 : Option GV} {I1 J1 : GI} (hM : GM l y (.codeWith y bytes maxL ret9 hh) fr lo9 mc ms G n sh R as z I J (memQ r9 I1 J1) gNo) (d : decode cc pc = .ok (.invokestatic index, 3)) (hw : Cond.methodLink own index y ∈ GA) (hq : ∀ w ∈ [Cond.codeWith y bytes maxL ret9 hh, Cond.initialized y.cls, Cond.static y], w ∈ GA) (hd : y.cls ≠ "java/lang/invoke/MethodHandle" ∧ y.cls ≠ "java/lang/invoke/VarHandle" ∧ (parseMethodDescriptor y.desc).map (fun d => d.parameters.length) = some as.length) (hR : fr + 1 ≤ R0.frames ∧ 8 + (maxL + 11) + lo9 ≤ R0.locals) (hk : k1 + mc ≤ R0.cells ∧ k2 + ms ≤ R0.slots) (hst : ((st.map (cv G.1)).map fun v => v.category).sum ≤ 8) (hst0 : st0 = as.reverse ++ st) (kk : ∀ z' : Nat, GW G p l e R0 s m args below meth c nL z' n sh R I1 J1 (k1 + mc) (k2 + ms) Q (pc + 3) lo (r9.toList ++ st)) : GW G p l e R0 s m args below meth c nL z n sh R I J k1 k2 Q (pc) lo (st0) :=
  gw_callSH C hM d hw hq hd hR hk hst hst0 (fun _ _ _ _ h => h.elim) (fun v z' I' J' h => by
    obtain ⟨rfl, rfl, rfl⟩ := h
    exact kk z')
end GR62
