def us (S : Nat → Int) (a : Nat) (x : Int) : Nat → Int := fun k => if k = a then x else S k
theorem us_at {S : Nat → Int} {a k : Nat} {x : Int} (h : k = a) : us S a x k = x := by unfold us; rw [if_pos h]
theorem us_ne {S : Nat → Int} {a k : Nat} {x : Int} (h : k ≠ a) : us S a x k = S k := by unfold us; rw [if_neg h]
theorem up_at {I : GI} {k j a b : Nat} {x : Int} (h : a = k) (g : b = j) : up I k j x a b = x := by subst h g; exact up_eq
theorem up_us (I : GI) (r a : Nat) (x : Int) : up I r a x r = us (I r) a x := by
  funext k
  unfold up us
  rw [if_pos rfl]
def oSet (S : Nat → Int) (w : Nat) (v : Int) : Nat → Int := us S w v
def oHang (S : Nat → Int) (n : Nat) (e o : Int) : Nat → Int := us (us (us (us S (6 + 12 * n) e) (7 + 12 * n) o) (8 + 12 * n) 0) 3 (S 3 + 1)
def oSwing (S : Nat → Int) (w n : Nat) (x : Int) : Nat → Int := us (us S (9 + 12 * w + n) x) (8 + 12 * w) (S (8 + 12 * w) + 1)
def oStill (S : Nat → Int) (w : Nat) : Nat → Int := us S (8 + 12 * w) 0
def oJoin (S : Nat → Int) (n : Nat) (x1 x2 x3 x4 x5 x6 : Int) : Nat → Int := us (us (us (us (us (us (us S (78 + 6 * n) x1) (79 + 6 * n) x2) (80 + 6 * n) x3) (81 + 6 * n) x4) (82 + 6 * n) x5) (83 + 6 * n) x6) 4 (S 4 + 1)
def oMeas (S : Nat → Int) (j : Nat) (g : Int) : Nat → Int := us S (83 + 6 * j) g
def oBegin (S : Nat → Int) (n : Nat) (x : Int) : Nat → Int := us (us (us (us S (102 + 28 * n) x) (103 + 28 * n) 0) (104 + 28 * n) (-1)) 5 (S 5 + 1)
def oAdd (S : Nat → Int) (t n : Nat) (a l : Int) : Nat → Int := us (us (us S (106 + 28 * t + 2 * n) a) (107 + 28 * t + 2 * n) l) (103 + 28 * t) (S (103 + 28 * t) + 1)
def oDrop (S : Nat → Int) (t : Nat) : Nat → Int := us (us S (103 + 28 * t) (S (103 + 28 * t) - 1)) (104 + 28 * t) (-1)
def oClose (S : Nat → Int) (t : Nat) (j a : Int) : Nat → Int := us (us S (104 + 28 * t) j) (105 + 28 * t) a
def hangI (I : GI) (b n : Nat) (e o c : Int) : GI := up (up (up (up I (b + 5 + 2 * n) 0 e) (b + 5 + 2 * n) 1 o) (b + 5 + 2 * n) 2 0) b 1 c
def swingI (I : GI) (r n : Nat) (x c : Int) : GI := up (up I (r + 1) n x) r 2 c
def joinI (I : GI) (b n : Nat) (x1 x2 x3 x4 x5 x6 c : Int) : GI := up (up (up (up (up (up (up I (b + 17 + n) 0 x1) (b + 17 + n) 1 x2) (b + 17 + n) 8 x3) (b + 17 + n) 9 x4) (b + 17 + n) 10 x5) (b + 17 + n) 2 x6) b 2 c
def beginI (I : GI) (b n : Nat) (x c : Int) : GI := up (up (up (up (up I (b + 21 + 6 * n) 0 x) (b + 21 + 6 * n) 2 0) (b + 21 + 6 * n) 1 (-2000000000)) (b + 21 + 6 * n) 4 (-2000000000)) b 3 c
def addI (I : GI) (r n : Nat) (a l c : Int) : GI := up (up (up I (r + 1) n a) (r + 2) n l) r 2 c
def dropI (I : GI) (r : Nat) (c : Int) : GI := up (up (up I r 2 c) r 1 (-2000000000)) r 4 (-2000000000)
def closeI (I : GI) (r : Nat) (x y : Int) : GI := up (up I r 1 x) r 4 y
set_option maxHeartbeats 4000000 in
theorem rel_set {b : Nat} {I : GI} {S : Nat → Int} {w : Nat} {v : Int} (h : Rel b I S) (ho : Oks S) (hw : w < 3) : Rel b (up I (b + 1) w v) (oSet S w v) := by
  obtain ⟨h1, ⟨c1, c2, c3⟩, h3, h4, h5⟩ := h
  obtain ⟨o1, o2, o3, o4, o5⟩ := ho
  unfold wP at h3; unfold jP at h4; unfold tP at h5
  unfold Rel wP jP tP oSet
  refine ⟨fun k hk => ?_, ⟨?_, ?_, ?_⟩, fun q hq => ?_, fun q hq => ?_, fun q hq => ?_⟩
  · by_cases e : k = w
    · (repeat (first | rw [up_at (by omega) (by omega)] | rw [up_nn (by omega)])); (repeat (first | rw [us_at (by omega)] | rw [us_ne (by omega)])); (try (first | rfl | omega | assumption)); done
    · (repeat (first | rw [up_at (by omega) (by omega)] | rw [up_nn (by omega)])); (repeat (first | rw [us_at (by omega)] | rw [us_ne (by omega)])); exact h1 k hk
  · (repeat (first | rw [up_at (by omega) (by omega)] | rw [up_nn (by omega)])); (repeat (first | rw [us_at (by omega)] | rw [us_ne (by omega)])); (try (first | rfl | omega | assumption)); done
  · (repeat (first | rw [up_at (by omega) (by omega)] | rw [up_nn (by omega)])); (repeat (first | rw [us_at (by omega)] | rw [us_ne (by omega)])); (try (first | rfl | omega | assumption)); done
  · (repeat (first | rw [up_at (by omega) (by omega)] | rw [up_nn (by omega)])); (repeat (first | rw [us_at (by omega)] | rw [us_ne (by omega)])); (try (first | rfl | omega | assumption)); done
  · (repeat (first | rw [us_at (by omega)] at hq | rw [us_ne (by omega)] at hq))
    have hw := h3 q (by omega)
    have hb := (o3 q (by omega)).1.2.2
    refine ⟨⟨?_, ?_, ?_⟩, fun k hk => ?_⟩
    · obtain ⟨⟨w1, w2, w3⟩, w4⟩ := hw; (repeat (first | rw [up_at (by omega) (by omega)] | rw [up_nn (by omega)])); (repeat (first | rw [us_at (by omega)] | rw [us_ne (by omega)])); (try (first | rfl | omega | assumption)); done
    · obtain ⟨⟨w1, w2, w3⟩, w4⟩ := hw; (repeat (first | rw [up_at (by omega) (by omega)] | rw [up_nn (by omega)])); (repeat (first | rw [us_at (by omega)] | rw [us_ne (by omega)])); (try (first | rfl | omega | assumption)); done
    · obtain ⟨⟨w1, w2, w3⟩, w4⟩ := hw; (repeat (first | rw [up_at (by omega) (by omega)] | rw [up_nn (by omega)])); (repeat (first | rw [us_at (by omega)] | rw [us_ne (by omega)])); (try (first | rfl | omega | assumption)); done
    · (repeat (first | rw [us_at (by omega)] at hk | rw [us_ne (by omega)] at hk))
      have := hw.2 k (by omega)
      (repeat (first | rw [up_at (by omega) (by omega)] | rw [up_nn (by omega)])); (repeat (first | rw [us_at (by omega)] | rw [us_ne (by omega)])); (try (first | rfl | omega | assumption)); done
  · (repeat (first | rw [us_at (by omega)] at hq | rw [us_ne (by omega)] at hq))
    obtain ⟨⟨w1, w2, w3⟩, w4, w5, w6⟩ := h4 q (by omega)
    refine ⟨⟨?_, ?_, ?_⟩, ?_, ?_, ?_⟩
    · (repeat (first | rw [up_at (by omega) (by omega)] | rw [up_nn (by omega)])); (repeat (first | rw [us_at (by omega)] | rw [us_ne (by omega)])); (try (first | rfl | omega | assumption)); done
    · (repeat (first | rw [up_at (by omega) (by omega)] | rw [up_nn (by omega)])); (repeat (first | rw [us_at (by omega)] | rw [us_ne (by omega)])); (try (first | rfl | omega | assumption)); done
    · (repeat (first | rw [up_at (by omega) (by omega)] | rw [up_nn (by omega)])); (repeat (first | rw [us_at (by omega)] | rw [us_ne (by omega)])); (try (first | rfl | omega | assumption)); done
    · (repeat (first | rw [up_at (by omega) (by omega)] | rw [up_nn (by omega)])); (repeat (first | rw [us_at (by omega)] | rw [us_ne (by omega)])); (try (first | rfl | omega | assumption)); done
    · (repeat (first | rw [up_at (by omega) (by omega)] | rw [up_nn (by omega)])); (repeat (first | rw [us_at (by omega)] | rw [us_ne (by omega)])); (try (first | rfl | omega | assumption)); done
    · (repeat (first | rw [up_at (by omega) (by omega)] | rw [up_nn (by omega)])); (repeat (first | rw [us_at (by omega)] | rw [us_ne (by omega)])); (try (first | rfl | omega | assumption)); done
  · (repeat (first | rw [us_at (by omega)] at hq | rw [us_ne (by omega)] at hq))
    obtain ⟨⟨w1, w2⟩, ⟨w3, w4⟩, w5⟩ := h5 q (by omega)
    have hb := (o5 q (by omega)).1.2.1
    refine ⟨⟨?_, ?_⟩, ⟨fun hc => ?_, fun hc => ?_⟩, fun k hk => ?_⟩
    · (repeat (first | rw [up_at (by omega) (by omega)] | rw [up_nn (by omega)])); (repeat (first | rw [us_at (by omega)] | rw [us_ne (by omega)])); (try (first | rfl | omega | assumption)); done
    · (repeat (first | rw [up_at (by omega) (by omega)] | rw [up_nn (by omega)])); (repeat (first | rw [us_at (by omega)] | rw [us_ne (by omega)])); (try (first | rfl | omega | assumption)); done
    · (repeat (first | rw [us_at (by omega)] at hc | rw [us_ne (by omega)] at hc))
      have w9 := w3 hc
      obtain ⟨w10, w11⟩ := w9
      constructor <;> ((repeat (first | rw [up_at (by omega) (by omega)] | rw [up_nn (by omega)])); (repeat (first | rw [us_at (by omega)] | rw [us_ne (by omega)])); (try (first | rfl | omega | assumption)); done)
    · (repeat (first | rw [us_at (by omega)] at hc | rw [us_ne (by omega)] at hc))
      have w9 := w4 hc
      obtain ⟨w10, w11⟩ := w9
      constructor <;> ((repeat (first | rw [up_at (by omega) (by omega)] | rw [up_nn (by omega)])); (repeat (first | rw [us_at (by omega)] | rw [us_ne (by omega)])); (try (first | rfl | omega | assumption)); done)
    · (repeat (first | rw [us_at (by omega)] at hk | rw [us_ne (by omega)] at hk))
      obtain ⟨w7, w8⟩ := w5 k (by omega)
      constructor <;> ((repeat (first | rw [up_at (by omega) (by omega)] | rw [up_nn (by omega)])); (repeat (first | rw [us_at (by omega)] | rw [us_ne (by omega)])); (try (first | rfl | omega | assumption)); done)
set_option maxHeartbeats 4000000 in
theorem rel_hang {b : Nat} {I : GI} {S : Nat → Int} {n : Nat} {e1 o9 c : Int} (h : Rel b I S) (ho : Oks S) (hn : S 3 = (n : Int)) (h6 : n < 6) (hc9 : c = S 3 + 1) : Rel b (hangI I b n e1 o9 c) (oHang S n e1 o9) := by
  obtain ⟨h1, ⟨c1, c2, c3⟩, h3, h4, h5⟩ := h
  obtain ⟨o1, o2, o3, o4, o5⟩ := ho
  unfold wP at h3; unfold jP at h4; unfold tP at h5
  unfold Rel wP jP tP hangI oHang
  refine ⟨fun k hk => ?_, ⟨?_, ?_, ?_⟩, fun q hq => ?_, fun q hq => ?_, fun q hq => ?_⟩
  · (repeat (first | rw [up_at (by omega) (by omega)] | rw [up_nn (by omega)])); (repeat (first | rw [us_at (by omega)] | rw [us_ne (by omega)])); exact h1 k hk
  · (repeat (first | rw [up_at (by omega) (by omega)] | rw [up_nn (by omega)])); (repeat (first | rw [us_at (by omega)] | rw [us_ne (by omega)])); (try (first | rfl | omega | assumption)); done
  · (repeat (first | rw [up_at (by omega) (by omega)] | rw [up_nn (by omega)])); (repeat (first | rw [us_at (by omega)] | rw [us_ne (by omega)])); (try (first | rfl | omega | assumption)); done
  · (repeat (first | rw [up_at (by omega) (by omega)] | rw [up_nn (by omega)])); (repeat (first | rw [us_at (by omega)] | rw [us_ne (by omega)])); (try (first | rfl | omega | assumption)); done
  · (repeat (first | rw [us_at (by omega)] at hq | rw [us_ne (by omega)] at hq))
    by_cases e : q = n
    · subst q
      refine ⟨⟨?_, ?_, ?_⟩, fun k hk => ?_⟩
      · (repeat (first | rw [up_at (by omega) (by omega)] | rw [up_nn (by omega)])); (repeat (first | rw [us_at (by omega)] | rw [us_ne (by omega)])); (try (first | rfl | omega | assumption)); done
      · (repeat (first | rw [up_at (by omega) (by omega)] | rw [up_nn (by omega)])); (repeat (first | rw [us_at (by omega)] | rw [us_ne (by omega)])); (try (first | rfl | omega | assumption)); done
      · (repeat (first | rw [up_at (by omega) (by omega)] | rw [up_nn (by omega)])); (repeat (first | rw [us_at (by omega)] | rw [us_ne (by omega)])); (try (first | rfl | omega | assumption)); done
      · (repeat (first | rw [us_at (by omega)] at hk | rw [us_ne (by omega)] at hk))
        omega
    · skip
      have hw := h3 q (by omega)
      have hb := (o3 q (by omega)).1.2.2
      refine ⟨⟨?_, ?_, ?_⟩, fun k hk => ?_⟩
      · obtain ⟨⟨w1, w2, w3⟩, w4⟩ := hw; (repeat (first | rw [up_at (by omega) (by omega)] | rw [up_nn (by omega)])); (repeat (first | rw [us_at (by omega)] | rw [us_ne (by omega)])); (try (first | rfl | omega | assumption)); done
      · obtain ⟨⟨w1, w2, w3⟩, w4⟩ := hw; (repeat (first | rw [up_at (by omega) (by omega)] | rw [up_nn (by omega)])); (repeat (first | rw [us_at (by omega)] | rw [us_ne (by omega)])); (try (first | rfl | omega | assumption)); done
      · obtain ⟨⟨w1, w2, w3⟩, w4⟩ := hw; (repeat (first | rw [up_at (by omega) (by omega)] | rw [up_nn (by omega)])); (repeat (first | rw [us_at (by omega)] | rw [us_ne (by omega)])); (try (first | rfl | omega | assumption)); done
      · (repeat (first | rw [us_at (by omega)] at hk | rw [us_ne (by omega)] at hk))
        have := hw.2 k (by omega)
        (repeat (first | rw [up_at (by omega) (by omega)] | rw [up_nn (by omega)])); (repeat (first | rw [us_at (by omega)] | rw [us_ne (by omega)])); (try (first | rfl | omega | assumption)); done
  · (repeat (first | rw [us_at (by omega)] at hq | rw [us_ne (by omega)] at hq))
    obtain ⟨⟨w1, w2, w3⟩, w4, w5, w6⟩ := h4 q (by omega)
    refine ⟨⟨?_, ?_, ?_⟩, ?_, ?_, ?_⟩
    · (repeat (first | rw [up_at (by omega) (by omega)] | rw [up_nn (by omega)])); (repeat (first | rw [us_at (by omega)] | rw [us_ne (by omega)])); (try (first | rfl | omega | assumption)); done
    · (repeat (first | rw [up_at (by omega) (by omega)] | rw [up_nn (by omega)])); (repeat (first | rw [us_at (by omega)] | rw [us_ne (by omega)])); (try (first | rfl | omega | assumption)); done
    · (repeat (first | rw [up_at (by omega) (by omega)] | rw [up_nn (by omega)])); (repeat (first | rw [us_at (by omega)] | rw [us_ne (by omega)])); (try (first | rfl | omega | assumption)); done
    · (repeat (first | rw [up_at (by omega) (by omega)] | rw [up_nn (by omega)])); (repeat (first | rw [us_at (by omega)] | rw [us_ne (by omega)])); (try (first | rfl | omega | assumption)); done
    · (repeat (first | rw [up_at (by omega) (by omega)] | rw [up_nn (by omega)])); (repeat (first | rw [us_at (by omega)] | rw [us_ne (by omega)])); (try (first | rfl | omega | assumption)); done
    · (repeat (first | rw [up_at (by omega) (by omega)] | rw [up_nn (by omega)])); (repeat (first | rw [us_at (by omega)] | rw [us_ne (by omega)])); (try (first | rfl | omega | assumption)); done
  · (repeat (first | rw [us_at (by omega)] at hq | rw [us_ne (by omega)] at hq))
    obtain ⟨⟨w1, w2⟩, ⟨w3, w4⟩, w5⟩ := h5 q (by omega)
    have hb := (o5 q (by omega)).1.2.1
    refine ⟨⟨?_, ?_⟩, ⟨fun hc => ?_, fun hc => ?_⟩, fun k hk => ?_⟩
    · (repeat (first | rw [up_at (by omega) (by omega)] | rw [up_nn (by omega)])); (repeat (first | rw [us_at (by omega)] | rw [us_ne (by omega)])); (try (first | rfl | omega | assumption)); done
    · (repeat (first | rw [up_at (by omega) (by omega)] | rw [up_nn (by omega)])); (repeat (first | rw [us_at (by omega)] | rw [us_ne (by omega)])); (try (first | rfl | omega | assumption)); done
    · (repeat (first | rw [us_at (by omega)] at hc | rw [us_ne (by omega)] at hc))
      have w9 := w3 hc
      obtain ⟨w10, w11⟩ := w9
      constructor <;> ((repeat (first | rw [up_at (by omega) (by omega)] | rw [up_nn (by omega)])); (repeat (first | rw [us_at (by omega)] | rw [us_ne (by omega)])); (try (first | rfl | omega | assumption)); done)
    · (repeat (first | rw [us_at (by omega)] at hc | rw [us_ne (by omega)] at hc))
      have w9 := w4 hc
      obtain ⟨w10, w11⟩ := w9
      constructor <;> ((repeat (first | rw [up_at (by omega) (by omega)] | rw [up_nn (by omega)])); (repeat (first | rw [us_at (by omega)] | rw [us_ne (by omega)])); (try (first | rfl | omega | assumption)); done)
    · (repeat (first | rw [us_at (by omega)] at hk | rw [us_ne (by omega)] at hk))
      obtain ⟨w7, w8⟩ := w5 k (by omega)
      constructor <;> ((repeat (first | rw [up_at (by omega) (by omega)] | rw [up_nn (by omega)])); (repeat (first | rw [us_at (by omega)] | rw [us_ne (by omega)])); (try (first | rfl | omega | assumption)); done)
set_option maxHeartbeats 4000000 in
theorem rel_swing {b : Nat} {I : GI} {S : Nat → Int} {w n : Nat} {x c : Int} (h : Rel b I S) (ho : Oks S) (hw9 : (w : Int) < S 3) (hn : S (8 + 12 * w) = (n : Int)) (h9 : n < 9) (hc9 : c = S (8 + 12 * w) + 1) : Rel b (swingI I (b + 5 + 2 * w) n x c) (oSwing S w n x) := by
  obtain ⟨h1, ⟨c1, c2, c3⟩, h3, h4, h5⟩ := h
  obtain ⟨o1, o2, o3, o4, o5⟩ := ho
  unfold wP at h3; unfold jP at h4; unfold tP at h5
  unfold Rel wP jP tP swingI oSwing
  refine ⟨fun k hk => ?_, ⟨?_, ?_, ?_⟩, fun q hq => ?_, fun q hq => ?_, fun q hq => ?_⟩
  · (repeat (first | rw [up_at (by omega) (by omega)] | rw [up_nn (by omega)])); (repeat (first | rw [us_at (by omega)] | rw [us_ne (by omega)])); exact h1 k hk
  · (repeat (first | rw [up_at (by omega) (by omega)] | rw [up_nn (by omega)])); (repeat (first | rw [us_at (by omega)] | rw [us_ne (by omega)])); (try (first | rfl | omega | assumption)); done
  · (repeat (first | rw [up_at (by omega) (by omega)] | rw [up_nn (by omega)])); (repeat (first | rw [us_at (by omega)] | rw [us_ne (by omega)])); (try (first | rfl | omega | assumption)); done
  · (repeat (first | rw [up_at (by omega) (by omega)] | rw [up_nn (by omega)])); (repeat (first | rw [us_at (by omega)] | rw [us_ne (by omega)])); (try (first | rfl | omega | assumption)); done
  · (repeat (first | rw [us_at (by omega)] at hq | rw [us_ne (by omega)] at hq))
    by_cases e : q = w
    · subst q
      have hw := h3 w (by omega)
      have hb := (o3 w (by omega)).1.2.2
      refine ⟨⟨?_, ?_, ?_⟩, fun k hk => ?_⟩
      · obtain ⟨⟨w1, w2, w3⟩, w4⟩ := hw; (repeat (first | rw [up_at (by omega) (by omega)] | rw [up_nn (by omega)])); (repeat (first | rw [us_at (by omega)] | rw [us_ne (by omega)])); (try (first | rfl | omega | assumption)); done
      · obtain ⟨⟨w1, w2, w3⟩, w4⟩ := hw; (repeat (first | rw [up_at (by omega) (by omega)] | rw [up_nn (by omega)])); (repeat (first | rw [us_at (by omega)] | rw [us_ne (by omega)])); (try (first | rfl | omega | assumption)); done
      · obtain ⟨⟨w1, w2, w3⟩, w4⟩ := hw; (repeat (first | rw [up_at (by omega) (by omega)] | rw [up_nn (by omega)])); (repeat (first | rw [us_at (by omega)] | rw [us_ne (by omega)])); (try (first | rfl | omega | assumption)); done
      · (repeat (first | rw [us_at (by omega)] at hk | rw [us_ne (by omega)] at hk))
        by_cases e2 : w = w ∧ k = n
        · (repeat (first | rw [up_at (by omega) (by omega)] | rw [up_nn (by omega)])); (repeat (first | rw [us_at (by omega)] | rw [us_ne (by omega)])); (try (first | rfl | omega | assumption)); done
        · have := hw.2 k (by omega)
          (repeat (first | rw [up_at (by omega) (by omega)] | rw [up_nn (by omega)])); (repeat (first | rw [us_at (by omega)] | rw [us_ne (by omega)])); (try (first | rfl | omega | assumption)); done
    · skip
      have hw := h3 q (by omega)
      have hb := (o3 q (by omega)).1.2.2
      refine ⟨⟨?_, ?_, ?_⟩, fun k hk => ?_⟩
      · obtain ⟨⟨w1, w2, w3⟩, w4⟩ := hw; (repeat (first | rw [up_at (by omega) (by omega)] | rw [up_nn (by omega)])); (repeat (first | rw [us_at (by omega)] | rw [us_ne (by omega)])); (try (first | rfl | omega | assumption)); done
      · obtain ⟨⟨w1, w2, w3⟩, w4⟩ := hw; (repeat (first | rw [up_at (by omega) (by omega)] | rw [up_nn (by omega)])); (repeat (first | rw [us_at (by omega)] | rw [us_ne (by omega)])); (try (first | rfl | omega | assumption)); done
      · obtain ⟨⟨w1, w2, w3⟩, w4⟩ := hw; (repeat (first | rw [up_at (by omega) (by omega)] | rw [up_nn (by omega)])); (repeat (first | rw [us_at (by omega)] | rw [us_ne (by omega)])); (try (first | rfl | omega | assumption)); done
      · (repeat (first | rw [us_at (by omega)] at hk | rw [us_ne (by omega)] at hk))
        by_cases e2 : q = w ∧ k = n
        · (repeat (first | rw [up_at (by omega) (by omega)] | rw [up_nn (by omega)])); (repeat (first | rw [us_at (by omega)] | rw [us_ne (by omega)])); (try (first | rfl | omega | assumption)); done
        · have := hw.2 k (by omega)
          (repeat (first | rw [up_at (by omega) (by omega)] | rw [up_nn (by omega)])); (repeat (first | rw [us_at (by omega)] | rw [us_ne (by omega)])); (try (first | rfl | omega | assumption)); done
  · (repeat (first | rw [us_at (by omega)] at hq | rw [us_ne (by omega)] at hq))
    obtain ⟨⟨w1, w2, w3⟩, w4, w5, w6⟩ := h4 q (by omega)
    refine ⟨⟨?_, ?_, ?_⟩, ?_, ?_, ?_⟩
    · (repeat (first | rw [up_at (by omega) (by omega)] | rw [up_nn (by omega)])); (repeat (first | rw [us_at (by omega)] | rw [us_ne (by omega)])); (try (first | rfl | omega | assumption)); done
    · (repeat (first | rw [up_at (by omega) (by omega)] | rw [up_nn (by omega)])); (repeat (first | rw [us_at (by omega)] | rw [us_ne (by omega)])); (try (first | rfl | omega | assumption)); done
    · (repeat (first | rw [up_at (by omega) (by omega)] | rw [up_nn (by omega)])); (repeat (first | rw [us_at (by omega)] | rw [us_ne (by omega)])); (try (first | rfl | omega | assumption)); done
    · (repeat (first | rw [up_at (by omega) (by omega)] | rw [up_nn (by omega)])); (repeat (first | rw [us_at (by omega)] | rw [us_ne (by omega)])); (try (first | rfl | omega | assumption)); done
    · (repeat (first | rw [up_at (by omega) (by omega)] | rw [up_nn (by omega)])); (repeat (first | rw [us_at (by omega)] | rw [us_ne (by omega)])); (try (first | rfl | omega | assumption)); done
    · (repeat (first | rw [up_at (by omega) (by omega)] | rw [up_nn (by omega)])); (repeat (first | rw [us_at (by omega)] | rw [us_ne (by omega)])); (try (first | rfl | omega | assumption)); done
  · (repeat (first | rw [us_at (by omega)] at hq | rw [us_ne (by omega)] at hq))
    obtain ⟨⟨w1, w2⟩, ⟨w3, w4⟩, w5⟩ := h5 q (by omega)
    have hb := (o5 q (by omega)).1.2.1
    refine ⟨⟨?_, ?_⟩, ⟨fun hc => ?_, fun hc => ?_⟩, fun k hk => ?_⟩
    · (repeat (first | rw [up_at (by omega) (by omega)] | rw [up_nn (by omega)])); (repeat (first | rw [us_at (by omega)] | rw [us_ne (by omega)])); (try (first | rfl | omega | assumption)); done
    · (repeat (first | rw [up_at (by omega) (by omega)] | rw [up_nn (by omega)])); (repeat (first | rw [us_at (by omega)] | rw [us_ne (by omega)])); (try (first | rfl | omega | assumption)); done
    · (repeat (first | rw [us_at (by omega)] at hc | rw [us_ne (by omega)] at hc))
      have w9 := w3 hc
      obtain ⟨w10, w11⟩ := w9
      constructor <;> ((repeat (first | rw [up_at (by omega) (by omega)] | rw [up_nn (by omega)])); (repeat (first | rw [us_at (by omega)] | rw [us_ne (by omega)])); (try (first | rfl | omega | assumption)); done)
    · (repeat (first | rw [us_at (by omega)] at hc | rw [us_ne (by omega)] at hc))
      have w9 := w4 hc
      obtain ⟨w10, w11⟩ := w9
      constructor <;> ((repeat (first | rw [up_at (by omega) (by omega)] | rw [up_nn (by omega)])); (repeat (first | rw [us_at (by omega)] | rw [us_ne (by omega)])); (try (first | rfl | omega | assumption)); done)
    · (repeat (first | rw [us_at (by omega)] at hk | rw [us_ne (by omega)] at hk))
      obtain ⟨w7, w8⟩ := w5 k (by omega)
      constructor <;> ((repeat (first | rw [up_at (by omega) (by omega)] | rw [up_nn (by omega)])); (repeat (first | rw [us_at (by omega)] | rw [us_ne (by omega)])); (try (first | rfl | omega | assumption)); done)
set_option maxHeartbeats 4000000 in
theorem rel_still {b : Nat} {I : GI} {S : Nat → Int} {w : Nat} (h : Rel b I S) (ho : Oks S) (hw9 : (w : Int) < S 3) : Rel b (up I (b + 5 + 2 * w) 2 0) (oStill S w) := by
  obtain ⟨h1, ⟨c1, c2, c3⟩, h3, h4, h5⟩ := h
  obtain ⟨o1, o2, o3, o4, o5⟩ := ho
  unfold wP at h3; unfold jP at h4; unfold tP at h5
  unfold Rel wP jP tP oStill
  refine ⟨fun k hk => ?_, ⟨?_, ?_, ?_⟩, fun q hq => ?_, fun q hq => ?_, fun q hq => ?_⟩
  · (repeat (first | rw [up_at (by omega) (by omega)] | rw [up_nn (by omega)])); (repeat (first | rw [us_at (by omega)] | rw [us_ne (by omega)])); exact h1 k hk
  · (repeat (first | rw [up_at (by omega) (by omega)] | rw [up_nn (by omega)])); (repeat (first | rw [us_at (by omega)] | rw [us_ne (by omega)])); (try (first | rfl | omega | assumption)); done
  · (repeat (first | rw [up_at (by omega) (by omega)] | rw [up_nn (by omega)])); (repeat (first | rw [us_at (by omega)] | rw [us_ne (by omega)])); (try (first | rfl | omega | assumption)); done
  · (repeat (first | rw [up_at (by omega) (by omega)] | rw [up_nn (by omega)])); (repeat (first | rw [us_at (by omega)] | rw [us_ne (by omega)])); (try (first | rfl | omega | assumption)); done
  · (repeat (first | rw [us_at (by omega)] at hq | rw [us_ne (by omega)] at hq))
    by_cases e : q = w
    · subst q
      have hw := h3 w (by omega)
      have hb := (o3 w (by omega)).1.2.2
      refine ⟨⟨?_, ?_, ?_⟩, fun k hk => ?_⟩
      · obtain ⟨⟨w1, w2, w3⟩, w4⟩ := hw; (repeat (first | rw [up_at (by omega) (by omega)] | rw [up_nn (by omega)])); (repeat (first | rw [us_at (by omega)] | rw [us_ne (by omega)])); (try (first | rfl | omega | assumption)); done
      · obtain ⟨⟨w1, w2, w3⟩, w4⟩ := hw; (repeat (first | rw [up_at (by omega) (by omega)] | rw [up_nn (by omega)])); (repeat (first | rw [us_at (by omega)] | rw [us_ne (by omega)])); (try (first | rfl | omega | assumption)); done
      · obtain ⟨⟨w1, w2, w3⟩, w4⟩ := hw; (repeat (first | rw [up_at (by omega) (by omega)] | rw [up_nn (by omega)])); (repeat (first | rw [us_at (by omega)] | rw [us_ne (by omega)])); (try (first | rfl | omega | assumption)); done
      · (repeat (first | rw [us_at (by omega)] at hk | rw [us_ne (by omega)] at hk))
        first | (exfalso; omega) | (have := hw.2 k (by omega); (repeat (first | rw [up_at (by omega) (by omega)] | rw [up_nn (by omega)])); (repeat (first | rw [us_at (by omega)] | rw [us_ne (by omega)])); (try (first | rfl | omega | assumption)); done)
    · skip
      have hw := h3 q (by omega)
      have hb := (o3 q (by omega)).1.2.2
      refine ⟨⟨?_, ?_, ?_⟩, fun k hk => ?_⟩
      · obtain ⟨⟨w1, w2, w3⟩, w4⟩ := hw; (repeat (first | rw [up_at (by omega) (by omega)] | rw [up_nn (by omega)])); (repeat (first | rw [us_at (by omega)] | rw [us_ne (by omega)])); (try (first | rfl | omega | assumption)); done
      · obtain ⟨⟨w1, w2, w3⟩, w4⟩ := hw; (repeat (first | rw [up_at (by omega) (by omega)] | rw [up_nn (by omega)])); (repeat (first | rw [us_at (by omega)] | rw [us_ne (by omega)])); (try (first | rfl | omega | assumption)); done
      · obtain ⟨⟨w1, w2, w3⟩, w4⟩ := hw; (repeat (first | rw [up_at (by omega) (by omega)] | rw [up_nn (by omega)])); (repeat (first | rw [us_at (by omega)] | rw [us_ne (by omega)])); (try (first | rfl | omega | assumption)); done
      · (repeat (first | rw [us_at (by omega)] at hk | rw [us_ne (by omega)] at hk))
        first | (exfalso; omega) | (have := hw.2 k (by omega); (repeat (first | rw [up_at (by omega) (by omega)] | rw [up_nn (by omega)])); (repeat (first | rw [us_at (by omega)] | rw [us_ne (by omega)])); (try (first | rfl | omega | assumption)); done)
  · (repeat (first | rw [us_at (by omega)] at hq | rw [us_ne (by omega)] at hq))
    obtain ⟨⟨w1, w2, w3⟩, w4, w5, w6⟩ := h4 q (by omega)
    refine ⟨⟨?_, ?_, ?_⟩, ?_, ?_, ?_⟩
    · (repeat (first | rw [up_at (by omega) (by omega)] | rw [up_nn (by omega)])); (repeat (first | rw [us_at (by omega)] | rw [us_ne (by omega)])); (try (first | rfl | omega | assumption)); done
    · (repeat (first | rw [up_at (by omega) (by omega)] | rw [up_nn (by omega)])); (repeat (first | rw [us_at (by omega)] | rw [us_ne (by omega)])); (try (first | rfl | omega | assumption)); done
    · (repeat (first | rw [up_at (by omega) (by omega)] | rw [up_nn (by omega)])); (repeat (first | rw [us_at (by omega)] | rw [us_ne (by omega)])); (try (first | rfl | omega | assumption)); done
    · (repeat (first | rw [up_at (by omega) (by omega)] | rw [up_nn (by omega)])); (repeat (first | rw [us_at (by omega)] | rw [us_ne (by omega)])); (try (first | rfl | omega | assumption)); done
    · (repeat (first | rw [up_at (by omega) (by omega)] | rw [up_nn (by omega)])); (repeat (first | rw [us_at (by omega)] | rw [us_ne (by omega)])); (try (first | rfl | omega | assumption)); done
    · (repeat (first | rw [up_at (by omega) (by omega)] | rw [up_nn (by omega)])); (repeat (first | rw [us_at (by omega)] | rw [us_ne (by omega)])); (try (first | rfl | omega | assumption)); done
  · (repeat (first | rw [us_at (by omega)] at hq | rw [us_ne (by omega)] at hq))
    obtain ⟨⟨w1, w2⟩, ⟨w3, w4⟩, w5⟩ := h5 q (by omega)
    have hb := (o5 q (by omega)).1.2.1
    refine ⟨⟨?_, ?_⟩, ⟨fun hc => ?_, fun hc => ?_⟩, fun k hk => ?_⟩
    · (repeat (first | rw [up_at (by omega) (by omega)] | rw [up_nn (by omega)])); (repeat (first | rw [us_at (by omega)] | rw [us_ne (by omega)])); (try (first | rfl | omega | assumption)); done
    · (repeat (first | rw [up_at (by omega) (by omega)] | rw [up_nn (by omega)])); (repeat (first | rw [us_at (by omega)] | rw [us_ne (by omega)])); (try (first | rfl | omega | assumption)); done
    · (repeat (first | rw [us_at (by omega)] at hc | rw [us_ne (by omega)] at hc))
      have w9 := w3 hc
      obtain ⟨w10, w11⟩ := w9
      constructor <;> ((repeat (first | rw [up_at (by omega) (by omega)] | rw [up_nn (by omega)])); (repeat (first | rw [us_at (by omega)] | rw [us_ne (by omega)])); (try (first | rfl | omega | assumption)); done)
    · (repeat (first | rw [us_at (by omega)] at hc | rw [us_ne (by omega)] at hc))
      have w9 := w4 hc
      obtain ⟨w10, w11⟩ := w9
      constructor <;> ((repeat (first | rw [up_at (by omega) (by omega)] | rw [up_nn (by omega)])); (repeat (first | rw [us_at (by omega)] | rw [us_ne (by omega)])); (try (first | rfl | omega | assumption)); done)
    · (repeat (first | rw [us_at (by omega)] at hk | rw [us_ne (by omega)] at hk))
      obtain ⟨w7, w8⟩ := w5 k (by omega)
      constructor <;> ((repeat (first | rw [up_at (by omega) (by omega)] | rw [up_nn (by omega)])); (repeat (first | rw [us_at (by omega)] | rw [us_ne (by omega)])); (try (first | rfl | omega | assumption)); done)
set_option maxHeartbeats 4000000 in
theorem rel_join {b : Nat} {I : GI} {S : Nat → Int} {n : Nat} {x1 x2 x3 x4 x5 x6 c : Int} (h : Rel b I S) (ho : Oks S) (hn : S 4 = (n : Int)) (h6 : n < 4) (hc9 : c = S 4 + 1) : Rel b (joinI I b n x1 x2 x3 x4 x5 x6 c) (oJoin S n x1 x2 x3 x4 x5 x6) := by
  obtain ⟨h1, ⟨c1, c2, c3⟩, h3, h4, h5⟩ := h
  obtain ⟨o1, o2, o3, o4, o5⟩ := ho
  unfold wP at h3; unfold jP at h4; unfold tP at h5
  unfold Rel wP jP tP joinI oJoin
  refine ⟨fun k hk => ?_, ⟨?_, ?_, ?_⟩, fun q hq => ?_, fun q hq => ?_, fun q hq => ?_⟩
  · (repeat (first | rw [up_at (by omega) (by omega)] | rw [up_nn (by omega)])); (repeat (first | rw [us_at (by omega)] | rw [us_ne (by omega)])); exact h1 k hk
  · (repeat (first | rw [up_at (by omega) (by omega)] | rw [up_nn (by omega)])); (repeat (first | rw [us_at (by omega)] | rw [us_ne (by omega)])); (try (first | rfl | omega | assumption)); done
  · (repeat (first | rw [up_at (by omega) (by omega)] | rw [up_nn (by omega)])); (repeat (first | rw [us_at (by omega)] | rw [us_ne (by omega)])); (try (first | rfl | omega | assumption)); done
  · (repeat (first | rw [up_at (by omega) (by omega)] | rw [up_nn (by omega)])); (repeat (first | rw [us_at (by omega)] | rw [us_ne (by omega)])); (try (first | rfl | omega | assumption)); done
  · (repeat (first | rw [us_at (by omega)] at hq | rw [us_ne (by omega)] at hq))
    have hw := h3 q (by omega)
    have hb := (o3 q (by omega)).1.2.2
    refine ⟨⟨?_, ?_, ?_⟩, fun k hk => ?_⟩
    · obtain ⟨⟨w1, w2, w3⟩, w4⟩ := hw; (repeat (first | rw [up_at (by omega) (by omega)] | rw [up_nn (by omega)])); (repeat (first | rw [us_at (by omega)] | rw [us_ne (by omega)])); (try (first | rfl | omega | assumption)); done
    · obtain ⟨⟨w1, w2, w3⟩, w4⟩ := hw; (repeat (first | rw [up_at (by omega) (by omega)] | rw [up_nn (by omega)])); (repeat (first | rw [us_at (by omega)] | rw [us_ne (by omega)])); (try (first | rfl | omega | assumption)); done
    · obtain ⟨⟨w1, w2, w3⟩, w4⟩ := hw; (repeat (first | rw [up_at (by omega) (by omega)] | rw [up_nn (by omega)])); (repeat (first | rw [us_at (by omega)] | rw [us_ne (by omega)])); (try (first | rfl | omega | assumption)); done
    · (repeat (first | rw [us_at (by omega)] at hk | rw [us_ne (by omega)] at hk))
      have := hw.2 k (by omega)
      (repeat (first | rw [up_at (by omega) (by omega)] | rw [up_nn (by omega)])); (repeat (first | rw [us_at (by omega)] | rw [us_ne (by omega)])); (try (first | rfl | omega | assumption)); done
  · (repeat (first | rw [us_at (by omega)] at hq | rw [us_ne (by omega)] at hq))
    by_cases e : q = n
    · subst q
      refine ⟨⟨?_, ?_, ?_⟩, ?_, ?_, ?_⟩
      · (repeat (first | rw [up_at (by omega) (by omega)] | rw [up_nn (by omega)])); (repeat (first | rw [us_at (by omega)] | rw [us_ne (by omega)])); (try (first | rfl | omega | assumption)); done
      · (repeat (first | rw [up_at (by omega) (by omega)] | rw [up_nn (by omega)])); (repeat (first | rw [us_at (by omega)] | rw [us_ne (by omega)])); (try (first | rfl | omega | assumption)); done
      · (repeat (first | rw [up_at (by omega) (by omega)] | rw [up_nn (by omega)])); (repeat (first | rw [us_at (by omega)] | rw [us_ne (by omega)])); (try (first | rfl | omega | assumption)); done
      · (repeat (first | rw [up_at (by omega) (by omega)] | rw [up_nn (by omega)])); (repeat (first | rw [us_at (by omega)] | rw [us_ne (by omega)])); (try (first | rfl | omega | assumption)); done
      · (repeat (first | rw [up_at (by omega) (by omega)] | rw [up_nn (by omega)])); (repeat (first | rw [us_at (by omega)] | rw [us_ne (by omega)])); (try (first | rfl | omega | assumption)); done
      · (repeat (first | rw [up_at (by omega) (by omega)] | rw [up_nn (by omega)])); (repeat (first | rw [us_at (by omega)] | rw [us_ne (by omega)])); (try (first | rfl | omega | assumption)); done
    · skip
      obtain ⟨⟨w1, w2, w3⟩, w4, w5, w6⟩ := h4 q (by omega)
      refine ⟨⟨?_, ?_, ?_⟩, ?_, ?_, ?_⟩
      · (repeat (first | rw [up_at (by omega) (by omega)] | rw [up_nn (by omega)])); (repeat (first | rw [us_at (by omega)] | rw [us_ne (by omega)])); (try (first | rfl | omega | assumption)); done
      · (repeat (first | rw [up_at (by omega) (by omega)] | rw [up_nn (by omega)])); (repeat (first | rw [us_at (by omega)] | rw [us_ne (by omega)])); (try (first | rfl | omega | assumption)); done
      · (repeat (first | rw [up_at (by omega) (by omega)] | rw [up_nn (by omega)])); (repeat (first | rw [us_at (by omega)] | rw [us_ne (by omega)])); (try (first | rfl | omega | assumption)); done
      · (repeat (first | rw [up_at (by omega) (by omega)] | rw [up_nn (by omega)])); (repeat (first | rw [us_at (by omega)] | rw [us_ne (by omega)])); (try (first | rfl | omega | assumption)); done
      · (repeat (first | rw [up_at (by omega) (by omega)] | rw [up_nn (by omega)])); (repeat (first | rw [us_at (by omega)] | rw [us_ne (by omega)])); (try (first | rfl | omega | assumption)); done
      · (repeat (first | rw [up_at (by omega) (by omega)] | rw [up_nn (by omega)])); (repeat (first | rw [us_at (by omega)] | rw [us_ne (by omega)])); (try (first | rfl | omega | assumption)); done
  · (repeat (first | rw [us_at (by omega)] at hq | rw [us_ne (by omega)] at hq))
    obtain ⟨⟨w1, w2⟩, ⟨w3, w4⟩, w5⟩ := h5 q (by omega)
    have hb := (o5 q (by omega)).1.2.1
    refine ⟨⟨?_, ?_⟩, ⟨fun hc => ?_, fun hc => ?_⟩, fun k hk => ?_⟩
    · (repeat (first | rw [up_at (by omega) (by omega)] | rw [up_nn (by omega)])); (repeat (first | rw [us_at (by omega)] | rw [us_ne (by omega)])); (try (first | rfl | omega | assumption)); done
    · (repeat (first | rw [up_at (by omega) (by omega)] | rw [up_nn (by omega)])); (repeat (first | rw [us_at (by omega)] | rw [us_ne (by omega)])); (try (first | rfl | omega | assumption)); done
    · (repeat (first | rw [us_at (by omega)] at hc | rw [us_ne (by omega)] at hc))
      have w9 := w3 hc
      obtain ⟨w10, w11⟩ := w9
      constructor <;> ((repeat (first | rw [up_at (by omega) (by omega)] | rw [up_nn (by omega)])); (repeat (first | rw [us_at (by omega)] | rw [us_ne (by omega)])); (try (first | rfl | omega | assumption)); done)
    · (repeat (first | rw [us_at (by omega)] at hc | rw [us_ne (by omega)] at hc))
      have w9 := w4 hc
      obtain ⟨w10, w11⟩ := w9
      constructor <;> ((repeat (first | rw [up_at (by omega) (by omega)] | rw [up_nn (by omega)])); (repeat (first | rw [us_at (by omega)] | rw [us_ne (by omega)])); (try (first | rfl | omega | assumption)); done)
    · (repeat (first | rw [us_at (by omega)] at hk | rw [us_ne (by omega)] at hk))
      obtain ⟨w7, w8⟩ := w5 k (by omega)
      constructor <;> ((repeat (first | rw [up_at (by omega) (by omega)] | rw [up_nn (by omega)])); (repeat (first | rw [us_at (by omega)] | rw [us_ne (by omega)])); (try (first | rfl | omega | assumption)); done)
set_option maxHeartbeats 4000000 in
theorem rel_meas {b : Nat} {I : GI} {S : Nat → Int} {j : Nat} {g : Int} (h : Rel b I S) (ho : Oks S) (hj9 : (j : Int) < S 4) : Rel b (up I (b + 17 + j) 2 g) (oMeas S j g) := by
  obtain ⟨h1, ⟨c1, c2, c3⟩, h3, h4, h5⟩ := h
  obtain ⟨o1, o2, o3, o4, o5⟩ := ho
  unfold wP at h3; unfold jP at h4; unfold tP at h5
  unfold Rel wP jP tP oMeas
  refine ⟨fun k hk => ?_, ⟨?_, ?_, ?_⟩, fun q hq => ?_, fun q hq => ?_, fun q hq => ?_⟩
  · (repeat (first | rw [up_at (by omega) (by omega)] | rw [up_nn (by omega)])); (repeat (first | rw [us_at (by omega)] | rw [us_ne (by omega)])); exact h1 k hk
  · (repeat (first | rw [up_at (by omega) (by omega)] | rw [up_nn (by omega)])); (repeat (first | rw [us_at (by omega)] | rw [us_ne (by omega)])); (try (first | rfl | omega | assumption)); done
  · (repeat (first | rw [up_at (by omega) (by omega)] | rw [up_nn (by omega)])); (repeat (first | rw [us_at (by omega)] | rw [us_ne (by omega)])); (try (first | rfl | omega | assumption)); done
  · (repeat (first | rw [up_at (by omega) (by omega)] | rw [up_nn (by omega)])); (repeat (first | rw [us_at (by omega)] | rw [us_ne (by omega)])); (try (first | rfl | omega | assumption)); done
  · (repeat (first | rw [us_at (by omega)] at hq | rw [us_ne (by omega)] at hq))
    have hw := h3 q (by omega)
    have hb := (o3 q (by omega)).1.2.2
    refine ⟨⟨?_, ?_, ?_⟩, fun k hk => ?_⟩
    · obtain ⟨⟨w1, w2, w3⟩, w4⟩ := hw; (repeat (first | rw [up_at (by omega) (by omega)] | rw [up_nn (by omega)])); (repeat (first | rw [us_at (by omega)] | rw [us_ne (by omega)])); (try (first | rfl | omega | assumption)); done
    · obtain ⟨⟨w1, w2, w3⟩, w4⟩ := hw; (repeat (first | rw [up_at (by omega) (by omega)] | rw [up_nn (by omega)])); (repeat (first | rw [us_at (by omega)] | rw [us_ne (by omega)])); (try (first | rfl | omega | assumption)); done
    · obtain ⟨⟨w1, w2, w3⟩, w4⟩ := hw; (repeat (first | rw [up_at (by omega) (by omega)] | rw [up_nn (by omega)])); (repeat (first | rw [us_at (by omega)] | rw [us_ne (by omega)])); (try (first | rfl | omega | assumption)); done
    · (repeat (first | rw [us_at (by omega)] at hk | rw [us_ne (by omega)] at hk))
      have := hw.2 k (by omega)
      (repeat (first | rw [up_at (by omega) (by omega)] | rw [up_nn (by omega)])); (repeat (first | rw [us_at (by omega)] | rw [us_ne (by omega)])); (try (first | rfl | omega | assumption)); done
  · (repeat (first | rw [us_at (by omega)] at hq | rw [us_ne (by omega)] at hq))
    by_cases e : q = j
    · subst q
      obtain ⟨⟨w1, w2, w3⟩, w4, w5, w6⟩ := h4 j (by omega)
      refine ⟨⟨?_, ?_, ?_⟩, ?_, ?_, ?_⟩
      · (repeat (first | rw [up_at (by omega) (by omega)] | rw [up_nn (by omega)])); (repeat (first | rw [us_at (by omega)] | rw [us_ne (by omega)])); (try (first | rfl | omega | assumption)); done
      · (repeat (first | rw [up_at (by omega) (by omega)] | rw [up_nn (by omega)])); (repeat (first | rw [us_at (by omega)] | rw [us_ne (by omega)])); (try (first | rfl | omega | assumption)); done
      · (repeat (first | rw [up_at (by omega) (by omega)] | rw [up_nn (by omega)])); (repeat (first | rw [us_at (by omega)] | rw [us_ne (by omega)])); (try (first | rfl | omega | assumption)); done
      · (repeat (first | rw [up_at (by omega) (by omega)] | rw [up_nn (by omega)])); (repeat (first | rw [us_at (by omega)] | rw [us_ne (by omega)])); (try (first | rfl | omega | assumption)); done
      · (repeat (first | rw [up_at (by omega) (by omega)] | rw [up_nn (by omega)])); (repeat (first | rw [us_at (by omega)] | rw [us_ne (by omega)])); (try (first | rfl | omega | assumption)); done
      · (repeat (first | rw [up_at (by omega) (by omega)] | rw [up_nn (by omega)])); (repeat (first | rw [us_at (by omega)] | rw [us_ne (by omega)])); (try (first | rfl | omega | assumption)); done
    · skip
      obtain ⟨⟨w1, w2, w3⟩, w4, w5, w6⟩ := h4 q (by omega)
      refine ⟨⟨?_, ?_, ?_⟩, ?_, ?_, ?_⟩
      · (repeat (first | rw [up_at (by omega) (by omega)] | rw [up_nn (by omega)])); (repeat (first | rw [us_at (by omega)] | rw [us_ne (by omega)])); (try (first | rfl | omega | assumption)); done
      · (repeat (first | rw [up_at (by omega) (by omega)] | rw [up_nn (by omega)])); (repeat (first | rw [us_at (by omega)] | rw [us_ne (by omega)])); (try (first | rfl | omega | assumption)); done
      · (repeat (first | rw [up_at (by omega) (by omega)] | rw [up_nn (by omega)])); (repeat (first | rw [us_at (by omega)] | rw [us_ne (by omega)])); (try (first | rfl | omega | assumption)); done
      · (repeat (first | rw [up_at (by omega) (by omega)] | rw [up_nn (by omega)])); (repeat (first | rw [us_at (by omega)] | rw [us_ne (by omega)])); (try (first | rfl | omega | assumption)); done
      · (repeat (first | rw [up_at (by omega) (by omega)] | rw [up_nn (by omega)])); (repeat (first | rw [us_at (by omega)] | rw [us_ne (by omega)])); (try (first | rfl | omega | assumption)); done
      · (repeat (first | rw [up_at (by omega) (by omega)] | rw [up_nn (by omega)])); (repeat (first | rw [us_at (by omega)] | rw [us_ne (by omega)])); (try (first | rfl | omega | assumption)); done
  · (repeat (first | rw [us_at (by omega)] at hq | rw [us_ne (by omega)] at hq))
    obtain ⟨⟨w1, w2⟩, ⟨w3, w4⟩, w5⟩ := h5 q (by omega)
    have hb := (o5 q (by omega)).1.2.1
    refine ⟨⟨?_, ?_⟩, ⟨fun hc => ?_, fun hc => ?_⟩, fun k hk => ?_⟩
    · (repeat (first | rw [up_at (by omega) (by omega)] | rw [up_nn (by omega)])); (repeat (first | rw [us_at (by omega)] | rw [us_ne (by omega)])); (try (first | rfl | omega | assumption)); done
    · (repeat (first | rw [up_at (by omega) (by omega)] | rw [up_nn (by omega)])); (repeat (first | rw [us_at (by omega)] | rw [us_ne (by omega)])); (try (first | rfl | omega | assumption)); done
    · (repeat (first | rw [us_at (by omega)] at hc | rw [us_ne (by omega)] at hc))
      have w9 := w3 hc
      obtain ⟨w10, w11⟩ := w9
      constructor <;> ((repeat (first | rw [up_at (by omega) (by omega)] | rw [up_nn (by omega)])); (repeat (first | rw [us_at (by omega)] | rw [us_ne (by omega)])); (try (first | rfl | omega | assumption)); done)
    · (repeat (first | rw [us_at (by omega)] at hc | rw [us_ne (by omega)] at hc))
      have w9 := w4 hc
      obtain ⟨w10, w11⟩ := w9
      constructor <;> ((repeat (first | rw [up_at (by omega) (by omega)] | rw [up_nn (by omega)])); (repeat (first | rw [us_at (by omega)] | rw [us_ne (by omega)])); (try (first | rfl | omega | assumption)); done)
    · (repeat (first | rw [us_at (by omega)] at hk | rw [us_ne (by omega)] at hk))
      obtain ⟨w7, w8⟩ := w5 k (by omega)
      constructor <;> ((repeat (first | rw [up_at (by omega) (by omega)] | rw [up_nn (by omega)])); (repeat (first | rw [us_at (by omega)] | rw [us_ne (by omega)])); (try (first | rfl | omega | assumption)); done)
set_option maxHeartbeats 4000000 in
theorem rel_begin {b : Nat} {I : GI} {S : Nat → Int} {n : Nat} {x c : Int} (h : Rel b I S) (ho : Oks S) (hn : S 5 = (n : Int)) (h6 : n < 4) (hc9 : c = S 5 + 1) : Rel b (beginI I b n x c) (oBegin S n x) := by
  obtain ⟨h1, ⟨c1, c2, c3⟩, h3, h4, h5⟩ := h
  obtain ⟨o1, o2, o3, o4, o5⟩ := ho
  unfold wP at h3; unfold jP at h4; unfold tP at h5
  unfold Rel wP jP tP beginI oBegin
  refine ⟨fun k hk => ?_, ⟨?_, ?_, ?_⟩, fun q hq => ?_, fun q hq => ?_, fun q hq => ?_⟩
  · (repeat (first | rw [up_at (by omega) (by omega)] | rw [up_nn (by omega)])); (repeat (first | rw [us_at (by omega)] | rw [us_ne (by omega)])); exact h1 k hk
  · (repeat (first | rw [up_at (by omega) (by omega)] | rw [up_nn (by omega)])); (repeat (first | rw [us_at (by omega)] | rw [us_ne (by omega)])); (try (first | rfl | omega | assumption)); done
  · (repeat (first | rw [up_at (by omega) (by omega)] | rw [up_nn (by omega)])); (repeat (first | rw [us_at (by omega)] | rw [us_ne (by omega)])); (try (first | rfl | omega | assumption)); done
  · (repeat (first | rw [up_at (by omega) (by omega)] | rw [up_nn (by omega)])); (repeat (first | rw [us_at (by omega)] | rw [us_ne (by omega)])); (try (first | rfl | omega | assumption)); done
  · (repeat (first | rw [us_at (by omega)] at hq | rw [us_ne (by omega)] at hq))
    have hw := h3 q (by omega)
    have hb := (o3 q (by omega)).1.2.2
    refine ⟨⟨?_, ?_, ?_⟩, fun k hk => ?_⟩
    · obtain ⟨⟨w1, w2, w3⟩, w4⟩ := hw; (repeat (first | rw [up_at (by omega) (by omega)] | rw [up_nn (by omega)])); (repeat (first | rw [us_at (by omega)] | rw [us_ne (by omega)])); (try (first | rfl | omega | assumption)); done
    · obtain ⟨⟨w1, w2, w3⟩, w4⟩ := hw; (repeat (first | rw [up_at (by omega) (by omega)] | rw [up_nn (by omega)])); (repeat (first | rw [us_at (by omega)] | rw [us_ne (by omega)])); (try (first | rfl | omega | assumption)); done
    · obtain ⟨⟨w1, w2, w3⟩, w4⟩ := hw; (repeat (first | rw [up_at (by omega) (by omega)] | rw [up_nn (by omega)])); (repeat (first | rw [us_at (by omega)] | rw [us_ne (by omega)])); (try (first | rfl | omega | assumption)); done
    · (repeat (first | rw [us_at (by omega)] at hk | rw [us_ne (by omega)] at hk))
      have := hw.2 k (by omega)
      (repeat (first | rw [up_at (by omega) (by omega)] | rw [up_nn (by omega)])); (repeat (first | rw [us_at (by omega)] | rw [us_ne (by omega)])); (try (first | rfl | omega | assumption)); done
  · (repeat (first | rw [us_at (by omega)] at hq | rw [us_ne (by omega)] at hq))
    obtain ⟨⟨w1, w2, w3⟩, w4, w5, w6⟩ := h4 q (by omega)
    refine ⟨⟨?_, ?_, ?_⟩, ?_, ?_, ?_⟩
    · (repeat (first | rw [up_at (by omega) (by omega)] | rw [up_nn (by omega)])); (repeat (first | rw [us_at (by omega)] | rw [us_ne (by omega)])); (try (first | rfl | omega | assumption)); done
    · (repeat (first | rw [up_at (by omega) (by omega)] | rw [up_nn (by omega)])); (repeat (first | rw [us_at (by omega)] | rw [us_ne (by omega)])); (try (first | rfl | omega | assumption)); done
    · (repeat (first | rw [up_at (by omega) (by omega)] | rw [up_nn (by omega)])); (repeat (first | rw [us_at (by omega)] | rw [us_ne (by omega)])); (try (first | rfl | omega | assumption)); done
    · (repeat (first | rw [up_at (by omega) (by omega)] | rw [up_nn (by omega)])); (repeat (first | rw [us_at (by omega)] | rw [us_ne (by omega)])); (try (first | rfl | omega | assumption)); done
    · (repeat (first | rw [up_at (by omega) (by omega)] | rw [up_nn (by omega)])); (repeat (first | rw [us_at (by omega)] | rw [us_ne (by omega)])); (try (first | rfl | omega | assumption)); done
    · (repeat (first | rw [up_at (by omega) (by omega)] | rw [up_nn (by omega)])); (repeat (first | rw [us_at (by omega)] | rw [us_ne (by omega)])); (try (first | rfl | omega | assumption)); done
  · (repeat (first | rw [us_at (by omega)] at hq | rw [us_ne (by omega)] at hq))
    by_cases e : q = n
    · subst q
      refine ⟨⟨?_, ?_⟩, ⟨fun hc => ?_, fun hc => ?_⟩, fun k hk => ?_⟩
      · (repeat (first | rw [up_at (by omega) (by omega)] | rw [up_nn (by omega)])); (repeat (first | rw [us_at (by omega)] | rw [us_ne (by omega)])); (try (first | rfl | omega | assumption)); done
      · (repeat (first | rw [up_at (by omega) (by omega)] | rw [up_nn (by omega)])); (repeat (first | rw [us_at (by omega)] | rw [us_ne (by omega)])); (try (first | rfl | omega | assumption)); done
      · (repeat (first | rw [us_at (by omega)] at hc | rw [us_ne (by omega)] at hc))
        first | (exfalso; omega) | (constructor <;> ((repeat (first | rw [up_at (by omega) (by omega)] | rw [up_nn (by omega)])); (repeat (first | rw [us_at (by omega)] | rw [us_ne (by omega)])); (try (first | rfl | omega | assumption)); done))
      · (repeat (first | rw [us_at (by omega)] at hc | rw [us_ne (by omega)] at hc))
        first | (exfalso; omega) | (constructor <;> ((repeat (first | rw [up_at (by omega) (by omega)] | rw [up_nn (by omega)])); (repeat (first | rw [us_at (by omega)] | rw [us_ne (by omega)])); (try (first | rfl | omega | assumption)); done))
      · (repeat (first | rw [us_at (by omega)] at hk | rw [us_ne (by omega)] at hk))
        omega
    · skip
      obtain ⟨⟨w1, w2⟩, ⟨w3, w4⟩, w5⟩ := h5 q (by omega)
      have hb := (o5 q (by omega)).1.2.1
      refine ⟨⟨?_, ?_⟩, ⟨fun hc => ?_, fun hc => ?_⟩, fun k hk => ?_⟩
      · (repeat (first | rw [up_at (by omega) (by omega)] | rw [up_nn (by omega)])); (repeat (first | rw [us_at (by omega)] | rw [us_ne (by omega)])); (try (first | rfl | omega | assumption)); done
      · (repeat (first | rw [up_at (by omega) (by omega)] | rw [up_nn (by omega)])); (repeat (first | rw [us_at (by omega)] | rw [us_ne (by omega)])); (try (first | rfl | omega | assumption)); done
      · (repeat (first | rw [us_at (by omega)] at hc | rw [us_ne (by omega)] at hc))
        have w9 := w3 hc
        obtain ⟨w10, w11⟩ := w9
        constructor <;> ((repeat (first | rw [up_at (by omega) (by omega)] | rw [up_nn (by omega)])); (repeat (first | rw [us_at (by omega)] | rw [us_ne (by omega)])); (try (first | rfl | omega | assumption)); done)
      · (repeat (first | rw [us_at (by omega)] at hc | rw [us_ne (by omega)] at hc))
        have w9 := w4 hc
        obtain ⟨w10, w11⟩ := w9
        constructor <;> ((repeat (first | rw [up_at (by omega) (by omega)] | rw [up_nn (by omega)])); (repeat (first | rw [us_at (by omega)] | rw [us_ne (by omega)])); (try (first | rfl | omega | assumption)); done)
      · (repeat (first | rw [us_at (by omega)] at hk | rw [us_ne (by omega)] at hk))
        obtain ⟨w7, w8⟩ := w5 k (by omega)
        constructor <;> ((repeat (first | rw [up_at (by omega) (by omega)] | rw [up_nn (by omega)])); (repeat (first | rw [us_at (by omega)] | rw [us_ne (by omega)])); (try (first | rfl | omega | assumption)); done)
set_option maxHeartbeats 4000000 in
theorem rel_add {b : Nat} {I : GI} {S : Nat → Int} {t n : Nat} {a l c : Int} (h : Rel b I S) (ho : Oks S) (ht9 : (t : Int) < S 5) (hn : S (103 + 28 * t) = (n : Int)) (h9 : n < 12) (hc9 : c = S (103 + 28 * t) + 1) : Rel b (addI I (b + 21 + 6 * t) n a l c) (oAdd S t n a l) := by
  obtain ⟨h1, ⟨c1, c2, c3⟩, h3, h4, h5⟩ := h
  obtain ⟨o1, o2, o3, o4, o5⟩ := ho
  unfold wP at h3; unfold jP at h4; unfold tP at h5
  unfold Rel wP jP tP addI oAdd
  refine ⟨fun k hk => ?_, ⟨?_, ?_, ?_⟩, fun q hq => ?_, fun q hq => ?_, fun q hq => ?_⟩
  · (repeat (first | rw [up_at (by omega) (by omega)] | rw [up_nn (by omega)])); (repeat (first | rw [us_at (by omega)] | rw [us_ne (by omega)])); exact h1 k hk
  · (repeat (first | rw [up_at (by omega) (by omega)] | rw [up_nn (by omega)])); (repeat (first | rw [us_at (by omega)] | rw [us_ne (by omega)])); (try (first | rfl | omega | assumption)); done
  · (repeat (first | rw [up_at (by omega) (by omega)] | rw [up_nn (by omega)])); (repeat (first | rw [us_at (by omega)] | rw [us_ne (by omega)])); (try (first | rfl | omega | assumption)); done
  · (repeat (first | rw [up_at (by omega) (by omega)] | rw [up_nn (by omega)])); (repeat (first | rw [us_at (by omega)] | rw [us_ne (by omega)])); (try (first | rfl | omega | assumption)); done
  · (repeat (first | rw [us_at (by omega)] at hq | rw [us_ne (by omega)] at hq))
    have hw := h3 q (by omega)
    have hb := (o3 q (by omega)).1.2.2
    refine ⟨⟨?_, ?_, ?_⟩, fun k hk => ?_⟩
    · obtain ⟨⟨w1, w2, w3⟩, w4⟩ := hw; (repeat (first | rw [up_at (by omega) (by omega)] | rw [up_nn (by omega)])); (repeat (first | rw [us_at (by omega)] | rw [us_ne (by omega)])); (try (first | rfl | omega | assumption)); done
    · obtain ⟨⟨w1, w2, w3⟩, w4⟩ := hw; (repeat (first | rw [up_at (by omega) (by omega)] | rw [up_nn (by omega)])); (repeat (first | rw [us_at (by omega)] | rw [us_ne (by omega)])); (try (first | rfl | omega | assumption)); done
    · obtain ⟨⟨w1, w2, w3⟩, w4⟩ := hw; (repeat (first | rw [up_at (by omega) (by omega)] | rw [up_nn (by omega)])); (repeat (first | rw [us_at (by omega)] | rw [us_ne (by omega)])); (try (first | rfl | omega | assumption)); done
    · (repeat (first | rw [us_at (by omega)] at hk | rw [us_ne (by omega)] at hk))
      have := hw.2 k (by omega)
      (repeat (first | rw [up_at (by omega) (by omega)] | rw [up_nn (by omega)])); (repeat (first | rw [us_at (by omega)] | rw [us_ne (by omega)])); (try (first | rfl | omega | assumption)); done
  · (repeat (first | rw [us_at (by omega)] at hq | rw [us_ne (by omega)] at hq))
    obtain ⟨⟨w1, w2, w3⟩, w4, w5, w6⟩ := h4 q (by omega)
    refine ⟨⟨?_, ?_, ?_⟩, ?_, ?_, ?_⟩
    · (repeat (first | rw [up_at (by omega) (by omega)] | rw [up_nn (by omega)])); (repeat (first | rw [us_at (by omega)] | rw [us_ne (by omega)])); (try (first | rfl | omega | assumption)); done
    · (repeat (first | rw [up_at (by omega) (by omega)] | rw [up_nn (by omega)])); (repeat (first | rw [us_at (by omega)] | rw [us_ne (by omega)])); (try (first | rfl | omega | assumption)); done
    · (repeat (first | rw [up_at (by omega) (by omega)] | rw [up_nn (by omega)])); (repeat (first | rw [us_at (by omega)] | rw [us_ne (by omega)])); (try (first | rfl | omega | assumption)); done
    · (repeat (first | rw [up_at (by omega) (by omega)] | rw [up_nn (by omega)])); (repeat (first | rw [us_at (by omega)] | rw [us_ne (by omega)])); (try (first | rfl | omega | assumption)); done
    · (repeat (first | rw [up_at (by omega) (by omega)] | rw [up_nn (by omega)])); (repeat (first | rw [us_at (by omega)] | rw [us_ne (by omega)])); (try (first | rfl | omega | assumption)); done
    · (repeat (first | rw [up_at (by omega) (by omega)] | rw [up_nn (by omega)])); (repeat (first | rw [us_at (by omega)] | rw [us_ne (by omega)])); (try (first | rfl | omega | assumption)); done
  · (repeat (first | rw [us_at (by omega)] at hq | rw [us_ne (by omega)] at hq))
    by_cases e : q = t
    · subst q
      obtain ⟨⟨w1, w2⟩, ⟨w3, w4⟩, w5⟩ := h5 t (by omega)
      have hb := (o5 t (by omega)).1.2.1
      refine ⟨⟨?_, ?_⟩, ⟨fun hc => ?_, fun hc => ?_⟩, fun k hk => ?_⟩
      · (repeat (first | rw [up_at (by omega) (by omega)] | rw [up_nn (by omega)])); (repeat (first | rw [us_at (by omega)] | rw [us_ne (by omega)])); (try (first | rfl | omega | assumption)); done
      · (repeat (first | rw [up_at (by omega) (by omega)] | rw [up_nn (by omega)])); (repeat (first | rw [us_at (by omega)] | rw [us_ne (by omega)])); (try (first | rfl | omega | assumption)); done
      · (repeat (first | rw [us_at (by omega)] at hc | rw [us_ne (by omega)] at hc))
        have w9 := w3 hc
        obtain ⟨w10, w11⟩ := w9
        constructor <;> ((repeat (first | rw [up_at (by omega) (by omega)] | rw [up_nn (by omega)])); (repeat (first | rw [us_at (by omega)] | rw [us_ne (by omega)])); (try (first | rfl | omega | assumption)); done)
      · (repeat (first | rw [us_at (by omega)] at hc | rw [us_ne (by omega)] at hc))
        have w9 := w4 hc
        obtain ⟨w10, w11⟩ := w9
        constructor <;> ((repeat (first | rw [up_at (by omega) (by omega)] | rw [up_nn (by omega)])); (repeat (first | rw [us_at (by omega)] | rw [us_ne (by omega)])); (try (first | rfl | omega | assumption)); done)
      · (repeat (first | rw [us_at (by omega)] at hk | rw [us_ne (by omega)] at hk))
        by_cases e2 : t = t ∧ k = n
        · constructor <;> ((repeat (first | rw [up_at (by omega) (by omega)] | rw [up_nn (by omega)])); (repeat (first | rw [us_at (by omega)] | rw [us_ne (by omega)])); (try (first | rfl | omega | assumption)); done)
        · obtain ⟨w7, w8⟩ := w5 k (by omega)
          constructor <;> ((repeat (first | rw [up_at (by omega) (by omega)] | rw [up_nn (by omega)])); (repeat (first | rw [us_at (by omega)] | rw [us_ne (by omega)])); (try (first | rfl | omega | assumption)); done)
    · skip
      obtain ⟨⟨w1, w2⟩, ⟨w3, w4⟩, w5⟩ := h5 q (by omega)
      have hb := (o5 q (by omega)).1.2.1
      refine ⟨⟨?_, ?_⟩, ⟨fun hc => ?_, fun hc => ?_⟩, fun k hk => ?_⟩
      · (repeat (first | rw [up_at (by omega) (by omega)] | rw [up_nn (by omega)])); (repeat (first | rw [us_at (by omega)] | rw [us_ne (by omega)])); (try (first | rfl | omega | assumption)); done
      · (repeat (first | rw [up_at (by omega) (by omega)] | rw [up_nn (by omega)])); (repeat (first | rw [us_at (by omega)] | rw [us_ne (by omega)])); (try (first | rfl | omega | assumption)); done
      · (repeat (first | rw [us_at (by omega)] at hc | rw [us_ne (by omega)] at hc))
        have w9 := w3 hc
        obtain ⟨w10, w11⟩ := w9
        constructor <;> ((repeat (first | rw [up_at (by omega) (by omega)] | rw [up_nn (by omega)])); (repeat (first | rw [us_at (by omega)] | rw [us_ne (by omega)])); (try (first | rfl | omega | assumption)); done)
      · (repeat (first | rw [us_at (by omega)] at hc | rw [us_ne (by omega)] at hc))
        have w9 := w4 hc
        obtain ⟨w10, w11⟩ := w9
        constructor <;> ((repeat (first | rw [up_at (by omega) (by omega)] | rw [up_nn (by omega)])); (repeat (first | rw [us_at (by omega)] | rw [us_ne (by omega)])); (try (first | rfl | omega | assumption)); done)
      · (repeat (first | rw [us_at (by omega)] at hk | rw [us_ne (by omega)] at hk))
        by_cases e2 : q = t ∧ k = n
        · constructor <;> ((repeat (first | rw [up_at (by omega) (by omega)] | rw [up_nn (by omega)])); (repeat (first | rw [us_at (by omega)] | rw [us_ne (by omega)])); (try (first | rfl | omega | assumption)); done)
        · obtain ⟨w7, w8⟩ := w5 k (by omega)
          constructor <;> ((repeat (first | rw [up_at (by omega) (by omega)] | rw [up_nn (by omega)])); (repeat (first | rw [us_at (by omega)] | rw [us_ne (by omega)])); (try (first | rfl | omega | assumption)); done)
set_option maxHeartbeats 4000000 in
theorem rel_drop {b : Nat} {I : GI} {S : Nat → Int} {t : Nat} {c : Int} (h : Rel b I S) (ho : Oks S) (ht9 : (t : Int) < S 5) (hc9 : c = S (103 + 28 * t) - 1) : Rel b (dropI I (b + 21 + 6 * t) c) (oDrop S t) := by
  obtain ⟨h1, ⟨c1, c2, c3⟩, h3, h4, h5⟩ := h
  obtain ⟨o1, o2, o3, o4, o5⟩ := ho
  unfold wP at h3; unfold jP at h4; unfold tP at h5
  unfold Rel wP jP tP dropI oDrop
  refine ⟨fun k hk => ?_, ⟨?_, ?_, ?_⟩, fun q hq => ?_, fun q hq => ?_, fun q hq => ?_⟩
  · (repeat (first | rw [up_at (by omega) (by omega)] | rw [up_nn (by omega)])); (repeat (first | rw [us_at (by omega)] | rw [us_ne (by omega)])); exact h1 k hk
  · (repeat (first | rw [up_at (by omega) (by omega)] | rw [up_nn (by omega)])); (repeat (first | rw [us_at (by omega)] | rw [us_ne (by omega)])); (try (first | rfl | omega | assumption)); done
  · (repeat (first | rw [up_at (by omega) (by omega)] | rw [up_nn (by omega)])); (repeat (first | rw [us_at (by omega)] | rw [us_ne (by omega)])); (try (first | rfl | omega | assumption)); done
  · (repeat (first | rw [up_at (by omega) (by omega)] | rw [up_nn (by omega)])); (repeat (first | rw [us_at (by omega)] | rw [us_ne (by omega)])); (try (first | rfl | omega | assumption)); done
  · (repeat (first | rw [us_at (by omega)] at hq | rw [us_ne (by omega)] at hq))
    have hw := h3 q (by omega)
    have hb := (o3 q (by omega)).1.2.2
    refine ⟨⟨?_, ?_, ?_⟩, fun k hk => ?_⟩
    · obtain ⟨⟨w1, w2, w3⟩, w4⟩ := hw; (repeat (first | rw [up_at (by omega) (by omega)] | rw [up_nn (by omega)])); (repeat (first | rw [us_at (by omega)] | rw [us_ne (by omega)])); (try (first | rfl | omega | assumption)); done
    · obtain ⟨⟨w1, w2, w3⟩, w4⟩ := hw; (repeat (first | rw [up_at (by omega) (by omega)] | rw [up_nn (by omega)])); (repeat (first | rw [us_at (by omega)] | rw [us_ne (by omega)])); (try (first | rfl | omega | assumption)); done
    · obtain ⟨⟨w1, w2, w3⟩, w4⟩ := hw; (repeat (first | rw [up_at (by omega) (by omega)] | rw [up_nn (by omega)])); (repeat (first | rw [us_at (by omega)] | rw [us_ne (by omega)])); (try (first | rfl | omega | assumption)); done
    · (repeat (first | rw [us_at (by omega)] at hk | rw [us_ne (by omega)] at hk))
      have := hw.2 k (by omega)
      (repeat (first | rw [up_at (by omega) (by omega)] | rw [up_nn (by omega)])); (repeat (first | rw [us_at (by omega)] | rw [us_ne (by omega)])); (try (first | rfl | omega | assumption)); done
  · (repeat (first | rw [us_at (by omega)] at hq | rw [us_ne (by omega)] at hq))
    obtain ⟨⟨w1, w2, w3⟩, w4, w5, w6⟩ := h4 q (by omega)
    refine ⟨⟨?_, ?_, ?_⟩, ?_, ?_, ?_⟩
    · (repeat (first | rw [up_at (by omega) (by omega)] | rw [up_nn (by omega)])); (repeat (first | rw [us_at (by omega)] | rw [us_ne (by omega)])); (try (first | rfl | omega | assumption)); done
    · (repeat (first | rw [up_at (by omega) (by omega)] | rw [up_nn (by omega)])); (repeat (first | rw [us_at (by omega)] | rw [us_ne (by omega)])); (try (first | rfl | omega | assumption)); done
    · (repeat (first | rw [up_at (by omega) (by omega)] | rw [up_nn (by omega)])); (repeat (first | rw [us_at (by omega)] | rw [us_ne (by omega)])); (try (first | rfl | omega | assumption)); done
    · (repeat (first | rw [up_at (by omega) (by omega)] | rw [up_nn (by omega)])); (repeat (first | rw [us_at (by omega)] | rw [us_ne (by omega)])); (try (first | rfl | omega | assumption)); done
    · (repeat (first | rw [up_at (by omega) (by omega)] | rw [up_nn (by omega)])); (repeat (first | rw [us_at (by omega)] | rw [us_ne (by omega)])); (try (first | rfl | omega | assumption)); done
    · (repeat (first | rw [up_at (by omega) (by omega)] | rw [up_nn (by omega)])); (repeat (first | rw [us_at (by omega)] | rw [us_ne (by omega)])); (try (first | rfl | omega | assumption)); done
  · (repeat (first | rw [us_at (by omega)] at hq | rw [us_ne (by omega)] at hq))
    by_cases e : q = t
    · subst q
      obtain ⟨⟨w1, w2⟩, ⟨w3, w4⟩, w5⟩ := h5 t (by omega)
      have hb := (o5 t (by omega)).1.2.1
      refine ⟨⟨?_, ?_⟩, ⟨fun hc => ?_, fun hc => ?_⟩, fun k hk => ?_⟩
      · (repeat (first | rw [up_at (by omega) (by omega)] | rw [up_nn (by omega)])); (repeat (first | rw [us_at (by omega)] | rw [us_ne (by omega)])); (try (first | rfl | omega | assumption)); done
      · (repeat (first | rw [up_at (by omega) (by omega)] | rw [up_nn (by omega)])); (repeat (first | rw [us_at (by omega)] | rw [us_ne (by omega)])); (try (first | rfl | omega | assumption)); done
      · (repeat (first | rw [us_at (by omega)] at hc | rw [us_ne (by omega)] at hc))
        first | (exfalso; omega) | (constructor <;> ((repeat (first | rw [up_at (by omega) (by omega)] | rw [up_nn (by omega)])); (repeat (first | rw [us_at (by omega)] | rw [us_ne (by omega)])); (try (first | rfl | omega | assumption)); done))
      · (repeat (first | rw [us_at (by omega)] at hc | rw [us_ne (by omega)] at hc))
        first | (exfalso; omega) | (constructor <;> ((repeat (first | rw [up_at (by omega) (by omega)] | rw [up_nn (by omega)])); (repeat (first | rw [us_at (by omega)] | rw [us_ne (by omega)])); (try (first | rfl | omega | assumption)); done))
      · (repeat (first | rw [us_at (by omega)] at hk | rw [us_ne (by omega)] at hk))
        obtain ⟨w7, w8⟩ := w5 k (by omega)
        constructor <;> ((repeat (first | rw [up_at (by omega) (by omega)] | rw [up_nn (by omega)])); (repeat (first | rw [us_at (by omega)] | rw [us_ne (by omega)])); (try (first | rfl | omega | assumption)); done)
    · skip
      obtain ⟨⟨w1, w2⟩, ⟨w3, w4⟩, w5⟩ := h5 q (by omega)
      have hb := (o5 q (by omega)).1.2.1
      refine ⟨⟨?_, ?_⟩, ⟨fun hc => ?_, fun hc => ?_⟩, fun k hk => ?_⟩
      · (repeat (first | rw [up_at (by omega) (by omega)] | rw [up_nn (by omega)])); (repeat (first | rw [us_at (by omega)] | rw [us_ne (by omega)])); (try (first | rfl | omega | assumption)); done
      · (repeat (first | rw [up_at (by omega) (by omega)] | rw [up_nn (by omega)])); (repeat (first | rw [us_at (by omega)] | rw [us_ne (by omega)])); (try (first | rfl | omega | assumption)); done
      · (repeat (first | rw [us_at (by omega)] at hc | rw [us_ne (by omega)] at hc))
        have w9 := w3 hc
        obtain ⟨w10, w11⟩ := w9
        constructor <;> ((repeat (first | rw [up_at (by omega) (by omega)] | rw [up_nn (by omega)])); (repeat (first | rw [us_at (by omega)] | rw [us_ne (by omega)])); (try (first | rfl | omega | assumption)); done)
      · (repeat (first | rw [us_at (by omega)] at hc | rw [us_ne (by omega)] at hc))
        have w9 := w4 hc
        obtain ⟨w10, w11⟩ := w9
        constructor <;> ((repeat (first | rw [up_at (by omega) (by omega)] | rw [up_nn (by omega)])); (repeat (first | rw [us_at (by omega)] | rw [us_ne (by omega)])); (try (first | rfl | omega | assumption)); done)
      · (repeat (first | rw [us_at (by omega)] at hk | rw [us_ne (by omega)] at hk))
        obtain ⟨w7, w8⟩ := w5 k (by omega)
        constructor <;> ((repeat (first | rw [up_at (by omega) (by omega)] | rw [up_nn (by omega)])); (repeat (first | rw [us_at (by omega)] | rw [us_ne (by omega)])); (try (first | rfl | omega | assumption)); done)
set_option maxHeartbeats 4000000 in
theorem rel_close {b : Nat} {I : GI} {S : Nat → Int} {t : Nat} {x y : Int} (h : Rel b I S) (ho : Oks S) (ht9 : (t : Int) < S 5) (hx9 : 0 ≤ x) : Rel b (closeI I (b + 21 + 6 * t) x y) (oClose S t x y) := by
  obtain ⟨h1, ⟨c1, c2, c3⟩, h3, h4, h5⟩ := h
  obtain ⟨o1, o2, o3, o4, o5⟩ := ho
  unfold wP at h3; unfold jP at h4; unfold tP at h5
  unfold Rel wP jP tP closeI oClose
  refine ⟨fun k hk => ?_, ⟨?_, ?_, ?_⟩, fun q hq => ?_, fun q hq => ?_, fun q hq => ?_⟩
  · (repeat (first | rw [up_at (by omega) (by omega)] | rw [up_nn (by omega)])); (repeat (first | rw [us_at (by omega)] | rw [us_ne (by omega)])); exact h1 k hk
  · (repeat (first | rw [up_at (by omega) (by omega)] | rw [up_nn (by omega)])); (repeat (first | rw [us_at (by omega)] | rw [us_ne (by omega)])); (try (first | rfl | omega | assumption)); done
  · (repeat (first | rw [up_at (by omega) (by omega)] | rw [up_nn (by omega)])); (repeat (first | rw [us_at (by omega)] | rw [us_ne (by omega)])); (try (first | rfl | omega | assumption)); done
  · (repeat (first | rw [up_at (by omega) (by omega)] | rw [up_nn (by omega)])); (repeat (first | rw [us_at (by omega)] | rw [us_ne (by omega)])); (try (first | rfl | omega | assumption)); done
  · (repeat (first | rw [us_at (by omega)] at hq | rw [us_ne (by omega)] at hq))
    have hw := h3 q (by omega)
    have hb := (o3 q (by omega)).1.2.2
    refine ⟨⟨?_, ?_, ?_⟩, fun k hk => ?_⟩
    · obtain ⟨⟨w1, w2, w3⟩, w4⟩ := hw; (repeat (first | rw [up_at (by omega) (by omega)] | rw [up_nn (by omega)])); (repeat (first | rw [us_at (by omega)] | rw [us_ne (by omega)])); (try (first | rfl | omega | assumption)); done
    · obtain ⟨⟨w1, w2, w3⟩, w4⟩ := hw; (repeat (first | rw [up_at (by omega) (by omega)] | rw [up_nn (by omega)])); (repeat (first | rw [us_at (by omega)] | rw [us_ne (by omega)])); (try (first | rfl | omega | assumption)); done
    · obtain ⟨⟨w1, w2, w3⟩, w4⟩ := hw; (repeat (first | rw [up_at (by omega) (by omega)] | rw [up_nn (by omega)])); (repeat (first | rw [us_at (by omega)] | rw [us_ne (by omega)])); (try (first | rfl | omega | assumption)); done
    · (repeat (first | rw [us_at (by omega)] at hk | rw [us_ne (by omega)] at hk))
      have := hw.2 k (by omega)
      (repeat (first | rw [up_at (by omega) (by omega)] | rw [up_nn (by omega)])); (repeat (first | rw [us_at (by omega)] | rw [us_ne (by omega)])); (try (first | rfl | omega | assumption)); done
  · (repeat (first | rw [us_at (by omega)] at hq | rw [us_ne (by omega)] at hq))
    obtain ⟨⟨w1, w2, w3⟩, w4, w5, w6⟩ := h4 q (by omega)
    refine ⟨⟨?_, ?_, ?_⟩, ?_, ?_, ?_⟩
    · (repeat (first | rw [up_at (by omega) (by omega)] | rw [up_nn (by omega)])); (repeat (first | rw [us_at (by omega)] | rw [us_ne (by omega)])); (try (first | rfl | omega | assumption)); done
    · (repeat (first | rw [up_at (by omega) (by omega)] | rw [up_nn (by omega)])); (repeat (first | rw [us_at (by omega)] | rw [us_ne (by omega)])); (try (first | rfl | omega | assumption)); done
    · (repeat (first | rw [up_at (by omega) (by omega)] | rw [up_nn (by omega)])); (repeat (first | rw [us_at (by omega)] | rw [us_ne (by omega)])); (try (first | rfl | omega | assumption)); done
    · (repeat (first | rw [up_at (by omega) (by omega)] | rw [up_nn (by omega)])); (repeat (first | rw [us_at (by omega)] | rw [us_ne (by omega)])); (try (first | rfl | omega | assumption)); done
    · (repeat (first | rw [up_at (by omega) (by omega)] | rw [up_nn (by omega)])); (repeat (first | rw [us_at (by omega)] | rw [us_ne (by omega)])); (try (first | rfl | omega | assumption)); done
    · (repeat (first | rw [up_at (by omega) (by omega)] | rw [up_nn (by omega)])); (repeat (first | rw [us_at (by omega)] | rw [us_ne (by omega)])); (try (first | rfl | omega | assumption)); done
  · (repeat (first | rw [us_at (by omega)] at hq | rw [us_ne (by omega)] at hq))
    by_cases e : q = t
    · subst q
      obtain ⟨⟨w1, w2⟩, ⟨w3, w4⟩, w5⟩ := h5 t (by omega)
      have hb := (o5 t (by omega)).1.2.1
      refine ⟨⟨?_, ?_⟩, ⟨fun hc => ?_, fun hc => ?_⟩, fun k hk => ?_⟩
      · (repeat (first | rw [up_at (by omega) (by omega)] | rw [up_nn (by omega)])); (repeat (first | rw [us_at (by omega)] | rw [us_ne (by omega)])); (try (first | rfl | omega | assumption)); done
      · (repeat (first | rw [up_at (by omega) (by omega)] | rw [up_nn (by omega)])); (repeat (first | rw [us_at (by omega)] | rw [us_ne (by omega)])); (try (first | rfl | omega | assumption)); done
      · (repeat (first | rw [us_at (by omega)] at hc | rw [us_ne (by omega)] at hc))
        first | (exfalso; omega) | (constructor <;> ((repeat (first | rw [up_at (by omega) (by omega)] | rw [up_nn (by omega)])); (repeat (first | rw [us_at (by omega)] | rw [us_ne (by omega)])); (try (first | rfl | omega | assumption)); done))
      · (repeat (first | rw [us_at (by omega)] at hc | rw [us_ne (by omega)] at hc))
        first | (exfalso; omega) | (constructor <;> ((repeat (first | rw [up_at (by omega) (by omega)] | rw [up_nn (by omega)])); (repeat (first | rw [us_at (by omega)] | rw [us_ne (by omega)])); (try (first | rfl | omega | assumption)); done))
      · (repeat (first | rw [us_at (by omega)] at hk | rw [us_ne (by omega)] at hk))
        obtain ⟨w7, w8⟩ := w5 k (by omega)
        constructor <;> ((repeat (first | rw [up_at (by omega) (by omega)] | rw [up_nn (by omega)])); (repeat (first | rw [us_at (by omega)] | rw [us_ne (by omega)])); (try (first | rfl | omega | assumption)); done)
    · skip
      obtain ⟨⟨w1, w2⟩, ⟨w3, w4⟩, w5⟩ := h5 q (by omega)
      have hb := (o5 q (by omega)).1.2.1
      refine ⟨⟨?_, ?_⟩, ⟨fun hc => ?_, fun hc => ?_⟩, fun k hk => ?_⟩
      · (repeat (first | rw [up_at (by omega) (by omega)] | rw [up_nn (by omega)])); (repeat (first | rw [us_at (by omega)] | rw [us_ne (by omega)])); (try (first | rfl | omega | assumption)); done
      · (repeat (first | rw [up_at (by omega) (by omega)] | rw [up_nn (by omega)])); (repeat (first | rw [us_at (by omega)] | rw [us_ne (by omega)])); (try (first | rfl | omega | assumption)); done
      · (repeat (first | rw [us_at (by omega)] at hc | rw [us_ne (by omega)] at hc))
        have w9 := w3 hc
        obtain ⟨w10, w11⟩ := w9
        constructor <;> ((repeat (first | rw [up_at (by omega) (by omega)] | rw [up_nn (by omega)])); (repeat (first | rw [us_at (by omega)] | rw [us_ne (by omega)])); (try (first | rfl | omega | assumption)); done)
      · (repeat (first | rw [us_at (by omega)] at hc | rw [us_ne (by omega)] at hc))
        have w9 := w4 hc
        obtain ⟨w10, w11⟩ := w9
        constructor <;> ((repeat (first | rw [up_at (by omega) (by omega)] | rw [up_nn (by omega)])); (repeat (first | rw [us_at (by omega)] | rw [us_ne (by omega)])); (try (first | rfl | omega | assumption)); done)
      · (repeat (first | rw [us_at (by omega)] at hk | rw [us_ne (by omega)] at hk))
        obtain ⟨w7, w8⟩ := w5 k (by omega)
        constructor <;> ((repeat (first | rw [up_at (by omega) (by omega)] | rw [up_nn (by omega)])); (repeat (first | rw [us_at (by omega)] | rw [us_ne (by omega)])); (try (first | rfl | omega | assumption)); done)
set_option maxHeartbeats 4000000 in
theorem oks_set {S : Nat → Int} {w : Nat} {v : Int} (ho : Oks S) (hv : (w = 0 ∧ 0 ≤ v ∧ v ≤ 999) ∨ (w = 1 ∧ 1 ≤ v ∧ v ≤ 600) ∨ (w = 2 ∧ 0 ≤ v ∧ v ≤ 999999)) : Oks (oSet S w v) := by
  obtain ⟨⟨s0, s1, s2⟩, ⟨o3, o4, o5⟩, h3, h4, h5⟩ := ho
  unfold Oks oSet
  refine ⟨⟨?_, ?_, ?_⟩, ⟨?_, ?_, ?_⟩, fun q hq => ?_, fun q hq => ?_, fun q hq => ?_⟩
  · by_cases e : w = 0
    · subst e; ((repeat (first | rw [us_at (by omega)] | rw [us_ne (by omega)])); (try omega); done)
    · ((repeat (first | rw [us_at (by omega)] | rw [us_ne (by omega)])); (try omega); done)
  · by_cases e : w = 1
    · subst e; ((repeat (first | rw [us_at (by omega)] | rw [us_ne (by omega)])); (try omega); done)
    · ((repeat (first | rw [us_at (by omega)] | rw [us_ne (by omega)])); (try omega); done)
  · by_cases e : w = 2
    · subst e; ((repeat (first | rw [us_at (by omega)] | rw [us_ne (by omega)])); (try omega); done)
    · ((repeat (first | rw [us_at (by omega)] | rw [us_ne (by omega)])); (try omega); done)
  · ((repeat (first | rw [us_at (by omega)] | rw [us_ne (by omega)])); (try omega); done)
  · ((repeat (first | rw [us_at (by omega)] | rw [us_ne (by omega)])); (try omega); done)
  · ((repeat (first | rw [us_at (by omega)] | rw [us_ne (by omega)])); (try omega); done)
  · (repeat (first | rw [us_at (by omega)] at hq | rw [us_ne (by omega)] at hq))
    obtain ⟨⟨w1, w2, w3⟩, w4⟩ := h3 q (by omega)
    refine ⟨⟨by ((repeat (first | rw [us_at (by omega)] | rw [us_ne (by omega)])); (try omega); done), by ((repeat (first | rw [us_at (by omega)] | rw [us_ne (by omega)])); (try omega); done), by ((repeat (first | rw [us_at (by omega)] | rw [us_ne (by omega)])); (try omega); done)⟩, fun k hk => ?_⟩
    (repeat (first | rw [us_at (by omega)] at hk | rw [us_ne (by omega)] at hk))
    have := w4 k (by omega)
    ((repeat (first | rw [us_at (by omega)] | rw [us_ne (by omega)])); (try omega); done)
  · (repeat (first | rw [us_at (by omega)] at hq | rw [us_ne (by omega)] at hq))
    obtain ⟨⟨w1, w2, w3⟩, w4, w5, w6⟩ := h4 q (by omega)
    exact ⟨⟨by ((repeat (first | rw [us_at (by omega)] | rw [us_ne (by omega)])); (try omega); done), by ((repeat (first | rw [us_at (by omega)] | rw [us_ne (by omega)])); (try omega); done), by ((repeat (first | rw [us_at (by omega)] | rw [us_ne (by omega)])); (try omega); done)⟩, by ((repeat (first | rw [us_at (by omega)] | rw [us_ne (by omega)])); (try omega); done), by ((repeat (first | rw [us_at (by omega)] | rw [us_ne (by omega)])); (try omega); done), by ((repeat (first | rw [us_at (by omega)] | rw [us_ne (by omega)])); (try omega); done)⟩
  · (repeat (first | rw [us_at (by omega)] at hq | rw [us_ne (by omega)] at hq))
    obtain ⟨⟨w1, w2, w3⟩, w4, w5⟩ := h5 q (by omega)
    refine ⟨⟨by ((repeat (first | rw [us_at (by omega)] | rw [us_ne (by omega)])); (try omega); done), by ((repeat (first | rw [us_at (by omega)] | rw [us_ne (by omega)])); (try omega); done), by ((repeat (first | rw [us_at (by omega)] | rw [us_ne (by omega)])); (try omega); done)⟩, fun hc => ?_, fun k hk => ?_⟩
    · (repeat (first | rw [us_at (by omega)] at hc | rw [us_ne (by omega)] at hc))
      have := w4 hc
      constructor <;> ((repeat (first | rw [us_at (by omega)] | rw [us_ne (by omega)])); (try omega); done)
    · (repeat (first | rw [us_at (by omega)] at hk | rw [us_ne (by omega)] at hk))
      have := w5 k (by omega)
      constructor <;> ((repeat (first | rw [us_at (by omega)] | rw [us_ne (by omega)])); (try omega); done)
set_option maxHeartbeats 4000000 in
theorem oks_hang {S : Nat → Int} {n : Nat} {e1 o9 : Int} (ho : Oks S) (hn : S 3 = (n : Int)) (h6 : n < 6) (he : -1000000 ≤ e1 ∧ e1 ≤ 1000000) (ho9 : -1000000 ≤ o9 ∧ o9 ≤ 1000000) : Oks (oHang S n e1 o9) := by
  obtain ⟨⟨s0, s1, s2⟩, ⟨o3, o4, o5⟩, h3, h4, h5⟩ := ho
  unfold Oks oHang
  refine ⟨⟨?_, ?_, ?_⟩, ⟨?_, ?_, ?_⟩, fun q hq => ?_, fun q hq => ?_, fun q hq => ?_⟩
  · ((repeat (first | rw [us_at (by omega)] | rw [us_ne (by omega)])); (try omega); done)
  · ((repeat (first | rw [us_at (by omega)] | rw [us_ne (by omega)])); (try omega); done)
  · ((repeat (first | rw [us_at (by omega)] | rw [us_ne (by omega)])); (try omega); done)
  · ((repeat (first | rw [us_at (by omega)] | rw [us_ne (by omega)])); (try omega); done)
  · ((repeat (first | rw [us_at (by omega)] | rw [us_ne (by omega)])); (try omega); done)
  · ((repeat (first | rw [us_at (by omega)] | rw [us_ne (by omega)])); (try omega); done)
  · (repeat (first | rw [us_at (by omega)] at hq | rw [us_ne (by omega)] at hq))
    by_cases e : q = n
    · subst q
      refine ⟨⟨by ((repeat (first | rw [us_at (by omega)] | rw [us_ne (by omega)])); (try omega); done), by ((repeat (first | rw [us_at (by omega)] | rw [us_ne (by omega)])); (try omega); done), by ((repeat (first | rw [us_at (by omega)] | rw [us_ne (by omega)])); (try omega); done)⟩, fun k hk => ?_⟩
      (repeat (first | rw [us_at (by omega)] at hk | rw [us_ne (by omega)] at hk))
      omega
    · skip
      obtain ⟨⟨w1, w2, w3⟩, w4⟩ := h3 q (by omega)
      refine ⟨⟨by ((repeat (first | rw [us_at (by omega)] | rw [us_ne (by omega)])); (try omega); done), by ((repeat (first | rw [us_at (by omega)] | rw [us_ne (by omega)])); (try omega); done), by ((repeat (first | rw [us_at (by omega)] | rw [us_ne (by omega)])); (try omega); done)⟩, fun k hk => ?_⟩
      (repeat (first | rw [us_at (by omega)] at hk | rw [us_ne (by omega)] at hk))
      have := w4 k (by omega)
      ((repeat (first | rw [us_at (by omega)] | rw [us_ne (by omega)])); (try omega); done)
  · (repeat (first | rw [us_at (by omega)] at hq | rw [us_ne (by omega)] at hq))
    obtain ⟨⟨w1, w2, w3⟩, w4, w5, w6⟩ := h4 q (by omega)
    exact ⟨⟨by ((repeat (first | rw [us_at (by omega)] | rw [us_ne (by omega)])); (try omega); done), by ((repeat (first | rw [us_at (by omega)] | rw [us_ne (by omega)])); (try omega); done), by ((repeat (first | rw [us_at (by omega)] | rw [us_ne (by omega)])); (try omega); done)⟩, by ((repeat (first | rw [us_at (by omega)] | rw [us_ne (by omega)])); (try omega); done), by ((repeat (first | rw [us_at (by omega)] | rw [us_ne (by omega)])); (try omega); done), by ((repeat (first | rw [us_at (by omega)] | rw [us_ne (by omega)])); (try omega); done)⟩
  · (repeat (first | rw [us_at (by omega)] at hq | rw [us_ne (by omega)] at hq))
    obtain ⟨⟨w1, w2, w3⟩, w4, w5⟩ := h5 q (by omega)
    refine ⟨⟨by ((repeat (first | rw [us_at (by omega)] | rw [us_ne (by omega)])); (try omega); done), by ((repeat (first | rw [us_at (by omega)] | rw [us_ne (by omega)])); (try omega); done), by ((repeat (first | rw [us_at (by omega)] | rw [us_ne (by omega)])); (try omega); done)⟩, fun hc => ?_, fun k hk => ?_⟩
    · (repeat (first | rw [us_at (by omega)] at hc | rw [us_ne (by omega)] at hc))
      have := w4 hc
      constructor <;> ((repeat (first | rw [us_at (by omega)] | rw [us_ne (by omega)])); (try omega); done)
    · (repeat (first | rw [us_at (by omega)] at hk | rw [us_ne (by omega)] at hk))
      have := w5 k (by omega)
      constructor <;> ((repeat (first | rw [us_at (by omega)] | rw [us_ne (by omega)])); (try omega); done)
set_option maxHeartbeats 4000000 in
theorem oks_swing {S : Nat → Int} {w n : Nat} {x : Int} (ho : Oks S) (hw9 : (w : Int) < S 3) (hn : S (8 + 12 * w) = (n : Int)) (h9 : n < 9) (hx : 0 ≤ x ∧ x ≤ 999) : Oks (oSwing S w n x) := by
  obtain ⟨⟨s0, s1, s2⟩, ⟨o3, o4, o5⟩, h3, h4, h5⟩ := ho
  unfold Oks oSwing
  refine ⟨⟨?_, ?_, ?_⟩, ⟨?_, ?_, ?_⟩, fun q hq => ?_, fun q hq => ?_, fun q hq => ?_⟩
  · ((repeat (first | rw [us_at (by omega)] | rw [us_ne (by omega)])); (try omega); done)
  · ((repeat (first | rw [us_at (by omega)] | rw [us_ne (by omega)])); (try omega); done)
  · ((repeat (first | rw [us_at (by omega)] | rw [us_ne (by omega)])); (try omega); done)
  · ((repeat (first | rw [us_at (by omega)] | rw [us_ne (by omega)])); (try omega); done)
  · ((repeat (first | rw [us_at (by omega)] | rw [us_ne (by omega)])); (try omega); done)
  · ((repeat (first | rw [us_at (by omega)] | rw [us_ne (by omega)])); (try omega); done)
  · (repeat (first | rw [us_at (by omega)] at hq | rw [us_ne (by omega)] at hq))
    by_cases e : q = w
    · subst q
      obtain ⟨⟨w1, w2, w3⟩, w4⟩ := h3 w (by omega)
      refine ⟨⟨by ((repeat (first | rw [us_at (by omega)] | rw [us_ne (by omega)])); (try omega); done), by ((repeat (first | rw [us_at (by omega)] | rw [us_ne (by omega)])); (try omega); done), by ((repeat (first | rw [us_at (by omega)] | rw [us_ne (by omega)])); (try omega); done)⟩, fun k hk => ?_⟩
      (repeat (first | rw [us_at (by omega)] at hk | rw [us_ne (by omega)] at hk))
      by_cases e2 : w = w ∧ k = n
      · ((repeat (first | rw [us_at (by omega)] | rw [us_ne (by omega)])); (try omega); done)
      · have := w4 k (by omega)
        ((repeat (first | rw [us_at (by omega)] | rw [us_ne (by omega)])); (try omega); done)
    · skip
      obtain ⟨⟨w1, w2, w3⟩, w4⟩ := h3 q (by omega)
      refine ⟨⟨by ((repeat (first | rw [us_at (by omega)] | rw [us_ne (by omega)])); (try omega); done), by ((repeat (first | rw [us_at (by omega)] | rw [us_ne (by omega)])); (try omega); done), by ((repeat (first | rw [us_at (by omega)] | rw [us_ne (by omega)])); (try omega); done)⟩, fun k hk => ?_⟩
      (repeat (first | rw [us_at (by omega)] at hk | rw [us_ne (by omega)] at hk))
      by_cases e2 : q = w ∧ k = n
      · ((repeat (first | rw [us_at (by omega)] | rw [us_ne (by omega)])); (try omega); done)
      · have := w4 k (by omega)
        ((repeat (first | rw [us_at (by omega)] | rw [us_ne (by omega)])); (try omega); done)
  · (repeat (first | rw [us_at (by omega)] at hq | rw [us_ne (by omega)] at hq))
    obtain ⟨⟨w1, w2, w3⟩, w4, w5, w6⟩ := h4 q (by omega)
    exact ⟨⟨by ((repeat (first | rw [us_at (by omega)] | rw [us_ne (by omega)])); (try omega); done), by ((repeat (first | rw [us_at (by omega)] | rw [us_ne (by omega)])); (try omega); done), by ((repeat (first | rw [us_at (by omega)] | rw [us_ne (by omega)])); (try omega); done)⟩, by ((repeat (first | rw [us_at (by omega)] | rw [us_ne (by omega)])); (try omega); done), by ((repeat (first | rw [us_at (by omega)] | rw [us_ne (by omega)])); (try omega); done), by ((repeat (first | rw [us_at (by omega)] | rw [us_ne (by omega)])); (try omega); done)⟩
  · (repeat (first | rw [us_at (by omega)] at hq | rw [us_ne (by omega)] at hq))
    obtain ⟨⟨w1, w2, w3⟩, w4, w5⟩ := h5 q (by omega)
    refine ⟨⟨by ((repeat (first | rw [us_at (by omega)] | rw [us_ne (by omega)])); (try omega); done), by ((repeat (first | rw [us_at (by omega)] | rw [us_ne (by omega)])); (try omega); done), by ((repeat (first | rw [us_at (by omega)] | rw [us_ne (by omega)])); (try omega); done)⟩, fun hc => ?_, fun k hk => ?_⟩
    · (repeat (first | rw [us_at (by omega)] at hc | rw [us_ne (by omega)] at hc))
      have := w4 hc
      constructor <;> ((repeat (first | rw [us_at (by omega)] | rw [us_ne (by omega)])); (try omega); done)
    · (repeat (first | rw [us_at (by omega)] at hk | rw [us_ne (by omega)] at hk))
      have := w5 k (by omega)
      constructor <;> ((repeat (first | rw [us_at (by omega)] | rw [us_ne (by omega)])); (try omega); done)
set_option maxHeartbeats 4000000 in
theorem oks_still {S : Nat → Int} {w : Nat} (ho : Oks S) (hw9 : (w : Int) < S 3) : Oks (oStill S w) := by
  obtain ⟨⟨s0, s1, s2⟩, ⟨o3, o4, o5⟩, h3, h4, h5⟩ := ho
  unfold Oks oStill
  refine ⟨⟨?_, ?_, ?_⟩, ⟨?_, ?_, ?_⟩, fun q hq => ?_, fun q hq => ?_, fun q hq => ?_⟩
  · ((repeat (first | rw [us_at (by omega)] | rw [us_ne (by omega)])); (try omega); done)
  · ((repeat (first | rw [us_at (by omega)] | rw [us_ne (by omega)])); (try omega); done)
  · ((repeat (first | rw [us_at (by omega)] | rw [us_ne (by omega)])); (try omega); done)
  · ((repeat (first | rw [us_at (by omega)] | rw [us_ne (by omega)])); (try omega); done)
  · ((repeat (first | rw [us_at (by omega)] | rw [us_ne (by omega)])); (try omega); done)
  · ((repeat (first | rw [us_at (by omega)] | rw [us_ne (by omega)])); (try omega); done)
  · (repeat (first | rw [us_at (by omega)] at hq | rw [us_ne (by omega)] at hq))
    by_cases e : q = w
    · subst q
      obtain ⟨⟨w1, w2, w3⟩, w4⟩ := h3 w (by omega)
      refine ⟨⟨by ((repeat (first | rw [us_at (by omega)] | rw [us_ne (by omega)])); (try omega); done), by ((repeat (first | rw [us_at (by omega)] | rw [us_ne (by omega)])); (try omega); done), by ((repeat (first | rw [us_at (by omega)] | rw [us_ne (by omega)])); (try omega); done)⟩, fun k hk => ?_⟩
      (repeat (first | rw [us_at (by omega)] at hk | rw [us_ne (by omega)] at hk))
      first | (exfalso; omega) | (have := w4 k (by omega); ((repeat (first | rw [us_at (by omega)] | rw [us_ne (by omega)])); (try omega); done))
    · skip
      obtain ⟨⟨w1, w2, w3⟩, w4⟩ := h3 q (by omega)
      refine ⟨⟨by ((repeat (first | rw [us_at (by omega)] | rw [us_ne (by omega)])); (try omega); done), by ((repeat (first | rw [us_at (by omega)] | rw [us_ne (by omega)])); (try omega); done), by ((repeat (first | rw [us_at (by omega)] | rw [us_ne (by omega)])); (try omega); done)⟩, fun k hk => ?_⟩
      (repeat (first | rw [us_at (by omega)] at hk | rw [us_ne (by omega)] at hk))
      first | (exfalso; omega) | (have := w4 k (by omega); ((repeat (first | rw [us_at (by omega)] | rw [us_ne (by omega)])); (try omega); done))
  · (repeat (first | rw [us_at (by omega)] at hq | rw [us_ne (by omega)] at hq))
    obtain ⟨⟨w1, w2, w3⟩, w4, w5, w6⟩ := h4 q (by omega)
    exact ⟨⟨by ((repeat (first | rw [us_at (by omega)] | rw [us_ne (by omega)])); (try omega); done), by ((repeat (first | rw [us_at (by omega)] | rw [us_ne (by omega)])); (try omega); done), by ((repeat (first | rw [us_at (by omega)] | rw [us_ne (by omega)])); (try omega); done)⟩, by ((repeat (first | rw [us_at (by omega)] | rw [us_ne (by omega)])); (try omega); done), by ((repeat (first | rw [us_at (by omega)] | rw [us_ne (by omega)])); (try omega); done), by ((repeat (first | rw [us_at (by omega)] | rw [us_ne (by omega)])); (try omega); done)⟩
  · (repeat (first | rw [us_at (by omega)] at hq | rw [us_ne (by omega)] at hq))
    obtain ⟨⟨w1, w2, w3⟩, w4, w5⟩ := h5 q (by omega)
    refine ⟨⟨by ((repeat (first | rw [us_at (by omega)] | rw [us_ne (by omega)])); (try omega); done), by ((repeat (first | rw [us_at (by omega)] | rw [us_ne (by omega)])); (try omega); done), by ((repeat (first | rw [us_at (by omega)] | rw [us_ne (by omega)])); (try omega); done)⟩, fun hc => ?_, fun k hk => ?_⟩
    · (repeat (first | rw [us_at (by omega)] at hc | rw [us_ne (by omega)] at hc))
      have := w4 hc
      constructor <;> ((repeat (first | rw [us_at (by omega)] | rw [us_ne (by omega)])); (try omega); done)
    · (repeat (first | rw [us_at (by omega)] at hk | rw [us_ne (by omega)] at hk))
      have := w5 k (by omega)
      constructor <;> ((repeat (first | rw [us_at (by omega)] | rw [us_ne (by omega)])); (try omega); done)
set_option maxHeartbeats 4000000 in
theorem oks_join {S : Nat → Int} {n : Nat} {x1 x2 x3 x4 x5 x6 : Int} (ho : Oks S) (hn : S 4 = (n : Int)) (h6 : n < 4) (g1 : 0 ≤ x1 ∧ x1 < S 3) (g2 : 0 ≤ x2 ∧ x2 < S 3) (g3 : 0 ≤ x3 ∧ x3 ≤ 1295999) (g4 : 100 ≤ x4 ∧ x4 ≤ 20000) (g5 : 100 ≤ x5 ∧ x5 ≤ 50000) (g6 : -3600 ≤ x6 ∧ x6 ≤ 3600) : Oks (oJoin S n x1 x2 x3 x4 x5 x6) := by
  obtain ⟨⟨s0, s1, s2⟩, ⟨o3, o4, o5⟩, h3, h4, h5⟩ := ho
  unfold Oks oJoin
  refine ⟨⟨?_, ?_, ?_⟩, ⟨?_, ?_, ?_⟩, fun q hq => ?_, fun q hq => ?_, fun q hq => ?_⟩
  · ((repeat (first | rw [us_at (by omega)] | rw [us_ne (by omega)])); (try omega); done)
  · ((repeat (first | rw [us_at (by omega)] | rw [us_ne (by omega)])); (try omega); done)
  · ((repeat (first | rw [us_at (by omega)] | rw [us_ne (by omega)])); (try omega); done)
  · ((repeat (first | rw [us_at (by omega)] | rw [us_ne (by omega)])); (try omega); done)
  · ((repeat (first | rw [us_at (by omega)] | rw [us_ne (by omega)])); (try omega); done)
  · ((repeat (first | rw [us_at (by omega)] | rw [us_ne (by omega)])); (try omega); done)
  · (repeat (first | rw [us_at (by omega)] at hq | rw [us_ne (by omega)] at hq))
    obtain ⟨⟨w1, w2, w3⟩, w4⟩ := h3 q (by omega)
    refine ⟨⟨by ((repeat (first | rw [us_at (by omega)] | rw [us_ne (by omega)])); (try omega); done), by ((repeat (first | rw [us_at (by omega)] | rw [us_ne (by omega)])); (try omega); done), by ((repeat (first | rw [us_at (by omega)] | rw [us_ne (by omega)])); (try omega); done)⟩, fun k hk => ?_⟩
    (repeat (first | rw [us_at (by omega)] at hk | rw [us_ne (by omega)] at hk))
    have := w4 k (by omega)
    ((repeat (first | rw [us_at (by omega)] | rw [us_ne (by omega)])); (try omega); done)
  · (repeat (first | rw [us_at (by omega)] at hq | rw [us_ne (by omega)] at hq))
    by_cases e : q = n
    · subst q
      exact ⟨⟨by ((repeat (first | rw [us_at (by omega)] | rw [us_ne (by omega)])); (try omega); done), by ((repeat (first | rw [us_at (by omega)] | rw [us_ne (by omega)])); (try omega); done), by ((repeat (first | rw [us_at (by omega)] | rw [us_ne (by omega)])); (try omega); done)⟩, by ((repeat (first | rw [us_at (by omega)] | rw [us_ne (by omega)])); (try omega); done), by ((repeat (first | rw [us_at (by omega)] | rw [us_ne (by omega)])); (try omega); done), by ((repeat (first | rw [us_at (by omega)] | rw [us_ne (by omega)])); (try omega); done)⟩
    · skip
      obtain ⟨⟨w1, w2, w3⟩, w4, w5, w6⟩ := h4 q (by omega)
      exact ⟨⟨by ((repeat (first | rw [us_at (by omega)] | rw [us_ne (by omega)])); (try omega); done), by ((repeat (first | rw [us_at (by omega)] | rw [us_ne (by omega)])); (try omega); done), by ((repeat (first | rw [us_at (by omega)] | rw [us_ne (by omega)])); (try omega); done)⟩, by ((repeat (first | rw [us_at (by omega)] | rw [us_ne (by omega)])); (try omega); done), by ((repeat (first | rw [us_at (by omega)] | rw [us_ne (by omega)])); (try omega); done), by ((repeat (first | rw [us_at (by omega)] | rw [us_ne (by omega)])); (try omega); done)⟩
  · (repeat (first | rw [us_at (by omega)] at hq | rw [us_ne (by omega)] at hq))
    obtain ⟨⟨w1, w2, w3⟩, w4, w5⟩ := h5 q (by omega)
    refine ⟨⟨by ((repeat (first | rw [us_at (by omega)] | rw [us_ne (by omega)])); (try omega); done), by ((repeat (first | rw [us_at (by omega)] | rw [us_ne (by omega)])); (try omega); done), by ((repeat (first | rw [us_at (by omega)] | rw [us_ne (by omega)])); (try omega); done)⟩, fun hc => ?_, fun k hk => ?_⟩
    · (repeat (first | rw [us_at (by omega)] at hc | rw [us_ne (by omega)] at hc))
      have := w4 hc
      constructor <;> ((repeat (first | rw [us_at (by omega)] | rw [us_ne (by omega)])); (try omega); done)
    · (repeat (first | rw [us_at (by omega)] at hk | rw [us_ne (by omega)] at hk))
      have := w5 k (by omega)
      constructor <;> ((repeat (first | rw [us_at (by omega)] | rw [us_ne (by omega)])); (try omega); done)
set_option maxHeartbeats 4000000 in
theorem oks_meas {S : Nat → Int} {j : Nat} {g : Int} (ho : Oks S) (hj9 : (j : Int) < S 4) (hg : -3600 ≤ g ∧ g ≤ 3600) : Oks (oMeas S j g) := by
  obtain ⟨⟨s0, s1, s2⟩, ⟨o3, o4, o5⟩, h3, h4, h5⟩ := ho
  unfold Oks oMeas
  refine ⟨⟨?_, ?_, ?_⟩, ⟨?_, ?_, ?_⟩, fun q hq => ?_, fun q hq => ?_, fun q hq => ?_⟩
  · ((repeat (first | rw [us_at (by omega)] | rw [us_ne (by omega)])); (try omega); done)
  · ((repeat (first | rw [us_at (by omega)] | rw [us_ne (by omega)])); (try omega); done)
  · ((repeat (first | rw [us_at (by omega)] | rw [us_ne (by omega)])); (try omega); done)
  · ((repeat (first | rw [us_at (by omega)] | rw [us_ne (by omega)])); (try omega); done)
  · ((repeat (first | rw [us_at (by omega)] | rw [us_ne (by omega)])); (try omega); done)
  · ((repeat (first | rw [us_at (by omega)] | rw [us_ne (by omega)])); (try omega); done)
  · (repeat (first | rw [us_at (by omega)] at hq | rw [us_ne (by omega)] at hq))
    obtain ⟨⟨w1, w2, w3⟩, w4⟩ := h3 q (by omega)
    refine ⟨⟨by ((repeat (first | rw [us_at (by omega)] | rw [us_ne (by omega)])); (try omega); done), by ((repeat (first | rw [us_at (by omega)] | rw [us_ne (by omega)])); (try omega); done), by ((repeat (first | rw [us_at (by omega)] | rw [us_ne (by omega)])); (try omega); done)⟩, fun k hk => ?_⟩
    (repeat (first | rw [us_at (by omega)] at hk | rw [us_ne (by omega)] at hk))
    have := w4 k (by omega)
    ((repeat (first | rw [us_at (by omega)] | rw [us_ne (by omega)])); (try omega); done)
  · (repeat (first | rw [us_at (by omega)] at hq | rw [us_ne (by omega)] at hq))
    by_cases e : q = j
    · subst q
      obtain ⟨⟨w1, w2, w3⟩, w4, w5, w6⟩ := h4 j (by omega)
      exact ⟨⟨by ((repeat (first | rw [us_at (by omega)] | rw [us_ne (by omega)])); (try omega); done), by ((repeat (first | rw [us_at (by omega)] | rw [us_ne (by omega)])); (try omega); done), by ((repeat (first | rw [us_at (by omega)] | rw [us_ne (by omega)])); (try omega); done)⟩, by ((repeat (first | rw [us_at (by omega)] | rw [us_ne (by omega)])); (try omega); done), by ((repeat (first | rw [us_at (by omega)] | rw [us_ne (by omega)])); (try omega); done), by ((repeat (first | rw [us_at (by omega)] | rw [us_ne (by omega)])); (try omega); done)⟩
    · skip
      obtain ⟨⟨w1, w2, w3⟩, w4, w5, w6⟩ := h4 q (by omega)
      exact ⟨⟨by ((repeat (first | rw [us_at (by omega)] | rw [us_ne (by omega)])); (try omega); done), by ((repeat (first | rw [us_at (by omega)] | rw [us_ne (by omega)])); (try omega); done), by ((repeat (first | rw [us_at (by omega)] | rw [us_ne (by omega)])); (try omega); done)⟩, by ((repeat (first | rw [us_at (by omega)] | rw [us_ne (by omega)])); (try omega); done), by ((repeat (first | rw [us_at (by omega)] | rw [us_ne (by omega)])); (try omega); done), by ((repeat (first | rw [us_at (by omega)] | rw [us_ne (by omega)])); (try omega); done)⟩
  · (repeat (first | rw [us_at (by omega)] at hq | rw [us_ne (by omega)] at hq))
    obtain ⟨⟨w1, w2, w3⟩, w4, w5⟩ := h5 q (by omega)
    refine ⟨⟨by ((repeat (first | rw [us_at (by omega)] | rw [us_ne (by omega)])); (try omega); done), by ((repeat (first | rw [us_at (by omega)] | rw [us_ne (by omega)])); (try omega); done), by ((repeat (first | rw [us_at (by omega)] | rw [us_ne (by omega)])); (try omega); done)⟩, fun hc => ?_, fun k hk => ?_⟩
    · (repeat (first | rw [us_at (by omega)] at hc | rw [us_ne (by omega)] at hc))
      have := w4 hc
      constructor <;> ((repeat (first | rw [us_at (by omega)] | rw [us_ne (by omega)])); (try omega); done)
    · (repeat (first | rw [us_at (by omega)] at hk | rw [us_ne (by omega)] at hk))
      have := w5 k (by omega)
      constructor <;> ((repeat (first | rw [us_at (by omega)] | rw [us_ne (by omega)])); (try omega); done)
set_option maxHeartbeats 4000000 in
theorem oks_begin {S : Nat → Int} {n : Nat} {x : Int} (ho : Oks S) (hn : S 5 = (n : Int)) (h6 : n < 4) (hx : 0 ≤ x ∧ x < S 4) : Oks (oBegin S n x) := by
  obtain ⟨⟨s0, s1, s2⟩, ⟨o3, o4, o5⟩, h3, h4, h5⟩ := ho
  unfold Oks oBegin
  refine ⟨⟨?_, ?_, ?_⟩, ⟨?_, ?_, ?_⟩, fun q hq => ?_, fun q hq => ?_, fun q hq => ?_⟩
  · ((repeat (first | rw [us_at (by omega)] | rw [us_ne (by omega)])); (try omega); done)
  · ((repeat (first | rw [us_at (by omega)] | rw [us_ne (by omega)])); (try omega); done)
  · ((repeat (first | rw [us_at (by omega)] | rw [us_ne (by omega)])); (try omega); done)
  · ((repeat (first | rw [us_at (by omega)] | rw [us_ne (by omega)])); (try omega); done)
  · ((repeat (first | rw [us_at (by omega)] | rw [us_ne (by omega)])); (try omega); done)
  · ((repeat (first | rw [us_at (by omega)] | rw [us_ne (by omega)])); (try omega); done)
  · (repeat (first | rw [us_at (by omega)] at hq | rw [us_ne (by omega)] at hq))
    obtain ⟨⟨w1, w2, w3⟩, w4⟩ := h3 q (by omega)
    refine ⟨⟨by ((repeat (first | rw [us_at (by omega)] | rw [us_ne (by omega)])); (try omega); done), by ((repeat (first | rw [us_at (by omega)] | rw [us_ne (by omega)])); (try omega); done), by ((repeat (first | rw [us_at (by omega)] | rw [us_ne (by omega)])); (try omega); done)⟩, fun k hk => ?_⟩
    (repeat (first | rw [us_at (by omega)] at hk | rw [us_ne (by omega)] at hk))
    have := w4 k (by omega)
    ((repeat (first | rw [us_at (by omega)] | rw [us_ne (by omega)])); (try omega); done)
  · (repeat (first | rw [us_at (by omega)] at hq | rw [us_ne (by omega)] at hq))
    obtain ⟨⟨w1, w2, w3⟩, w4, w5, w6⟩ := h4 q (by omega)
    exact ⟨⟨by ((repeat (first | rw [us_at (by omega)] | rw [us_ne (by omega)])); (try omega); done), by ((repeat (first | rw [us_at (by omega)] | rw [us_ne (by omega)])); (try omega); done), by ((repeat (first | rw [us_at (by omega)] | rw [us_ne (by omega)])); (try omega); done)⟩, by ((repeat (first | rw [us_at (by omega)] | rw [us_ne (by omega)])); (try omega); done), by ((repeat (first | rw [us_at (by omega)] | rw [us_ne (by omega)])); (try omega); done), by ((repeat (first | rw [us_at (by omega)] | rw [us_ne (by omega)])); (try omega); done)⟩
  · (repeat (first | rw [us_at (by omega)] at hq | rw [us_ne (by omega)] at hq))
    by_cases e : q = n
    · subst q
      refine ⟨⟨by ((repeat (first | rw [us_at (by omega)] | rw [us_ne (by omega)])); (try omega); done), by ((repeat (first | rw [us_at (by omega)] | rw [us_ne (by omega)])); (try omega); done), by ((repeat (first | rw [us_at (by omega)] | rw [us_ne (by omega)])); (try omega); done)⟩, fun hc => ?_, fun k hk => ?_⟩
      · (repeat (first | rw [us_at (by omega)] at hc | rw [us_ne (by omega)] at hc))
        omega
      · (repeat (first | rw [us_at (by omega)] at hk | rw [us_ne (by omega)] at hk))
        omega
    · skip
      obtain ⟨⟨w1, w2, w3⟩, w4, w5⟩ := h5 q (by omega)
      refine ⟨⟨by ((repeat (first | rw [us_at (by omega)] | rw [us_ne (by omega)])); (try omega); done), by ((repeat (first | rw [us_at (by omega)] | rw [us_ne (by omega)])); (try omega); done), by ((repeat (first | rw [us_at (by omega)] | rw [us_ne (by omega)])); (try omega); done)⟩, fun hc => ?_, fun k hk => ?_⟩
      · (repeat (first | rw [us_at (by omega)] at hc | rw [us_ne (by omega)] at hc))
        have := w4 hc
        constructor <;> ((repeat (first | rw [us_at (by omega)] | rw [us_ne (by omega)])); (try omega); done)
      · (repeat (first | rw [us_at (by omega)] at hk | rw [us_ne (by omega)] at hk))
        have := w5 k (by omega)
        constructor <;> ((repeat (first | rw [us_at (by omega)] | rw [us_ne (by omega)])); (try omega); done)
set_option maxHeartbeats 4000000 in
theorem oks_add {S : Nat → Int} {t n : Nat} {a l : Int} (ho : Oks S) (ht9 : (t : Int) < S 5) (hn : S (103 + 28 * t) = (n : Int)) (h9 : n < 12) (hcl : S (104 + 28 * t) < 0) (ha : 0 ≤ a ∧ a ≤ 1295999) (hl : 1 ≤ l ∧ l ≤ 200000) : Oks (oAdd S t n a l) := by
  obtain ⟨⟨s0, s1, s2⟩, ⟨o3, o4, o5⟩, h3, h4, h5⟩ := ho
  unfold Oks oAdd
  refine ⟨⟨?_, ?_, ?_⟩, ⟨?_, ?_, ?_⟩, fun q hq => ?_, fun q hq => ?_, fun q hq => ?_⟩
  · ((repeat (first | rw [us_at (by omega)] | rw [us_ne (by omega)])); (try omega); done)
  · ((repeat (first | rw [us_at (by omega)] | rw [us_ne (by omega)])); (try omega); done)
  · ((repeat (first | rw [us_at (by omega)] | rw [us_ne (by omega)])); (try omega); done)
  · ((repeat (first | rw [us_at (by omega)] | rw [us_ne (by omega)])); (try omega); done)
  · ((repeat (first | rw [us_at (by omega)] | rw [us_ne (by omega)])); (try omega); done)
  · ((repeat (first | rw [us_at (by omega)] | rw [us_ne (by omega)])); (try omega); done)
  · (repeat (first | rw [us_at (by omega)] at hq | rw [us_ne (by omega)] at hq))
    obtain ⟨⟨w1, w2, w3⟩, w4⟩ := h3 q (by omega)
    refine ⟨⟨by ((repeat (first | rw [us_at (by omega)] | rw [us_ne (by omega)])); (try omega); done), by ((repeat (first | rw [us_at (by omega)] | rw [us_ne (by omega)])); (try omega); done), by ((repeat (first | rw [us_at (by omega)] | rw [us_ne (by omega)])); (try omega); done)⟩, fun k hk => ?_⟩
    (repeat (first | rw [us_at (by omega)] at hk | rw [us_ne (by omega)] at hk))
    have := w4 k (by omega)
    ((repeat (first | rw [us_at (by omega)] | rw [us_ne (by omega)])); (try omega); done)
  · (repeat (first | rw [us_at (by omega)] at hq | rw [us_ne (by omega)] at hq))
    obtain ⟨⟨w1, w2, w3⟩, w4, w5, w6⟩ := h4 q (by omega)
    exact ⟨⟨by ((repeat (first | rw [us_at (by omega)] | rw [us_ne (by omega)])); (try omega); done), by ((repeat (first | rw [us_at (by omega)] | rw [us_ne (by omega)])); (try omega); done), by ((repeat (first | rw [us_at (by omega)] | rw [us_ne (by omega)])); (try omega); done)⟩, by ((repeat (first | rw [us_at (by omega)] | rw [us_ne (by omega)])); (try omega); done), by ((repeat (first | rw [us_at (by omega)] | rw [us_ne (by omega)])); (try omega); done), by ((repeat (first | rw [us_at (by omega)] | rw [us_ne (by omega)])); (try omega); done)⟩
  · (repeat (first | rw [us_at (by omega)] at hq | rw [us_ne (by omega)] at hq))
    by_cases e : q = t
    · subst q
      obtain ⟨⟨w1, w2, w3⟩, w4, w5⟩ := h5 t (by omega)
      refine ⟨⟨by ((repeat (first | rw [us_at (by omega)] | rw [us_ne (by omega)])); (try omega); done), by ((repeat (first | rw [us_at (by omega)] | rw [us_ne (by omega)])); (try omega); done), by ((repeat (first | rw [us_at (by omega)] | rw [us_ne (by omega)])); (try omega); done)⟩, fun hc => ?_, fun k hk => ?_⟩
      · (repeat (first | rw [us_at (by omega)] at hc | rw [us_ne (by omega)] at hc))
        have := w4 hc
        constructor <;> ((repeat (first | rw [us_at (by omega)] | rw [us_ne (by omega)])); (try omega); done)
      · (repeat (first | rw [us_at (by omega)] at hk | rw [us_ne (by omega)] at hk))
        by_cases e2 : t = t ∧ k = n
        · constructor <;> ((repeat (first | rw [us_at (by omega)] | rw [us_ne (by omega)])); (try omega); done)
        · have := w5 k (by omega)
          constructor <;> ((repeat (first | rw [us_at (by omega)] | rw [us_ne (by omega)])); (try omega); done)
    · skip
      obtain ⟨⟨w1, w2, w3⟩, w4, w5⟩ := h5 q (by omega)
      refine ⟨⟨by ((repeat (first | rw [us_at (by omega)] | rw [us_ne (by omega)])); (try omega); done), by ((repeat (first | rw [us_at (by omega)] | rw [us_ne (by omega)])); (try omega); done), by ((repeat (first | rw [us_at (by omega)] | rw [us_ne (by omega)])); (try omega); done)⟩, fun hc => ?_, fun k hk => ?_⟩
      · (repeat (first | rw [us_at (by omega)] at hc | rw [us_ne (by omega)] at hc))
        have := w4 hc
        constructor <;> ((repeat (first | rw [us_at (by omega)] | rw [us_ne (by omega)])); (try omega); done)
      · (repeat (first | rw [us_at (by omega)] at hk | rw [us_ne (by omega)] at hk))
        by_cases e2 : q = t ∧ k = n
        · constructor <;> ((repeat (first | rw [us_at (by omega)] | rw [us_ne (by omega)])); (try omega); done)
        · have := w5 k (by omega)
          constructor <;> ((repeat (first | rw [us_at (by omega)] | rw [us_ne (by omega)])); (try omega); done)
set_option maxHeartbeats 4000000 in
theorem oks_drop {S : Nat → Int} {t : Nat} (ho : Oks S) (ht9 : (t : Int) < S 5) (h1 : 1 ≤ S (103 + 28 * t)) : Oks (oDrop S t) := by
  obtain ⟨⟨s0, s1, s2⟩, ⟨o3, o4, o5⟩, h3, h4, h5⟩ := ho
  unfold Oks oDrop
  refine ⟨⟨?_, ?_, ?_⟩, ⟨?_, ?_, ?_⟩, fun q hq => ?_, fun q hq => ?_, fun q hq => ?_⟩
  · ((repeat (first | rw [us_at (by omega)] | rw [us_ne (by omega)])); (try omega); done)
  · ((repeat (first | rw [us_at (by omega)] | rw [us_ne (by omega)])); (try omega); done)
  · ((repeat (first | rw [us_at (by omega)] | rw [us_ne (by omega)])); (try omega); done)
  · ((repeat (first | rw [us_at (by omega)] | rw [us_ne (by omega)])); (try omega); done)
  · ((repeat (first | rw [us_at (by omega)] | rw [us_ne (by omega)])); (try omega); done)
  · ((repeat (first | rw [us_at (by omega)] | rw [us_ne (by omega)])); (try omega); done)
  · (repeat (first | rw [us_at (by omega)] at hq | rw [us_ne (by omega)] at hq))
    obtain ⟨⟨w1, w2, w3⟩, w4⟩ := h3 q (by omega)
    refine ⟨⟨by ((repeat (first | rw [us_at (by omega)] | rw [us_ne (by omega)])); (try omega); done), by ((repeat (first | rw [us_at (by omega)] | rw [us_ne (by omega)])); (try omega); done), by ((repeat (first | rw [us_at (by omega)] | rw [us_ne (by omega)])); (try omega); done)⟩, fun k hk => ?_⟩
    (repeat (first | rw [us_at (by omega)] at hk | rw [us_ne (by omega)] at hk))
    have := w4 k (by omega)
    ((repeat (first | rw [us_at (by omega)] | rw [us_ne (by omega)])); (try omega); done)
  · (repeat (first | rw [us_at (by omega)] at hq | rw [us_ne (by omega)] at hq))
    obtain ⟨⟨w1, w2, w3⟩, w4, w5, w6⟩ := h4 q (by omega)
    exact ⟨⟨by ((repeat (first | rw [us_at (by omega)] | rw [us_ne (by omega)])); (try omega); done), by ((repeat (first | rw [us_at (by omega)] | rw [us_ne (by omega)])); (try omega); done), by ((repeat (first | rw [us_at (by omega)] | rw [us_ne (by omega)])); (try omega); done)⟩, by ((repeat (first | rw [us_at (by omega)] | rw [us_ne (by omega)])); (try omega); done), by ((repeat (first | rw [us_at (by omega)] | rw [us_ne (by omega)])); (try omega); done), by ((repeat (first | rw [us_at (by omega)] | rw [us_ne (by omega)])); (try omega); done)⟩
  · (repeat (first | rw [us_at (by omega)] at hq | rw [us_ne (by omega)] at hq))
    by_cases e : q = t
    · subst q
      obtain ⟨⟨w1, w2, w3⟩, w4, w5⟩ := h5 t (by omega)
      refine ⟨⟨by ((repeat (first | rw [us_at (by omega)] | rw [us_ne (by omega)])); (try omega); done), by ((repeat (first | rw [us_at (by omega)] | rw [us_ne (by omega)])); (try omega); done), by ((repeat (first | rw [us_at (by omega)] | rw [us_ne (by omega)])); (try omega); done)⟩, fun hc => ?_, fun k hk => ?_⟩
      · (repeat (first | rw [us_at (by omega)] at hc | rw [us_ne (by omega)] at hc))
        first | (exfalso; omega) | (constructor <;> (((repeat (first | rw [us_at (by omega)] | rw [us_ne (by omega)])); (try omega); done))) | (have := w4 hc; constructor <;> (((repeat (first | rw [us_at (by omega)] | rw [us_ne (by omega)])); (try omega); done)))
      · (repeat (first | rw [us_at (by omega)] at hk | rw [us_ne (by omega)] at hk))
        have := w5 k (by omega)
        constructor <;> ((repeat (first | rw [us_at (by omega)] | rw [us_ne (by omega)])); (try omega); done)
    · skip
      obtain ⟨⟨w1, w2, w3⟩, w4, w5⟩ := h5 q (by omega)
      refine ⟨⟨by ((repeat (first | rw [us_at (by omega)] | rw [us_ne (by omega)])); (try omega); done), by ((repeat (first | rw [us_at (by omega)] | rw [us_ne (by omega)])); (try omega); done), by ((repeat (first | rw [us_at (by omega)] | rw [us_ne (by omega)])); (try omega); done)⟩, fun hc => ?_, fun k hk => ?_⟩
      · (repeat (first | rw [us_at (by omega)] at hc | rw [us_ne (by omega)] at hc))
        first | (exfalso; omega) | (constructor <;> (((repeat (first | rw [us_at (by omega)] | rw [us_ne (by omega)])); (try omega); done))) | (have := w4 hc; constructor <;> (((repeat (first | rw [us_at (by omega)] | rw [us_ne (by omega)])); (try omega); done)))
      · (repeat (first | rw [us_at (by omega)] at hk | rw [us_ne (by omega)] at hk))
        have := w5 k (by omega)
        constructor <;> ((repeat (first | rw [us_at (by omega)] | rw [us_ne (by omega)])); (try omega); done)
set_option maxHeartbeats 4000000 in
theorem oks_close {S : Nat → Int} {t : Nat} {x y : Int} (ho : Oks S) (ht9 : (t : Int) < S 5) (h1 : 1 ≤ S (103 + 28 * t)) (hx : 0 ≤ x ∧ x < S 4 ∧ x ≠ S (102 + 28 * t)) (hy : 0 ≤ y ∧ y ≤ 1295999) : Oks (oClose S t x y) := by
  obtain ⟨⟨s0, s1, s2⟩, ⟨o3, o4, o5⟩, h3, h4, h5⟩ := ho
  unfold Oks oClose
  refine ⟨⟨?_, ?_, ?_⟩, ⟨?_, ?_, ?_⟩, fun q hq => ?_, fun q hq => ?_, fun q hq => ?_⟩
  · ((repeat (first | rw [us_at (by omega)] | rw [us_ne (by omega)])); (try omega); done)
  · ((repeat (first | rw [us_at (by omega)] | rw [us_ne (by omega)])); (try omega); done)
  · ((repeat (first | rw [us_at (by omega)] | rw [us_ne (by omega)])); (try omega); done)
  · ((repeat (first | rw [us_at (by omega)] | rw [us_ne (by omega)])); (try omega); done)
  · ((repeat (first | rw [us_at (by omega)] | rw [us_ne (by omega)])); (try omega); done)
  · ((repeat (first | rw [us_at (by omega)] | rw [us_ne (by omega)])); (try omega); done)
  · (repeat (first | rw [us_at (by omega)] at hq | rw [us_ne (by omega)] at hq))
    obtain ⟨⟨w1, w2, w3⟩, w4⟩ := h3 q (by omega)
    refine ⟨⟨by ((repeat (first | rw [us_at (by omega)] | rw [us_ne (by omega)])); (try omega); done), by ((repeat (first | rw [us_at (by omega)] | rw [us_ne (by omega)])); (try omega); done), by ((repeat (first | rw [us_at (by omega)] | rw [us_ne (by omega)])); (try omega); done)⟩, fun k hk => ?_⟩
    (repeat (first | rw [us_at (by omega)] at hk | rw [us_ne (by omega)] at hk))
    have := w4 k (by omega)
    ((repeat (first | rw [us_at (by omega)] | rw [us_ne (by omega)])); (try omega); done)
  · (repeat (first | rw [us_at (by omega)] at hq | rw [us_ne (by omega)] at hq))
    obtain ⟨⟨w1, w2, w3⟩, w4, w5, w6⟩ := h4 q (by omega)
    exact ⟨⟨by ((repeat (first | rw [us_at (by omega)] | rw [us_ne (by omega)])); (try omega); done), by ((repeat (first | rw [us_at (by omega)] | rw [us_ne (by omega)])); (try omega); done), by ((repeat (first | rw [us_at (by omega)] | rw [us_ne (by omega)])); (try omega); done)⟩, by ((repeat (first | rw [us_at (by omega)] | rw [us_ne (by omega)])); (try omega); done), by ((repeat (first | rw [us_at (by omega)] | rw [us_ne (by omega)])); (try omega); done), by ((repeat (first | rw [us_at (by omega)] | rw [us_ne (by omega)])); (try omega); done)⟩
  · (repeat (first | rw [us_at (by omega)] at hq | rw [us_ne (by omega)] at hq))
    by_cases e : q = t
    · subst q
      obtain ⟨⟨w1, w2, w3⟩, w4, w5⟩ := h5 t (by omega)
      refine ⟨⟨by ((repeat (first | rw [us_at (by omega)] | rw [us_ne (by omega)])); (try omega); done), by ((repeat (first | rw [us_at (by omega)] | rw [us_ne (by omega)])); (try omega); done), by ((repeat (first | rw [us_at (by omega)] | rw [us_ne (by omega)])); (try omega); done)⟩, fun hc => ?_, fun k hk => ?_⟩
      · (repeat (first | rw [us_at (by omega)] at hc | rw [us_ne (by omega)] at hc))
        first | (exfalso; omega) | (constructor <;> (((repeat (first | rw [us_at (by omega)] | rw [us_ne (by omega)])); (try omega); done))) | (have := w4 hc; constructor <;> (((repeat (first | rw [us_at (by omega)] | rw [us_ne (by omega)])); (try omega); done)))
      · (repeat (first | rw [us_at (by omega)] at hk | rw [us_ne (by omega)] at hk))
        have := w5 k (by omega)
        constructor <;> ((repeat (first | rw [us_at (by omega)] | rw [us_ne (by omega)])); (try omega); done)
    · skip
      obtain ⟨⟨w1, w2, w3⟩, w4, w5⟩ := h5 q (by omega)
      refine ⟨⟨by ((repeat (first | rw [us_at (by omega)] | rw [us_ne (by omega)])); (try omega); done), by ((repeat (first | rw [us_at (by omega)] | rw [us_ne (by omega)])); (try omega); done), by ((repeat (first | rw [us_at (by omega)] | rw [us_ne (by omega)])); (try omega); done)⟩, fun hc => ?_, fun k hk => ?_⟩
      · (repeat (first | rw [us_at (by omega)] at hc | rw [us_ne (by omega)] at hc))
        first | (exfalso; omega) | (constructor <;> (((repeat (first | rw [us_at (by omega)] | rw [us_ne (by omega)])); (try omega); done))) | (have := w4 hc; constructor <;> (((repeat (first | rw [us_at (by omega)] | rw [us_ne (by omega)])); (try omega); done)))
      · (repeat (first | rw [us_at (by omega)] at hk | rw [us_ne (by omega)] at hk))
        have := w5 k (by omega)
        constructor <;> ((repeat (first | rw [us_at (by omega)] | rw [us_ne (by omega)])); (try omega); done)
set_option maxHeartbeats 4000000 in
theorem raw_set {b : Nat} {I : GI} {w : Nat} {v : Int} (h : Raw b I)  : Raw b (up I (b + 1) w v) := by
  obtain ⟨h1, h2⟩ := h
  refine ⟨fun q hq => ?_, fun q hq => ?_⟩
  · obtain ⟨⟨w1, w2⟩, w3, w4⟩ := h1 q hq
    unfold wP at w1 w2 w3 w4
    unfold wOk wP
    refine ⟨⟨by ((repeat (first | rw [up_at (by omega) (by omega)] | rw [up_nn (by omega)])); (try omega); done), by ((repeat (first | rw [up_at (by omega) (by omega)] | rw [up_nn (by omega)])); (try omega); done)⟩, by ((repeat (first | rw [up_at (by omega) (by omega)] | rw [up_nn (by omega)])); (try omega); done), fun k hk => ?_⟩
    have := w4 k hk
    ((repeat (first | rw [up_at (by omega) (by omega)] | rw [up_nn (by omega)])); (try omega); done)
  · obtain ⟨⟨w1, w2⟩, ⟨w3, w4⟩, w5, w6⟩ := h2 q hq
    unfold tP at w1 w2 w3 w4 w5 w6
    unfold tOk tP
    refine ⟨⟨by ((repeat (first | rw [up_at (by omega) (by omega)] | rw [up_nn (by omega)])); (try omega); done), by ((repeat (first | rw [up_at (by omega) (by omega)] | rw [up_nn (by omega)])); (try omega); done)⟩, ⟨by ((repeat (first | rw [up_at (by omega) (by omega)] | rw [up_nn (by omega)])); (try omega); done), by ((repeat (first | rw [up_at (by omega) (by omega)] | rw [up_nn (by omega)])); (try omega); done)⟩, fun k hk => ?_, fun k hk => ?_⟩
    · have := w5 k hk
      ((repeat (first | rw [up_at (by omega) (by omega)] | rw [up_nn (by omega)])); (try omega); done)
    · have := w6 k hk
      ((repeat (first | rw [up_at (by omega) (by omega)] | rw [up_nn (by omega)])); (try omega); done)
set_option maxHeartbeats 4000000 in
theorem raw_hang {b : Nat} {I : GI} {n : Nat} {e1 o9 c : Int} (h : Raw b I) (h6 : n < 6) (he : -1000000 ≤ e1 ∧ e1 ≤ 1000000) (ho9 : -1000000 ≤ o9 ∧ o9 ≤ 1000000) : Raw b (hangI I b n e1 o9 c) := by
  obtain ⟨h1, h2⟩ := h
  refine ⟨fun q hq => ?_, fun q hq => ?_⟩
  · obtain ⟨⟨w1, w2⟩, w3, w4⟩ := h1 q hq
    unfold wP at w1 w2 w3 w4
    unfold wOk wP hangI
    by_cases e : q = n
    · subst q
      refine ⟨⟨by ((repeat (first | rw [up_at (by omega) (by omega)] | rw [up_nn (by omega)])); (try omega); done), by ((repeat (first | rw [up_at (by omega) (by omega)] | rw [up_nn (by omega)])); (try omega); done)⟩, by ((repeat (first | rw [up_at (by omega) (by omega)] | rw [up_nn (by omega)])); (try omega); done), fun k hk => ?_⟩
      have := w4 k hk
      ((repeat (first | rw [up_at (by omega) (by omega)] | rw [up_nn (by omega)])); (try omega); done)
    · skip
      refine ⟨⟨by ((repeat (first | rw [up_at (by omega) (by omega)] | rw [up_nn (by omega)])); (try omega); done), by ((repeat (first | rw [up_at (by omega) (by omega)] | rw [up_nn (by omega)])); (try omega); done)⟩, by ((repeat (first | rw [up_at (by omega) (by omega)] | rw [up_nn (by omega)])); (try omega); done), fun k hk => ?_⟩
      have := w4 k hk
      ((repeat (first | rw [up_at (by omega) (by omega)] | rw [up_nn (by omega)])); (try omega); done)
  · obtain ⟨⟨w1, w2⟩, ⟨w3, w4⟩, w5, w6⟩ := h2 q hq
    unfold tP at w1 w2 w3 w4 w5 w6
    unfold tOk tP hangI
    refine ⟨⟨by ((repeat (first | rw [up_at (by omega) (by omega)] | rw [up_nn (by omega)])); (try omega); done), by ((repeat (first | rw [up_at (by omega) (by omega)] | rw [up_nn (by omega)])); (try omega); done)⟩, ⟨by ((repeat (first | rw [up_at (by omega) (by omega)] | rw [up_nn (by omega)])); (try omega); done), by ((repeat (first | rw [up_at (by omega) (by omega)] | rw [up_nn (by omega)])); (try omega); done)⟩, fun k hk => ?_, fun k hk => ?_⟩
    · have := w5 k hk
      ((repeat (first | rw [up_at (by omega) (by omega)] | rw [up_nn (by omega)])); (try omega); done)
    · have := w6 k hk
      ((repeat (first | rw [up_at (by omega) (by omega)] | rw [up_nn (by omega)])); (try omega); done)
set_option maxHeartbeats 4000000 in
theorem raw_swing {b : Nat} {I : GI} {w n : Nat} {x c : Int} (h : Raw b I) (h6 : w < 6) (h9 : n < 9) (hx : 0 ≤ x ∧ x ≤ 999) (hc : 0 ≤ c ∧ c ≤ 9) : Raw b (swingI I (b + 5 + 2 * w) n x c) := by
  obtain ⟨h1, h2⟩ := h
  refine ⟨fun q hq => ?_, fun q hq => ?_⟩
  · obtain ⟨⟨w1, w2⟩, w3, w4⟩ := h1 q hq
    unfold wP at w1 w2 w3 w4
    unfold wOk wP swingI
    by_cases e : q = w
    · subst q
      refine ⟨⟨by ((repeat (first | rw [up_at (by omega) (by omega)] | rw [up_nn (by omega)])); (try omega); done), by ((repeat (first | rw [up_at (by omega) (by omega)] | rw [up_nn (by omega)])); (try omega); done)⟩, by ((repeat (first | rw [up_at (by omega) (by omega)] | rw [up_nn (by omega)])); (try omega); done), fun k hk => ?_⟩
      by_cases e2 : k = n
      · ((repeat (first | rw [up_at (by omega) (by omega)] | rw [up_nn (by omega)])); (try omega); done)
      · have := w4 k hk
        ((repeat (first | rw [up_at (by omega) (by omega)] | rw [up_nn (by omega)])); (try omega); done)
    · skip
      refine ⟨⟨by ((repeat (first | rw [up_at (by omega) (by omega)] | rw [up_nn (by omega)])); (try omega); done), by ((repeat (first | rw [up_at (by omega) (by omega)] | rw [up_nn (by omega)])); (try omega); done)⟩, by ((repeat (first | rw [up_at (by omega) (by omega)] | rw [up_nn (by omega)])); (try omega); done), fun k hk => ?_⟩
      have := w4 k hk
      ((repeat (first | rw [up_at (by omega) (by omega)] | rw [up_nn (by omega)])); (try omega); done)
  · obtain ⟨⟨w1, w2⟩, ⟨w3, w4⟩, w5, w6⟩ := h2 q hq
    unfold tP at w1 w2 w3 w4 w5 w6
    unfold tOk tP swingI
    refine ⟨⟨by ((repeat (first | rw [up_at (by omega) (by omega)] | rw [up_nn (by omega)])); (try omega); done), by ((repeat (first | rw [up_at (by omega) (by omega)] | rw [up_nn (by omega)])); (try omega); done)⟩, ⟨by ((repeat (first | rw [up_at (by omega) (by omega)] | rw [up_nn (by omega)])); (try omega); done), by ((repeat (first | rw [up_at (by omega) (by omega)] | rw [up_nn (by omega)])); (try omega); done)⟩, fun k hk => ?_, fun k hk => ?_⟩
    · have := w5 k hk
      ((repeat (first | rw [up_at (by omega) (by omega)] | rw [up_nn (by omega)])); (try omega); done)
    · have := w6 k hk
      ((repeat (first | rw [up_at (by omega) (by omega)] | rw [up_nn (by omega)])); (try omega); done)
set_option maxHeartbeats 4000000 in
theorem raw_still {b : Nat} {I : GI} {w : Nat} (h : Raw b I) (h6 : w < 6) : Raw b (up I (b + 5 + 2 * w) 2 0) := by
  obtain ⟨h1, h2⟩ := h
  refine ⟨fun q hq => ?_, fun q hq => ?_⟩
  · obtain ⟨⟨w1, w2⟩, w3, w4⟩ := h1 q hq
    unfold wP at w1 w2 w3 w4
    unfold wOk wP
    by_cases e : q = w
    · subst q
      refine ⟨⟨by ((repeat (first | rw [up_at (by omega) (by omega)] | rw [up_nn (by omega)])); (try omega); done), by ((repeat (first | rw [up_at (by omega) (by omega)] | rw [up_nn (by omega)])); (try omega); done)⟩, by ((repeat (first | rw [up_at (by omega) (by omega)] | rw [up_nn (by omega)])); (try omega); done), fun k hk => ?_⟩
      have := w4 k hk
      ((repeat (first | rw [up_at (by omega) (by omega)] | rw [up_nn (by omega)])); (try omega); done)
    · skip
      refine ⟨⟨by ((repeat (first | rw [up_at (by omega) (by omega)] | rw [up_nn (by omega)])); (try omega); done), by ((repeat (first | rw [up_at (by omega) (by omega)] | rw [up_nn (by omega)])); (try omega); done)⟩, by ((repeat (first | rw [up_at (by omega) (by omega)] | rw [up_nn (by omega)])); (try omega); done), fun k hk => ?_⟩
      have := w4 k hk
      ((repeat (first | rw [up_at (by omega) (by omega)] | rw [up_nn (by omega)])); (try omega); done)
  · obtain ⟨⟨w1, w2⟩, ⟨w3, w4⟩, w5, w6⟩ := h2 q hq
    unfold tP at w1 w2 w3 w4 w5 w6
    unfold tOk tP
    refine ⟨⟨by ((repeat (first | rw [up_at (by omega) (by omega)] | rw [up_nn (by omega)])); (try omega); done), by ((repeat (first | rw [up_at (by omega) (by omega)] | rw [up_nn (by omega)])); (try omega); done)⟩, ⟨by ((repeat (first | rw [up_at (by omega) (by omega)] | rw [up_nn (by omega)])); (try omega); done), by ((repeat (first | rw [up_at (by omega) (by omega)] | rw [up_nn (by omega)])); (try omega); done)⟩, fun k hk => ?_, fun k hk => ?_⟩
    · have := w5 k hk
      ((repeat (first | rw [up_at (by omega) (by omega)] | rw [up_nn (by omega)])); (try omega); done)
    · have := w6 k hk
      ((repeat (first | rw [up_at (by omega) (by omega)] | rw [up_nn (by omega)])); (try omega); done)
set_option maxHeartbeats 4000000 in
theorem raw_join {b : Nat} {I : GI} {n : Nat} {x1 x2 x3 x4 x5 x6 c : Int} (h : Raw b I) (h6 : n < 4) : Raw b (joinI I b n x1 x2 x3 x4 x5 x6 c) := by
  obtain ⟨h1, h2⟩ := h
  refine ⟨fun q hq => ?_, fun q hq => ?_⟩
  · obtain ⟨⟨w1, w2⟩, w3, w4⟩ := h1 q hq
    unfold wP at w1 w2 w3 w4
    unfold wOk wP joinI
    refine ⟨⟨by ((repeat (first | rw [up_at (by omega) (by omega)] | rw [up_nn (by omega)])); (try omega); done), by ((repeat (first | rw [up_at (by omega) (by omega)] | rw [up_nn (by omega)])); (try omega); done)⟩, by ((repeat (first | rw [up_at (by omega) (by omega)] | rw [up_nn (by omega)])); (try omega); done), fun k hk => ?_⟩
    have := w4 k hk
    ((repeat (first | rw [up_at (by omega) (by omega)] | rw [up_nn (by omega)])); (try omega); done)
  · obtain ⟨⟨w1, w2⟩, ⟨w3, w4⟩, w5, w6⟩ := h2 q hq
    unfold tP at w1 w2 w3 w4 w5 w6
    unfold tOk tP joinI
    refine ⟨⟨by ((repeat (first | rw [up_at (by omega) (by omega)] | rw [up_nn (by omega)])); (try omega); done), by ((repeat (first | rw [up_at (by omega) (by omega)] | rw [up_nn (by omega)])); (try omega); done)⟩, ⟨by ((repeat (first | rw [up_at (by omega) (by omega)] | rw [up_nn (by omega)])); (try omega); done), by ((repeat (first | rw [up_at (by omega) (by omega)] | rw [up_nn (by omega)])); (try omega); done)⟩, fun k hk => ?_, fun k hk => ?_⟩
    · have := w5 k hk
      ((repeat (first | rw [up_at (by omega) (by omega)] | rw [up_nn (by omega)])); (try omega); done)
    · have := w6 k hk
      ((repeat (first | rw [up_at (by omega) (by omega)] | rw [up_nn (by omega)])); (try omega); done)
set_option maxHeartbeats 4000000 in
theorem raw_meas {b : Nat} {I : GI} {j : Nat} {g : Int} (h : Raw b I) (h6 : j < 4) : Raw b (up I (b + 17 + j) 2 g) := by
  obtain ⟨h1, h2⟩ := h
  refine ⟨fun q hq => ?_, fun q hq => ?_⟩
  · obtain ⟨⟨w1, w2⟩, w3, w4⟩ := h1 q hq
    unfold wP at w1 w2 w3 w4
    unfold wOk wP
    refine ⟨⟨by ((repeat (first | rw [up_at (by omega) (by omega)] | rw [up_nn (by omega)])); (try omega); done), by ((repeat (first | rw [up_at (by omega) (by omega)] | rw [up_nn (by omega)])); (try omega); done)⟩, by ((repeat (first | rw [up_at (by omega) (by omega)] | rw [up_nn (by omega)])); (try omega); done), fun k hk => ?_⟩
    have := w4 k hk
    ((repeat (first | rw [up_at (by omega) (by omega)] | rw [up_nn (by omega)])); (try omega); done)
  · obtain ⟨⟨w1, w2⟩, ⟨w3, w4⟩, w5, w6⟩ := h2 q hq
    unfold tP at w1 w2 w3 w4 w5 w6
    unfold tOk tP
    refine ⟨⟨by ((repeat (first | rw [up_at (by omega) (by omega)] | rw [up_nn (by omega)])); (try omega); done), by ((repeat (first | rw [up_at (by omega) (by omega)] | rw [up_nn (by omega)])); (try omega); done)⟩, ⟨by ((repeat (first | rw [up_at (by omega) (by omega)] | rw [up_nn (by omega)])); (try omega); done), by ((repeat (first | rw [up_at (by omega) (by omega)] | rw [up_nn (by omega)])); (try omega); done)⟩, fun k hk => ?_, fun k hk => ?_⟩
    · have := w5 k hk
      ((repeat (first | rw [up_at (by omega) (by omega)] | rw [up_nn (by omega)])); (try omega); done)
    · have := w6 k hk
      ((repeat (first | rw [up_at (by omega) (by omega)] | rw [up_nn (by omega)])); (try omega); done)
set_option maxHeartbeats 4000000 in
theorem raw_begin {b : Nat} {I : GI} {n : Nat} {x c : Int} (h : Raw b I) (h6 : n < 4) (hx : 0 ≤ x ∧ x ≤ 3) : Raw b (beginI I b n x c) := by
  obtain ⟨h1, h2⟩ := h
  refine ⟨fun q hq => ?_, fun q hq => ?_⟩
  · obtain ⟨⟨w1, w2⟩, w3, w4⟩ := h1 q hq
    unfold wP at w1 w2 w3 w4
    unfold wOk wP beginI
    refine ⟨⟨by ((repeat (first | rw [up_at (by omega) (by omega)] | rw [up_nn (by omega)])); (try omega); done), by ((repeat (first | rw [up_at (by omega) (by omega)] | rw [up_nn (by omega)])); (try omega); done)⟩, by ((repeat (first | rw [up_at (by omega) (by omega)] | rw [up_nn (by omega)])); (try omega); done), fun k hk => ?_⟩
    have := w4 k hk
    ((repeat (first | rw [up_at (by omega) (by omega)] | rw [up_nn (by omega)])); (try omega); done)
  · obtain ⟨⟨w1, w2⟩, ⟨w3, w4⟩, w5, w6⟩ := h2 q hq
    unfold tP at w1 w2 w3 w4 w5 w6
    unfold tOk tP beginI
    by_cases e : q = n
    · subst q
      refine ⟨⟨by ((repeat (first | rw [up_at (by omega) (by omega)] | rw [up_nn (by omega)])); (try omega); done), by ((repeat (first | rw [up_at (by omega) (by omega)] | rw [up_nn (by omega)])); (try omega); done)⟩, ⟨by ((repeat (first | rw [up_at (by omega) (by omega)] | rw [up_nn (by omega)])); (try omega); done), by ((repeat (first | rw [up_at (by omega) (by omega)] | rw [up_nn (by omega)])); (try omega); done)⟩, fun k hk => ?_, fun k hk => ?_⟩
      · have := w5 k hk
        ((repeat (first | rw [up_at (by omega) (by omega)] | rw [up_nn (by omega)])); (try omega); done)
      · have := w6 k hk
        ((repeat (first | rw [up_at (by omega) (by omega)] | rw [up_nn (by omega)])); (try omega); done)
    · skip
      refine ⟨⟨by ((repeat (first | rw [up_at (by omega) (by omega)] | rw [up_nn (by omega)])); (try omega); done), by ((repeat (first | rw [up_at (by omega) (by omega)] | rw [up_nn (by omega)])); (try omega); done)⟩, ⟨by ((repeat (first | rw [up_at (by omega) (by omega)] | rw [up_nn (by omega)])); (try omega); done), by ((repeat (first | rw [up_at (by omega) (by omega)] | rw [up_nn (by omega)])); (try omega); done)⟩, fun k hk => ?_, fun k hk => ?_⟩
      · have := w5 k hk
        ((repeat (first | rw [up_at (by omega) (by omega)] | rw [up_nn (by omega)])); (try omega); done)
      · have := w6 k hk
        ((repeat (first | rw [up_at (by omega) (by omega)] | rw [up_nn (by omega)])); (try omega); done)
set_option maxHeartbeats 4000000 in
theorem raw_add {b : Nat} {I : GI} {t n : Nat} {a l c : Int} (h : Raw b I) (h6 : t < 4) (h9 : n < 12) (ha : 0 ≤ a ∧ a ≤ 1295999) (hl : 1 ≤ l ∧ l ≤ 200000) (hc : 0 ≤ c ∧ c ≤ 12) : Raw b (addI I (b + 21 + 6 * t) n a l c) := by
  obtain ⟨h1, h2⟩ := h
  refine ⟨fun q hq => ?_, fun q hq => ?_⟩
  · obtain ⟨⟨w1, w2⟩, w3, w4⟩ := h1 q hq
    unfold wP at w1 w2 w3 w4
    unfold wOk wP addI
    refine ⟨⟨by ((repeat (first | rw [up_at (by omega) (by omega)] | rw [up_nn (by omega)])); (try omega); done), by ((repeat (first | rw [up_at (by omega) (by omega)] | rw [up_nn (by omega)])); (try omega); done)⟩, by ((repeat (first | rw [up_at (by omega) (by omega)] | rw [up_nn (by omega)])); (try omega); done), fun k hk => ?_⟩
    have := w4 k hk
    ((repeat (first | rw [up_at (by omega) (by omega)] | rw [up_nn (by omega)])); (try omega); done)
  · obtain ⟨⟨w1, w2⟩, ⟨w3, w4⟩, w5, w6⟩ := h2 q hq
    unfold tP at w1 w2 w3 w4 w5 w6
    unfold tOk tP addI
    by_cases e : q = t
    · subst q
      refine ⟨⟨by ((repeat (first | rw [up_at (by omega) (by omega)] | rw [up_nn (by omega)])); (try omega); done), by ((repeat (first | rw [up_at (by omega) (by omega)] | rw [up_nn (by omega)])); (try omega); done)⟩, ⟨by ((repeat (first | rw [up_at (by omega) (by omega)] | rw [up_nn (by omega)])); (try omega); done), by ((repeat (first | rw [up_at (by omega) (by omega)] | rw [up_nn (by omega)])); (try omega); done)⟩, fun k hk => ?_, fun k hk => ?_⟩
      · by_cases e2 : k = n
        · ((repeat (first | rw [up_at (by omega) (by omega)] | rw [up_nn (by omega)])); (try omega); done)
        · have := w5 k hk
          ((repeat (first | rw [up_at (by omega) (by omega)] | rw [up_nn (by omega)])); (try omega); done)
      · by_cases e2 : k = n
        · ((repeat (first | rw [up_at (by omega) (by omega)] | rw [up_nn (by omega)])); (try omega); done)
        · have := w6 k hk
          ((repeat (first | rw [up_at (by omega) (by omega)] | rw [up_nn (by omega)])); (try omega); done)
    · skip
      refine ⟨⟨by ((repeat (first | rw [up_at (by omega) (by omega)] | rw [up_nn (by omega)])); (try omega); done), by ((repeat (first | rw [up_at (by omega) (by omega)] | rw [up_nn (by omega)])); (try omega); done)⟩, ⟨by ((repeat (first | rw [up_at (by omega) (by omega)] | rw [up_nn (by omega)])); (try omega); done), by ((repeat (first | rw [up_at (by omega) (by omega)] | rw [up_nn (by omega)])); (try omega); done)⟩, fun k hk => ?_, fun k hk => ?_⟩
      · have := w5 k hk
        ((repeat (first | rw [up_at (by omega) (by omega)] | rw [up_nn (by omega)])); (try omega); done)
      · have := w6 k hk
        ((repeat (first | rw [up_at (by omega) (by omega)] | rw [up_nn (by omega)])); (try omega); done)
set_option maxHeartbeats 4000000 in
theorem raw_drop {b : Nat} {I : GI} {t : Nat} {c : Int} (h : Raw b I) (h6 : t < 4) (hc : 0 ≤ c ∧ c ≤ 12) : Raw b (dropI I (b + 21 + 6 * t) c) := by
  obtain ⟨h1, h2⟩ := h
  refine ⟨fun q hq => ?_, fun q hq => ?_⟩
  · obtain ⟨⟨w1, w2⟩, w3, w4⟩ := h1 q hq
    unfold wP at w1 w2 w3 w4
    unfold wOk wP dropI
    refine ⟨⟨by ((repeat (first | rw [up_at (by omega) (by omega)] | rw [up_nn (by omega)])); (try omega); done), by ((repeat (first | rw [up_at (by omega) (by omega)] | rw [up_nn (by omega)])); (try omega); done)⟩, by ((repeat (first | rw [up_at (by omega) (by omega)] | rw [up_nn (by omega)])); (try omega); done), fun k hk => ?_⟩
    have := w4 k hk
    ((repeat (first | rw [up_at (by omega) (by omega)] | rw [up_nn (by omega)])); (try omega); done)
  · obtain ⟨⟨w1, w2⟩, ⟨w3, w4⟩, w5, w6⟩ := h2 q hq
    unfold tP at w1 w2 w3 w4 w5 w6
    unfold tOk tP dropI
    by_cases e : q = t
    · subst q
      refine ⟨⟨by ((repeat (first | rw [up_at (by omega) (by omega)] | rw [up_nn (by omega)])); (try omega); done), by ((repeat (first | rw [up_at (by omega) (by omega)] | rw [up_nn (by omega)])); (try omega); done)⟩, ⟨by ((repeat (first | rw [up_at (by omega) (by omega)] | rw [up_nn (by omega)])); (try omega); done), by ((repeat (first | rw [up_at (by omega) (by omega)] | rw [up_nn (by omega)])); (try omega); done)⟩, fun k hk => ?_, fun k hk => ?_⟩
      · have := w5 k hk
        ((repeat (first | rw [up_at (by omega) (by omega)] | rw [up_nn (by omega)])); (try omega); done)
      · have := w6 k hk
        ((repeat (first | rw [up_at (by omega) (by omega)] | rw [up_nn (by omega)])); (try omega); done)
    · skip
      refine ⟨⟨by ((repeat (first | rw [up_at (by omega) (by omega)] | rw [up_nn (by omega)])); (try omega); done), by ((repeat (first | rw [up_at (by omega) (by omega)] | rw [up_nn (by omega)])); (try omega); done)⟩, ⟨by ((repeat (first | rw [up_at (by omega) (by omega)] | rw [up_nn (by omega)])); (try omega); done), by ((repeat (first | rw [up_at (by omega) (by omega)] | rw [up_nn (by omega)])); (try omega); done)⟩, fun k hk => ?_, fun k hk => ?_⟩
      · have := w5 k hk
        ((repeat (first | rw [up_at (by omega) (by omega)] | rw [up_nn (by omega)])); (try omega); done)
      · have := w6 k hk
        ((repeat (first | rw [up_at (by omega) (by omega)] | rw [up_nn (by omega)])); (try omega); done)
set_option maxHeartbeats 4000000 in
theorem raw_close {b : Nat} {I : GI} {t : Nat} {x y : Int} (h : Raw b I) (h6 : t < 4) (hx : 0 ≤ x ∧ x ≤ 3) (hy : 0 ≤ y ∧ y ≤ 1295999) : Raw b (closeI I (b + 21 + 6 * t) x y) := by
  obtain ⟨h1, h2⟩ := h
  refine ⟨fun q hq => ?_, fun q hq => ?_⟩
  · obtain ⟨⟨w1, w2⟩, w3, w4⟩ := h1 q hq
    unfold wP at w1 w2 w3 w4
    unfold wOk wP closeI
    refine ⟨⟨by ((repeat (first | rw [up_at (by omega) (by omega)] | rw [up_nn (by omega)])); (try omega); done), by ((repeat (first | rw [up_at (by omega) (by omega)] | rw [up_nn (by omega)])); (try omega); done)⟩, by ((repeat (first | rw [up_at (by omega) (by omega)] | rw [up_nn (by omega)])); (try omega); done), fun k hk => ?_⟩
    have := w4 k hk
    ((repeat (first | rw [up_at (by omega) (by omega)] | rw [up_nn (by omega)])); (try omega); done)
  · obtain ⟨⟨w1, w2⟩, ⟨w3, w4⟩, w5, w6⟩ := h2 q hq
    unfold tP at w1 w2 w3 w4 w5 w6
    unfold tOk tP closeI
    by_cases e : q = t
    · subst q
      refine ⟨⟨by ((repeat (first | rw [up_at (by omega) (by omega)] | rw [up_nn (by omega)])); (try omega); done), by ((repeat (first | rw [up_at (by omega) (by omega)] | rw [up_nn (by omega)])); (try omega); done)⟩, ⟨by ((repeat (first | rw [up_at (by omega) (by omega)] | rw [up_nn (by omega)])); (try omega); done), by ((repeat (first | rw [up_at (by omega) (by omega)] | rw [up_nn (by omega)])); (try omega); done)⟩, fun k hk => ?_, fun k hk => ?_⟩
      · have := w5 k hk
        ((repeat (first | rw [up_at (by omega) (by omega)] | rw [up_nn (by omega)])); (try omega); done)
      · have := w6 k hk
        ((repeat (first | rw [up_at (by omega) (by omega)] | rw [up_nn (by omega)])); (try omega); done)
    · skip
      refine ⟨⟨by ((repeat (first | rw [up_at (by omega) (by omega)] | rw [up_nn (by omega)])); (try omega); done), by ((repeat (first | rw [up_at (by omega) (by omega)] | rw [up_nn (by omega)])); (try omega); done)⟩, ⟨by ((repeat (first | rw [up_at (by omega) (by omega)] | rw [up_nn (by omega)])); (try omega); done), by ((repeat (first | rw [up_at (by omega) (by omega)] | rw [up_nn (by omega)])); (try omega); done)⟩, fun k hk => ?_, fun k hk => ?_⟩
      · have := w5 k hk
        ((repeat (first | rw [up_at (by omega) (by omega)] | rw [up_nn (by omega)])); (try omega); done)
      · have := w6 k hk
        ((repeat (first | rw [up_at (by omega) (by omega)] | rw [up_nn (by omega)])); (try omega); done)
