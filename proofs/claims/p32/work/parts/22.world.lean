def wireQ (r : Nat) : Prop := (r < N0 ∧ SH r = .inl 5) ∧ RR r 6 = some (r + 1) ∧ (r + 1 < N0 ∧ SH (r + 1) = .inr (0, 9))
def joinQ (r : Nat) : Prop := r < N0 ∧ SH r = .inl 1
def travQ (r : Nat) : Prop := (r < N0 ∧ SH r = .inl 4) ∧ r + 5 < N0 ∧ (∀ k, k < 5 → RR r (10 + k) = some (r + (k + 1))) ∧ ∀ k, k < 5 → SH (r + (k + 1)) = .inr (0, 12)
def mineQ (b : Nat) : Prop := (b < N0 ∧ SH b = .inl 2) ∧ b + 4 < N0 ∧ (RR b 0 = some (b + 1) ∧ SH (b + 1) = .inr (0, 3)) ∧ (RR b 4 = some (b + 2) ∧ SH (b + 2) = .inr (3, 6)) ∧ (RR b 5 = some (b + 3) ∧ SH (b + 3) = .inr (4, 4)) ∧ (RR b 6 = some (b + 4) ∧ SH (b + 4) = .inr (5, 4)) ∧
  (∀ i, i < 6 → RR (b + 2) i = some (b + 5 + 2 * i) ∧ wireQ (b + 5 + 2 * i)) ∧ (∀ i, i < 4 → RR (b + 3) i = some (b + 17 + i) ∧ joinQ (b + 17 + i)) ∧ ∀ i, i < 4 → RR (b + 4) i = some (b + 21 + 6 * i) ∧ travQ (b + 21 + 6 * i)
def mBs : List Nat := [1, 48, 93, 138, 183]
theorem mb_1 : ∀ b, b ∈ mBs → (b < N0 ∧ SH b = .inl 2) ∧ b + 4 < N0 := by decide +kernel
theorem mb_2 : ∀ b, b ∈ mBs → (RR b 0 = some (b + 1) ∧ SH (b + 1) = .inr (0, 3)) ∧ (RR b 4 = some (b + 2) ∧ SH (b + 2) = .inr (3, 6)) := by decide +kernel
theorem mb_3 : ∀ b, b ∈ mBs → (RR b 5 = some (b + 3) ∧ SH (b + 3) = .inr (4, 4)) ∧ (RR b 6 = some (b + 4) ∧ SH (b + 4) = .inr (5, 4)) := by decide +kernel
theorem mb_4 : ∀ b, b ∈ mBs → ∀ i, i < 6 → RR (b + 2) i = some (b + 5 + 2 * i) := by decide +kernel
theorem mb_5 : ∀ b, b ∈ mBs → ∀ i, i < 6 → (b + 5 + 2 * i < N0 ∧ SH (b + 5 + 2 * i) = .inl 5) := by decide +kernel
theorem mb_6 : ∀ b, b ∈ mBs → ∀ i, i < 6 → RR (b + 5 + 2 * i) 6 = some (b + 5 + 2 * i + 1) := by decide +kernel
theorem mb_7 : ∀ b, b ∈ mBs → ∀ i, i < 6 → (b + 5 + 2 * i + 1 < N0 ∧ SH (b + 5 + 2 * i + 1) = .inr (0, 9)) := by decide +kernel
theorem mb_8 : ∀ b, b ∈ mBs → ∀ i, i < 4 → RR (b + 3) i = some (b + 17 + i) := by decide +kernel
theorem mb_9 : ∀ b, b ∈ mBs → ∀ i, i < 4 → (b + 17 + i < N0 ∧ SH (b + 17 + i) = .inl 1) := by decide +kernel
theorem mb_10 : ∀ b, b ∈ mBs → ∀ i, i < 4 → RR (b + 4) i = some (b + 21 + 6 * i) := by decide +kernel
theorem mb_11 : ∀ b, b ∈ mBs → ∀ i, i < 4 → ((b + 21 + 6 * i < N0 ∧ SH (b + 21 + 6 * i) = .inl 4) ∧ b + 21 + 6 * i + 5 < N0) := by decide +kernel
theorem mb_12 : ∀ b, b ∈ mBs → ∀ i, i < 4 → ∀ k, k < 5 → RR (b + 21 + 6 * i) (10 + k) = some (b + 21 + 6 * i + (k + 1)) := by decide +kernel
theorem mb_13 : ∀ b, b ∈ mBs → ∀ i, i < 4 → ∀ k, k < 5 → SH (b + 21 + 6 * i + (k + 1)) = .inr (0, 12) := by decide +kernel
theorem mineQ_of (b : Nat) (h : b ∈ mBs) : mineQ b :=
  ⟨(mb_1 b h).1, (mb_1 b h).2, (mb_2 b h).1, (mb_2 b h).2, (mb_3 b h).1, (mb_3 b h).2,
    fun i hi => ⟨mb_4 b h i hi, mb_5 b h i hi, mb_6 b h i hi, mb_7 b h i hi⟩,
    fun i hi => ⟨mb_8 b h i hi, mb_9 b h i hi⟩,
    fun i hi => ⟨mb_10 b h i hi, (mb_11 b h i hi).1, (mb_11 b h i hi).2, mb_12 b h i hi, mb_13 b h i hi⟩⟩
theorem mineQ_live : mineQ 1 := mineQ_of 1 (by decide)
theorem mineQ_copy (c : Nat) (h : c < 4) : mineQ (48 + 45 * c) := mineQ_of _ (by
  rcases c with _ | _ | _ | _ | c
  · decide
  · decide
  · decide
  · decide
  · omega)
theorem wq_n {r : Nat} (h : wireQ r) : r < N0 := h.1.1
theorem wq_s {r : Nat} (h : wireQ r) : SH r = .inl 5 := h.1.2
theorem wq_R {r : Nat} (h : wireQ r) : RR r 6 = some (r + 1) := h.2.1
theorem wq_n1 {r : Nat} (h : wireQ r) : r + 1 < N0 := h.2.2.1
theorem wq_s1 {r : Nat} (h : wireQ r) : SH (r + 1) = .inr (0, 9) := h.2.2.2
theorem jq_n {r : Nat} (h : joinQ r) : r < N0 := h.1
theorem jq_s {r : Nat} (h : joinQ r) : SH r = .inl 1 := h.2
theorem tq_n {r : Nat} (h : travQ r) : r < N0 := h.1.1
theorem tq_s {r : Nat} (h : travQ r) : SH r = .inl 4 := h.1.2
theorem tq_R1 {r : Nat} (h : travQ r) : RR r 10 = some (r + 1) := h.2.2.1 0 (by decide)
theorem tq_s1 {r : Nat} (h : travQ r) : SH (r + 1) = .inr (0, 12) := h.2.2.2 0 (by decide)
theorem tq_n1 {r : Nat} (h : travQ r) : r + 1 < N0 := Nat.lt_of_le_of_lt (by omega) h.2.1
theorem tq_R2 {r : Nat} (h : travQ r) : RR r 11 = some (r + 2) := h.2.2.1 1 (by decide)
theorem tq_s2 {r : Nat} (h : travQ r) : SH (r + 2) = .inr (0, 12) := h.2.2.2 1 (by decide)
theorem tq_n2 {r : Nat} (h : travQ r) : r + 2 < N0 := Nat.lt_of_le_of_lt (by omega) h.2.1
theorem tq_R3 {r : Nat} (h : travQ r) : RR r 12 = some (r + 3) := h.2.2.1 2 (by decide)
theorem tq_s3 {r : Nat} (h : travQ r) : SH (r + 3) = .inr (0, 12) := h.2.2.2 2 (by decide)
theorem tq_n3 {r : Nat} (h : travQ r) : r + 3 < N0 := Nat.lt_of_le_of_lt (by omega) h.2.1
theorem tq_R4 {r : Nat} (h : travQ r) : RR r 13 = some (r + 4) := h.2.2.1 3 (by decide)
theorem tq_s4 {r : Nat} (h : travQ r) : SH (r + 4) = .inr (0, 12) := h.2.2.2 3 (by decide)
theorem tq_n4 {r : Nat} (h : travQ r) : r + 4 < N0 := Nat.lt_of_le_of_lt (by omega) h.2.1
theorem tq_R5 {r : Nat} (h : travQ r) : RR r 14 = some (r + 5) := h.2.2.1 4 (by decide)
theorem tq_s5 {r : Nat} (h : travQ r) : SH (r + 5) = .inr (0, 12) := h.2.2.2 4 (by decide)
theorem tq_n5 {r : Nat} (h : travQ r) : r + 5 < N0 := Nat.lt_of_le_of_lt (by omega) h.2.1
theorem mq_n {b : Nat} (h : mineQ b) : b < N0 := h.1.1
theorem mq_s {b : Nat} (h : mineQ b) : SH b = .inl 2 := h.1.2
theorem mq_w {b : Nat} (h : mineQ b) (i : Nat) (hi : i < 6) : RR (b + 2) i = some (b + 5 + 2 * i) := (h.2.2.2.2.2.2.1 i hi).1
theorem mq_wq {b : Nat} (h : mineQ b) (i : Nat) (hi : i < 6) : wireQ (b + 5 + 2 * i) := (h.2.2.2.2.2.2.1 i hi).2
theorem mq_j {b : Nat} (h : mineQ b) (i : Nat) (hi : i < 4) : RR (b + 3) i = some (b + 17 + i) := (h.2.2.2.2.2.2.2.1 i hi).1
theorem mq_jq {b : Nat} (h : mineQ b) (i : Nat) (hi : i < 4) : joinQ (b + 17 + i) := (h.2.2.2.2.2.2.2.1 i hi).2
theorem mq_t {b : Nat} (h : mineQ b) (i : Nat) (hi : i < 4) : RR (b + 4) i = some (b + 21 + 6 * i) := (h.2.2.2.2.2.2.2.2 i hi).1
theorem mq_tq {b : Nat} (h : mineQ b) (i : Nat) (hi : i < 4) : travQ (b + 21 + 6 * i) := (h.2.2.2.2.2.2.2.2 i hi).2
theorem mq_R1 {b : Nat} (h : mineQ b) : RR b 0 = some (b + 1) := h.2.2.1.1
theorem mq_s1 {b : Nat} (h : mineQ b) : SH (b + 1) = .inr (0, 3) := h.2.2.1.2
theorem mq_n1 {b : Nat} (h : mineQ b) : b + 1 < N0 := Nat.lt_of_le_of_lt (by omega) h.2.1
theorem mq_R2 {b : Nat} (h : mineQ b) : RR b 4 = some (b + 2) := h.2.2.2.1.1
theorem mq_s2 {b : Nat} (h : mineQ b) : SH (b + 2) = .inr (3, 6) := h.2.2.2.1.2
theorem mq_n2 {b : Nat} (h : mineQ b) : b + 2 < N0 := Nat.lt_of_le_of_lt (by omega) h.2.1
theorem mq_R3 {b : Nat} (h : mineQ b) : RR b 5 = some (b + 3) := h.2.2.2.2.1.1
theorem mq_s3 {b : Nat} (h : mineQ b) : SH (b + 3) = .inr (4, 4) := h.2.2.2.2.1.2
theorem mq_n3 {b : Nat} (h : mineQ b) : b + 3 < N0 := Nat.lt_of_le_of_lt (by omega) h.2.1
theorem mq_R4 {b : Nat} (h : mineQ b) : RR b 6 = some (b + 4) := h.2.2.2.2.2.1.1
theorem mq_s4 {b : Nat} (h : mineQ b) : SH (b + 4) = .inr (5, 4) := h.2.2.2.2.2.1.2
theorem mq_n4 {b : Nat} (h : mineQ b) : b + 4 < N0 := Nat.lt_of_le_of_lt (by omega) h.2.1
theorem xs_0 : SH 0 = .inl 6 := by decide +kernel
theorem xn_0 : 0 < N0 := by decide
theorem xs_46 : SH 46 = .inl 0 := by decide +kernel
theorem xn_46 : 46 < N0 := by decide
theorem xs_228 : SH 228 = .inl 3 := by decide +kernel
theorem xn_228 : 228 < N0 := by decide
theorem xs_47 : SH 47 = .inr (6, 4) := by decide +kernel
theorem xn_47 : 47 < N0 := by decide
theorem xs_229 : SH 229 = .inr (0, 3) := by decide +kernel
theorem xn_229 : 229 < N0 := by decide
theorem xs_230 : SH 230 = .inr (2, 90) := by decide +kernel
theorem xn_230 : 230 < N0 := by decide
theorem xs_231 : SH 231 = .inr (0, 6) := by decide +kernel
theorem xn_231 : 231 < N0 := by decide
theorem xs_232 : SH 232 = .inr (0, 12) := by decide +kernel
theorem xn_232 : 232 < N0 := by decide
theorem xs_233 : SH 233 = .inr (0, 6) := by decide +kernel
theorem xn_233 : 233 < N0 := by decide
theorem xs_234 : SH 234 = .inr (0, 54) := by decide +kernel
theorem xn_234 : 234 < N0 := by decide
theorem xs_235 : SH 235 = .inr (0, 24) := by decide +kernel
theorem xn_235 : 235 < N0 := by decide
theorem xs_236 : SH 236 = .inr (0, 16) := by decide +kernel
theorem xn_236 : 236 < N0 := by decide
theorem xs_237 : SH 237 = .inr (0, 48) := by decide +kernel
theorem xn_237 : 237 < N0 := by decide
theorem xs_238 : SH 238 = .inr (0, 48) := by decide +kernel
theorem xn_238 : 238 < N0 := by decide
theorem xr_0_0 : RR 0 0 = some 1 := by decide +kernel
theorem xr_0_1 : RR 0 1 = some 46 := by decide +kernel
theorem xr_0_2 : RR 0 2 = some 228 := by decide +kernel
theorem xr_46_2 : RR 46 2 = some 47 := by decide +kernel
theorem xr_228_2 : RR 228 2 = some 229 := by decide +kernel
theorem xr_228_4 : RR 228 4 = some 230 := by decide +kernel
theorem xr_47 : ∀ c, c < 4 → RR 47 c = some (48 + 45 * c) := by decide +kernel
