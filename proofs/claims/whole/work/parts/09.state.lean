/-! WHAT A STATE IS: k is what the reference keeps (its array 'kept'); a Ship at a holds the same -/
def zmask (k : Nat → Int) : Int := k 11 + 2 * k 12 + 4 * k 13 + 8 * k 14 + 16 * k 15 + 32 * k 16 + 64 * k 17 + 128 * k 18
def zcrew (k : Nat → Int) : Int := k 11 + k 12 + k 13 + k 14 + k 15 + k 16 + k 17 + k 18
def SR (M : zMem) (a : Nat) (k : Nat → Int) : Prop :=
  (M a 0 = k 75 ∧ M a 4 = zmask k ∧ M a 5 = k 76 ∧ M a 8 = k 0 ∧ M a 9 = k 1 ∧ M a 12 = k 77 ∧ M a 15 = k 78 ∧ M a 17 = k 79) ∧
  (M (a + 7) 0 = k 2 ∧ M (a + 7) 1 = k 73 ∧ M (a + 7) 2 = k 74) ∧
  (∀ h, h < 8 → M (a + 1) h = k (23 + h)) ∧ (∀ h, h < 8 → M (a + 2) h = k (3 + h)) ∧ (∀ h, h < 8 → M (a + 3) h = k (31 + h)) ∧
  (∀ g, g < 4 → M (a + 4) g = k (19 + g)) ∧ (∀ i, i < 12 → M (a + 5) i = k (39 + i)) ∧ (∀ y, y < 6 → M (a + 6) y = k (51 + y)) ∧
  (∀ n, n < 8 → M (a + 8) n = k (57 + 2 * n)) ∧ (∀ n, n < 8 → M (a + 9) n = k (58 + 2 * n))
/-- the numbers that can be -/
def KI (k : Nat → Int) : Prop :=
  (0 ≤ k 0 ∧ k 0 ≤ k 73 ∧ 1 ≤ k 73 ∧ k 73 ≤ 999 ∧ 0 ≤ k 1 ∧ k 1 ≤ 999999 ∧ 0 ≤ k 2 ∧ k 2 ≤ 71 ∧ 0 ≤ k 74 ∧ k 74 ≤ 9 ∧ 0 ≤ k 75 ∧ k 75 ≤ 8 ∧ 0 ≤ k 76 ∧ k 76 ≤ 4 ∧ 0 ≤ k 77 ∧ k 77 ≤ 8 ∧ 0 ≤ k 78 ∧ k 78 ≤ 6 ∧ -1 ≤ k 79 ∧ k 79 < k 78) ∧
  (∀ h, h < 8 → (0 ≤ k (3 + h) ∧ k (3 + h) ≤ 9999) ∧ (0 ≤ k (11 + h) ∧ k (11 + h) ≤ 1) ∧ (0 ≤ k (23 + h) ∧ k (23 + h) ≤ 999) ∧ (0 ≤ k (31 + h) ∧ k (31 + h) ≤ 71) ∧ ((h : Int) < k 75 → 1 ≤ k (23 + h)) ∧ (k 75 ≤ (h : Int) → k (11 + h) = 0)) ∧
  (∀ g, g < 4 → (0 ≤ k (19 + g) ∧ k (19 + g) ≤ 99) ∧ 0 ≤ k (39 + 3 * g) ∧ 0 ≤ k (39 + 3 * g + 1) ∧ 0 ≤ k (39 + 3 * g + 2) ∧ k (39 + 3 * g) + k (39 + 3 * g + 1) + k (39 + 3 * g + 2) ≤ 10) ∧
  (∀ y, y < 6 → 0 ≤ k (51 + y) ∧ k (51 + y) ≤ 99) ∧
  (∀ n, n < 8 → (0 ≤ k (57 + 2 * n) ∧ k (57 + 2 * n) < 8) ∧ (0 ≤ k (58 + 2 * n) ∧ k (58 + 2 * n) ≤ 999999) ∧ ((n : Int) < k 77 → k (57 + 2 * n) < k 75)) ∧
  (∀ t, t < 7 → 0 ≤ k (80 + t) ∧ k (80 + t) ≤ 400)
theorem KI.ch {k : Nat → Int} (h : KI k) : ∀ i, i < 12 → 0 ≤ k (39 + i) ∧ k (39 + i) ≤ 10 := by
  intro i hi
  have h1 := h.2.2.1 (i / 3) (by omega)
  have h2 : i = 3 * (i / 3) ∨ i = 3 * (i / 3) + 1 ∨ i = 3 * (i / 3) + 2 := by omega
  rcases h2 with e | e | e
  · have e' : 39 + i = 39 + 3 * (i / 3) := by omega
    rw [e']; omega
  · have e' : 39 + i = 39 + 3 * (i / 3) + 1 := by omega
    rw [e']; omega
  · have e' : 39 + i = 39 + 3 * (i / 3) + 2 := by omega
    rw [e']; omega
theorem KI.ab {k : Nat → Int} (h : KI k) : (0 ≤ k 11 ∧ k 11 ≤ 1) ∧ (0 ≤ k 12 ∧ k 12 ≤ 1) ∧ (0 ≤ k 13 ∧ k 13 ≤ 1) ∧ (0 ≤ k 14 ∧ k 14 ≤ 1) ∧ (0 ≤ k 15 ∧ k 15 ≤ 1) ∧ (0 ≤ k 16 ∧ k 16 ≤ 1) ∧ (0 ≤ k 17 ∧ k 17 ≤ 1) ∧ (0 ≤ k 18 ∧ k 18 ≤ 1) :=
  ⟨(h.2.1 0 (by decide)).2.1, (h.2.1 1 (by decide)).2.1, (h.2.1 2 (by decide)).2.1, (h.2.1 3 (by decide)).2.1, (h.2.1 4 (by decide)).2.1, (h.2.1 5 (by decide)).2.1, (h.2.1 6 (by decide)).2.1, (h.2.1 7 (by decide)).2.1⟩
theorem zmask_in {k : Nat → Int} (h : KI k) : 0 ≤ zmask k ∧ zmask k < 256 := by
  have := h.ab
  unfold zmask
  omega
theorem zcrew_in {k : Nat → Int} (h : KI k) : 0 ≤ zcrew k ∧ zcrew k ≤ 8 := by
  have := h.ab
  unfold zcrew
  omega
theorem zbit_all : ∀ A : Nat, A < 256 → ∀ h : Nat, h < 8 → zbit A h = A / 2 ^ h % 2 := by decide +kernel
theorem zmask_bits {k : Nat → Int} (h : KI k) : zmask k % 2 = k 11 ∧ zmask k / 2 % 2 = k 12 ∧ zmask k / 4 % 2 = k 13 ∧ zmask k / 8 % 2 = k 14 ∧ zmask k / 16 % 2 = k 15 ∧ zmask k / 32 % 2 = k 16 ∧ zmask k / 64 % 2 = k 17 ∧ zmask k / 128 % 2 = k 18 := by
  have := h.ab
  unfold zmask
  refine ⟨?_, ?_, ?_, ?_, ?_, ?_, ?_, ?_⟩ <;> omega
theorem zpop_mask {k : Nat → Int} (h : KI k) : z_pop (zmask k) = zcrew k := by
  obtain ⟨h0, h1, h2, h3, h4, h5, h6, h7⟩ := zmask_bits h
  unfold z_pop zcrew
  rw [h0, h1, h2, h3, h4, h5, h6, h7]
theorem zbit_mask {k : Nat → Int} (h : KI k) {x : Int} (hx : 0 ≤ x ∧ x < 8) : zbit (zmask k) x = k (11 + x.toNat) := by
  have h1 := zmask_in h
  have h2 := zbit_all (zmask k).toNat (by omega) x.toNat (by omega)
  rw [Int.toNat_of_nonneg h1.1, Int.toNat_of_nonneg hx.1] at h2
  obtain ⟨b0, b1, b2, b3, b4, b5, b6, b7⟩ := zmask_bits h
  rw [h2]
  obtain ⟨n, rfl⟩ := Int.eq_ofNat_of_zero_le hx.1
  have hn : n = 0 ∨ n = 1 ∨ n = 2 ∨ n = 3 ∨ n = 4 ∨ n = 5 ∨ n = 6 ∨ n = 7 := by omega
  rcases hn with rfl | rfl | rfl | rfl | rfl | rfl | rfl | rfl
  · simpa using b0
  · simpa using b1
  · simpa using b2
  · simpa using b3
  · simpa using b4
  · simpa using b5
  · simpa using b6
  · simpa using b7
theorem z_tdiv {x y : Int} (h0 : 0 ≤ x) (h1 : x ≤ 2147483647) (hy : 0 < y) : w32 (x.tdiv y) = x / y := by
  have h := Int.tdiv_eq_ediv_of_nonneg (b := y) h0
  have h2 := Int.ediv_nonneg h0 (Int.le_of_lt hy)
  have h3 := Int.ediv_le_self y h0
  rw [h]
  exact w32_id ⟨by omega, by omega⟩
theorem z_mulb {x y A B : Int} (hx : 0 ≤ x ∧ x ≤ A) (hy : 0 ≤ y ∧ y ≤ B) : 0 ≤ x * y ∧ x * y ≤ A * B :=
  ⟨Int.mul_nonneg hx.1 hy.1, Int.le_trans (Int.mul_le_mul_of_nonneg_right hx.2 hy.1) (Int.mul_le_mul_of_nonneg_left hy.2 (by omega))⟩
/-- the price of a month -/
def zprice (k : Nat → Int) (m : Int) : Int := k (51 + (m / 12).toNat)
theorem zprice_in {k : Nat → Int} (h : KI k) {m : Int} (hm : 0 ≤ m ∧ m < 72) : 0 ≤ zprice k m ∧ zprice k m ≤ 99 := h.2.2.2.1 (m / 12).toNat (by omega)
def zmoney (k : Nat → Int) (oil : Int) : Int := k 1 + oil * zprice k (k 2)
theorem zmoney_in {k : Nat → Int} (h : KI k) {oil : Int} (ho : 0 ≤ oil ∧ oil ≤ 999) : 0 ≤ oil * zprice k (k 2) ∧ oil * zprice k (k 2) ≤ 98901 ∧ 0 ≤ zmoney k oil ∧ zmoney k oil ≤ 1098900 := by
  have h1 := h.1
  have h2 := zprice_in h (m := k 2) (by omega)
  have h3 := z_mulb ho h2
  unfold zmoney
  omega
def zwhole (k : Nat → Int) (h : Nat) (oil : Int) : Int := zmoney k oil / k (23 + h)
def zwholeN (k : Nat → Int) (h : Nat) : Int := if k (11 + h) = 1 then zwhole k h (k 0) else 0
theorem SR_frame {M M' : zMem} {a : Nat} {k : Nat → Int} (h : SR M a k) (hM : ∀ i, a ≤ i → i < a + 10 → M' i = M i) : SR M' a k := by
  obtain ⟨⟨h1, h2, h3, h4, h5, h6, h7, h8⟩, ⟨h9, h10, h11⟩, q1, q2, q3, q4, q5, q6, q7, q8⟩ := h
  have e0 := hM a (by omega) (by omega)
  refine ⟨⟨by rw [e0]; exact h1, by rw [e0]; exact h2, by rw [e0]; exact h3, by rw [e0]; exact h4, by rw [e0]; exact h5, by rw [e0]; exact h6, by rw [e0]; exact h7, by rw [e0]; exact h8⟩, ⟨by rw [hM (a + 7) (by omega) (by omega)]; exact h9, by rw [hM (a + 7) (by omega) (by omega)]; exact h10, by rw [hM (a + 7) (by omega) (by omega)]; exact h11⟩, ?_, ?_, ?_, ?_, ?_, ?_, ?_, ?_⟩
  · rw [hM (a + 1) (by omega) (by omega)]; exact q1
  · rw [hM (a + 2) (by omega) (by omega)]; exact q2
  · rw [hM (a + 3) (by omega) (by omega)]; exact q3
  · rw [hM (a + 4) (by omega) (by omega)]; exact q4
  · rw [hM (a + 5) (by omega) (by omega)]; exact q5
  · rw [hM (a + 6) (by omega) (by omega)]; exact q6
  · rw [hM (a + 8) (by omega) (by omega)]; exact q7
  · rw [hM (a + 9) (by omega) (by omega)]; exact q8
