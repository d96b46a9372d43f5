/-! the grounds that a row brings -/
theorem kGround_o {k : Nat → Int} {a b c d : Int} (hi : KI k) {i : Nat} (h : i < 19 ∨ (23 ≤ i ∧ i < 39) ∨ (51 ≤ i ∧ i ≠ 76)) (h4 : k 76 < 4) : kGround k a b c d i = k i := by
  have i1 := hi.1
  rw [← kGround_eq k a b c d (by omega)]
  simp only [ku]
  rw [if_neg (by omega), if_neg (by omega), if_neg (by omega), if_neg (by omega), if_neg (by omega)]
theorem kGround_KI {k : Nat → Int} {a b c d : Int} (hi : KI k) (h : zgc k a b c d) : KI (kGround k a b c d) := by
  have i1 := hi.1
  obtain ⟨h4, ha, hb, hc, hd, hs⟩ := h
  have eo : ∀ i : Nat, (i < 19 ∨ (23 ≤ i ∧ i < 39) ∨ (51 ≤ i ∧ i ≠ 76)) → kGround k a b c d i = k i := fun i hh => kGround_o hi hh h4
  have e76 := kGround_76 k a b c d
  refine ⟨?_, fun j hj => ?_, fun j hj => ?_, fun y hy => ?_, fun n hn => ?_, fun t ht => ?_⟩
  · rw [e76, eo 0 (by omega), eo 1 (by omega), eo 2 (by omega), eo 73 (by omega), eo 74 (by omega), eo 75 (by omega), eo 77 (by omega), eo 78 (by omega), eo 79 (by omega)]
    omega
  · rw [eo (3 + j) (by omega), eo (11 + j) (by omega), eo (23 + j) (by omega), eo (31 + j) (by omega), eo 75 (by omega)]
    exact hi.2.1 j hj
  · have i2 := hi.2.2.1 j hj
    rw [← kGround_eq k a b c d (by omega)]
    simp only [ku]
    by_cases h9 : (j : Int) = k 76
    · rw [if_neg (by omega), if_neg (by omega), if_neg (by omega), if_neg (by omega), if_pos (by omega)]
      rw [if_neg (by omega), if_neg (by omega), if_neg (by omega), if_pos (by omega)]
      rw [if_neg (by omega), if_neg (by omega), if_pos (by omega)]
      rw [if_neg (by omega), if_pos (by omega)]
      omega
    · rw [if_neg (by omega), if_neg (by omega), if_neg (by omega), if_neg (by omega), if_neg (by omega)]
      rw [if_neg (by omega), if_neg (by omega), if_neg (by omega), if_neg (by omega), if_neg (by omega)]
      rw [if_neg (by omega), if_neg (by omega), if_neg (by omega), if_neg (by omega), if_neg (by omega)]
      rw [if_neg (by omega), if_neg (by omega), if_neg (by omega), if_neg (by omega), if_neg (by omega)]
      exact i2
  · rw [eo (51 + y) (by omega)]
    exact hi.2.2.2.1 y hy
  · rw [eo (57 + 2 * n) (by omega), eo (58 + 2 * n) (by omega), eo 77 (by omega), eo 75 (by omega)]
    exact hi.2.2.2.2.1 n hn
  · rw [eo (80 + t) (by omega)]
    exact hi.2.2.2.2.2 t ht
