/-! row: a fold over the groups of four -/
def zrow (f k : Nat → Int) : Nat → (Nat → Int) × Int
  | 0 => (k, 0)
  | i + 1 => if (zrow f k i).1 76 < 4 ∧ ((0 ≤ f (4 * i) ∧ f (4 * i) ≤ 99) ∧ (0 ≤ f (4 * i + 1) ∧ f (4 * i + 1) ≤ 10) ∧ (0 ≤ f (4 * i + 2) ∧ f (4 * i + 2) ≤ 10) ∧ (0 ≤ f (4 * i + 3) ∧ f (4 * i + 3) ≤ 10) ∧ f (4 * i + 1) + f (4 * i + 2) + f (4 * i + 3) ≤ 10) then (kGround (zrow f k i).1 (f (4 * i)) (f (4 * i + 1)) (f (4 * i + 2)) (f (4 * i + 3)), (zrow f k i).2 + 1) else zrow f k i
theorem zrow_y {f k : Nat → Int} {i : Nat} (h : zgc (zrow f k i).1 (f (4 * i)) (f (4 * i + 1)) (f (4 * i + 2)) (f (4 * i + 3))) : zrow f k (i + 1) = (kGround (zrow f k i).1 (f (4 * i)) (f (4 * i + 1)) (f (4 * i + 2)) (f (4 * i + 3)), (zrow f k i).2 + 1) := by
  show (if _ then _ else _) = _
  exact if_pos h
theorem zrow_n {f k : Nat → Int} {i : Nat} (h : ¬ zgc (zrow f k i).1 (f (4 * i)) (f (4 * i + 1)) (f (4 * i + 2)) (f (4 * i + 3))) : zrow f k (i + 1) = zrow f k i := by
  show (if _ then _ else _) = _
  exact if_neg h
theorem zrow_KI {f k : Nat → Int} (hi : KI k) : ∀ i, KI (zrow f k i).1
  | 0 => hi
  | i + 1 => by
    have ih := zrow_KI (f := f) hi i
    rcases Classical.em (zgc (zrow f k i).1 (f (4 * i)) (f (4 * i + 1)) (f (4 * i + 2)) (f (4 * i + 3))) with h | h
    · rw [zrow_y h]; exact kGround_KI ih h
    · rw [zrow_n h]; exact ih
theorem zrow_c {f k : Nat → Int} : ∀ i : Nat, 0 ≤ (zrow f k i).2 ∧ (zrow f k i).2 ≤ (i : Int)
  | 0 => by show (0 : Int) ≤ 0 ∧ (0 : Int) ≤ ((0 : Nat) : Int); decide
  | i + 1 => by
    have ih := zrow_c (f := f) (k := k) i
    rcases Classical.em (zgc (zrow f k i).1 (f (4 * i)) (f (4 * i + 1)) (f (4 * i + 2)) (f (4 * i + 3))) with h | h
    · rw [zrow_y h]; show 0 ≤ (zrow f k i).2 + 1 ∧ (zrow f k i).2 + 1 ≤ ((i + 1 : Nat) : Int); omega
    · rw [zrow_n h]; omega
