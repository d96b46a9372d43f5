/-! THE LAW'S LOOP: the numbers of the ship -/
theorem kSign_KI {k : Nat → Int} {x y : Int} (hi : KI k) (h8 : k 75 < 8) (hx : 1 ≤ x ∧ x ≤ 999) (hy : 0 ≤ y ∧ y ≤ 9999) : KI (kSign k x y) := by
  have i1 := hi.1
  obtain ⟨n, hn⟩ : ∃ n : Nat, k 75 = (n : Int) := ⟨(k 75).toNat, by omega⟩
  unfold kSign
  rw [show (k 75).toNat = n by omega]
  refine ⟨?_, fun h hh => ?_, fun g hg => ?_, fun q hq => ?_, fun q hq => ?_, fun t ht => ?_⟩
  · simp (disch := omega) only [ku_ne, ku_eq]; omega
  · have i2 := hi.2.1 h hh
    by_cases e : h = n
    · subst e; simp (disch := omega) only [ku_ne, ku_eq]; omega
    · simp (disch := omega) only [ku_ne, ku_eq]; omega
  · have i2 := hi.2.2.1 g hg
    simp (disch := omega) only [ku_ne, ku_eq]; omega
  · have i2 := hi.2.2.2.1 q hq
    simp (disch := omega) only [ku_ne, ku_eq]; omega
  · have i2 := hi.2.2.2.2.1 q hq
    simp (disch := omega) only [ku_ne, ku_eq]; omega
  · have i2 := hi.2.2.2.2.2 t ht
    simp (disch := omega) only [ku_ne, ku_eq]; omega
theorem terms_KI {k : Nat → Int} {x y : Int} (hi : KI k) (h : (x = 0 ∧ 0 ≤ y ∧ y ≤ 71) ∨ (x = 1 ∧ 1 ≤ y ∧ k 0 ≤ y ∧ y ≤ 999) ∨ (x = 2 ∧ 0 ≤ y ∧ y ≤ 9)) : KI (ku k (tix x) y) := by
  have i1 := hi.1
  rcases h with ⟨rfl, h⟩ | ⟨rfl, h⟩ | ⟨rfl, h⟩
  · rw [show tix 0 = 2 from rfl]
    refine ⟨?_, fun h hh => ?_, fun g hg => ?_, fun q hq => ?_, fun q hq => ?_, fun t ht => ?_⟩
    · simp (disch := omega) only [ku_ne, ku_eq]; omega
    · simp (disch := omega) only [ku_ne, ku_eq]; exact hi.2.1 h hh
    · simp (disch := omega) only [ku_ne, ku_eq]; exact hi.2.2.1 g hg
    · simp (disch := omega) only [ku_ne, ku_eq]; exact hi.2.2.2.1 q hq
    · simp (disch := omega) only [ku_ne, ku_eq]; exact hi.2.2.2.2.1 q hq
    · simp (disch := omega) only [ku_ne, ku_eq]; exact hi.2.2.2.2.2 t ht
  · rw [show tix 1 = 73 from rfl]
    refine ⟨?_, fun h hh => ?_, fun g hg => ?_, fun q hq => ?_, fun q hq => ?_, fun t ht => ?_⟩
    · simp (disch := omega) only [ku_ne, ku_eq]; omega
    · simp (disch := omega) only [ku_ne, ku_eq]; exact hi.2.1 h hh
    · simp (disch := omega) only [ku_ne, ku_eq]; exact hi.2.2.1 g hg
    · simp (disch := omega) only [ku_ne, ku_eq]; exact hi.2.2.2.1 q hq
    · simp (disch := omega) only [ku_ne, ku_eq]; exact hi.2.2.2.2.1 q hq
    · simp (disch := omega) only [ku_ne, ku_eq]; exact hi.2.2.2.2.2 t ht
  · rw [show tix 2 = 74 from rfl]
    refine ⟨?_, fun h hh => ?_, fun g hg => ?_, fun q hq => ?_, fun q hq => ?_, fun t ht => ?_⟩
    · simp (disch := omega) only [ku_ne, ku_eq]; omega
    · simp (disch := omega) only [ku_ne, ku_eq]; exact hi.2.1 h hh
    · simp (disch := omega) only [ku_ne, ku_eq]; exact hi.2.2.1 g hg
    · simp (disch := omega) only [ku_ne, ku_eq]; exact hi.2.2.2.1 q hq
    · simp (disch := omega) only [ku_ne, ku_eq]; exact hi.2.2.2.2.1 q hq
    · simp (disch := omega) only [ku_ne, ku_eq]; exact hi.2.2.2.2.2 t ht
theorem price_KI {k : Nat → Int} {x : Nat} {y : Int} (hi : KI k) (hx : x < 6) (hy : 0 ≤ y ∧ y ≤ 99) : KI (ku k (51 + x) y) := by
  have i1 := hi.1
  refine ⟨?_, fun h hh => ?_, fun g hg => ?_, fun q hq => ?_, fun q hq => ?_, fun t ht => ?_⟩
  · simp (disch := omega) only [ku_ne, ku_eq]; omega
  · simp (disch := omega) only [ku_ne, ku_eq]; exact hi.2.1 h hh
  · simp (disch := omega) only [ku_ne, ku_eq]; exact hi.2.2.1 g hg
  · by_cases e : q = x
    · subst e; rw [ku_eq]; exact hy
    · simp (disch := omega) only [ku_ne, ku_eq]; exact hi.2.2.2.1 q hq
  · simp (disch := omega) only [ku_ne, ku_eq]; exact hi.2.2.2.2.1 q hq
  · simp (disch := omega) only [ku_ne, ku_eq]; exact hi.2.2.2.2.2 t ht
theorem force_KI {k : Nat → Int} {x : Int} (hi : KI k) (hx : -1 ≤ x ∧ x < k 78) : KI (ku k 79 x) := by
  have i1 := hi.1
  refine ⟨?_, fun h hh => ?_, fun g hg => ?_, fun q hq => ?_, fun q hq => ?_, fun t ht => ?_⟩
  · simp (disch := omega) only [ku_ne, ku_eq]; omega
  · simp (disch := omega) only [ku_ne, ku_eq]; exact hi.2.1 h hh
  · simp (disch := omega) only [ku_ne, ku_eq]; exact hi.2.2.1 g hg
  · simp (disch := omega) only [ku_ne, ku_eq]; exact hi.2.2.2.1 q hq
  · simp (disch := omega) only [ku_ne, ku_eq]; exact hi.2.2.2.2.1 q hq
  · simp (disch := omega) only [ku_ne, ku_eq]; exact hi.2.2.2.2.2 t ht
theorem forget_KI {k : Nat → Int} (hi : KI k) : KI (ku k 77 0) := by
  have i1 := hi.1
  refine ⟨?_, fun h hh => ?_, fun g hg => ?_, fun q hq => ?_, fun q hq => ?_, fun t ht => ?_⟩
  · simp (disch := omega) only [ku_ne, ku_eq]; omega
  · simp (disch := omega) only [ku_ne, ku_eq]; exact hi.2.1 h hh
  · simp (disch := omega) only [ku_ne, ku_eq]; exact hi.2.2.1 g hg
  · simp (disch := omega) only [ku_ne, ku_eq]; exact hi.2.2.2.1 q hq
  · have i2 := hi.2.2.2.2.1 q hq
    simp (disch := omega) only [ku_ne, ku_eq]; omega
  · simp (disch := omega) only [ku_ne, ku_eq]; exact hi.2.2.2.2.2 t ht
theorem word_KI {k : Nat → Int} {x y : Int} (hi : KI k) (hy : 0 ≤ y ∧ y ≤ 999999) (hx : 0 ≤ x ∧ x < k 75) (h8 : k 77 < 8) : KI (kWord k x y) := by
  have i1 := hi.1
  obtain ⟨n, hn⟩ : ∃ n : Nat, k 77 = (n : Int) := ⟨(k 77).toNat, by omega⟩
  unfold kWord
  rw [show (k 77).toNat = n by omega]
  refine ⟨?_, fun h hh => ?_, fun g hg => ?_, fun q hq => ?_, fun q hq => ?_, fun t ht => ?_⟩
  · simp (disch := omega) only [ku_ne, ku_eq]; omega
  · simp (disch := omega) only [ku_ne, ku_eq]; exact hi.2.1 h hh
  · simp (disch := omega) only [ku_ne, ku_eq]; exact hi.2.2.1 g hg
  · simp (disch := omega) only [ku_ne, ku_eq]; exact hi.2.2.2.1 q hq
  · have i2 := hi.2.2.2.2.1 q hq
    by_cases e : q = n
    · subst e
      rw [show 58 + 2 * q = 57 + 2 * q + 1 by omega]
      simp (disch := omega) only [ku_ne, ku_eq]; omega
    · simp (disch := omega) only [ku_ne, ku_eq]; omega
  · simp (disch := omega) only [ku_ne, ku_eq]; exact hi.2.2.2.2.2 t ht
theorem kMoved_ku {k e : Nat → Int} {i : Nat} {x : Int} (h : 23 ≤ i) : kMoved (ku k i x) e = ku (kMoved k e) i x := by
  funext j
  unfold kMoved
  by_cases hj : j < 23
  · rw [if_pos hj, ku_ne (by omega), if_pos hj]
  · rw [if_neg hj]
    by_cases e2 : j = i
    · rw [e2, ku_eq, ku_eq]
    · rw [ku_ne e2, ku_ne e2, if_neg hj]
theorem kMoved_at {k e : Nat → Int} {i : Nat} (h : 23 ≤ i) : kMoved k e i = k i := by unfold kMoved; rw [if_neg (by omega)]
theorem kMoved_self {k : Nat → Int} {x : Int} : kMoved k (ku k 23 x) = k := by
  funext i
  unfold kMoved
  by_cases h : i < 23
  · rw [if_pos h, ku_ne (by omega)]
  · rw [if_neg h]
theorem kMoved_word {k e : Nat → Int} {x y : Int} : kMoved (kWord k x y) e = kWord (kMoved k e) x y := by
  unfold kWord
  rw [kMoved_ku (by omega), kMoved_ku (by omega), kMoved_ku (by omega), kMoved_at (k := k) (i := 77) (by omega)]
theorem kSign_hi {k : Nat → Int} {x y : Int} (h : 0 ≤ k 75 ∧ k 75 < 8) {i : Nat} (hi : 78 ≤ i) : kSign k x y i = k i := by
  unfold kSign
  rw [ku_ne (by omega), ku_ne (by omega), ku_ne (by omega), ku_ne (by omega), ku_ne (by omega)]
theorem kGround_hi {k : Nat → Int} {x y z u : Int} (h : 0 ≤ k 76 ∧ k 76 < 4) {i : Nat} (hi : 78 ≤ i) : kGround k x y z u i = k i := by
  unfold kGround
  rw [ku_ne (by omega), ku_ne (by omega), ku_ne (by omega), ku_ne (by omega), ku_ne (by omega)]
theorem kWord_hi {k : Nat → Int} {x y : Int} (h : 0 ≤ k 77 ∧ k 77 < 8) {i : Nat} (hi : 78 ≤ i) : kWord k x y i = k i := by
  unfold kWord
  rw [ku_ne (by omega), ku_ne (by omega), ku_ne (by omega)]
theorem tix_lt {x : Int} (h : x = 0 ∨ x = 1 ∨ x = 2) : tix x < 78 := by rcases h with rfl | rfl | rfl <;> decide
theorem zrow_hi {f k : Nat → Int} (hk : KI k) {i : Nat} (hi : 78 ≤ i) : ∀ n, (zrow f k n).1 i = k i
  | 0 => rfl
  | n + 1 => by
    by_cases h : zgc (zrow f k n).1 (f (4 * n)) (f (4 * n + 1)) (f (4 * n + 2)) (f (4 * n + 3))
    · rw [zrow_y h]
      show kGround _ _ _ _ _ i = _
      rw [kGround_hi ⟨by have := (zrow_KI (f := f) hk n).1; omega, h.1⟩ hi]
      exact zrow_hi hk hi n
    · rw [zrow_n h]; exact zrow_hi hk hi n
theorem zrow_tie {f g k : Nat → Int} (h : ∀ i, f i = g i % 256) : ∀ n : Nat, (∀ i, i < 4 * n → -128 ≤ g i ∧ g i ≤ 127) → zrow f k n = zrow g k n
  | 0, _ => rfl
  | n + 1, hb => by
    have ih := zrow_tie (k := k) h n (fun i hi => hb i (by omega))
    have b0 := hb (4 * n) (by omega)
    have b1 := hb (4 * n + 1) (by omega)
    have b2 := hb (4 * n + 2) (by omega)
    have b3 := hb (4 * n + 3) (by omega)
    have e0 := h (4 * n)
    have e1 := h (4 * n + 1)
    have e2 := h (4 * n + 2)
    have e3 := h (4 * n + 3)
    by_cases hz : zgc (zrow g k n).1 (g (4 * n)) (g (4 * n + 1)) (g (4 * n + 2)) (g (4 * n + 3))
    · obtain ⟨z1, z2, z3, z4, z5, z6⟩ := hz
      have q0 : f (4 * n) = g (4 * n) := by omega
      have q1 : f (4 * n + 1) = g (4 * n + 1) := by omega
      have q2 : f (4 * n + 2) = g (4 * n + 2) := by omega
      have q3 : f (4 * n + 3) = g (4 * n + 3) := by omega
      rw [zrow_y (f := g) ⟨z1, z2, z3, z4, z5, z6⟩, zrow_y (f := f) (by rw [ih, q0, q1, q2, q3]; exact ⟨z1, z2, z3, z4, z5, z6⟩), ih, q0, q1, q2, q3]
    · rw [zrow_n (f := g) hz, zrow_n (f := f) (by
        rw [ih]
        rintro ⟨z1, z2, z3, z4, z5, z6⟩
        exact hz ⟨z1, by omega, by omega, by omega, by omega, by omega⟩), ih]
theorem push_ok {k k' : Nat → Int} {l : Nat → Nat → Int} {n : Nat} {x : Int} (hk : KI k) (hv : ∀ j, j < n → (0 ≤ l j 23 ∧ l j 23 ≤ 3) ∧ KI (kMoved k (l j))) (hn : n ≤ 16) (hx : 0 ≤ x ∧ x ≤ 3) (hh : ∀ i, 23 ≤ i → k' i = k i) : ∀ j, j < min (n + 1) 16 → (0 ≤ lpush l n k x j 23 ∧ lpush l n k x j 23 ≤ 3) ∧ KI (kMoved k' (lpush l n k x j)) := by
  intro j hj
  rw [kMoved_hi hh]
  unfold lpush
  by_cases h16 : n < 16
  · simp only [if_pos h16]
    by_cases e : j = n
    · simp only [if_pos e]; rw [ku_eq, kMoved_self]; exact ⟨hx, hk⟩
    · simp only [if_neg e]; exact hv j (by omega)
  · simp only [if_neg h16]
    by_cases e : j = 15
    · simp only [if_pos e]; rw [ku_eq, kMoved_self]; exact ⟨hx, hk⟩
    · simp only [if_neg e]; exact hv (j + 1) (by omega)
