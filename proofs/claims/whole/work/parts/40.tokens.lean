theorem tok_both {b : Nat → Int} (hb : ∀ i, 0 ≤ b i ∧ b i ≤ 255) {size : Nat} {f1 f2 f3 g1 g2 g3 : Nat → Int} {T T' : tS} (hT : tkG (mC b) (mV b) b size 401 0 (0, f1, f2, f3) = T) (hT' : tkG (cC b) (cV b) b size 401 0 (0, g1, g2, g3) = T') : T.1 ≤ size ∧ T.1 = T'.1 ∧ ∀ i, i < T.1 → (0 ≤ T.2.1 i ∧ T.2.1 i ≤ 355) ∧ 0 ≤ T.2.2.1 i ∧ 0 ≤ T.2.2.2 i ∧ T'.2.1 i = kap (T.2.1 i) ∧ T'.2.2.1 i = min 1001 (T.2.2.1 i) ∧ T'.2.2.2 i = T.2.2.2 i := by
  have h := tkG_P (cod1 := mC b) (val1 := mV b) (cod2 := cC b) (val2 := cV b) (b := b) (size := size) (fun c v p c' v' p' => (0 ≤ c ∧ c ≤ 355) ∧ 0 ≤ v ∧ 0 ≤ p ∧ c' = kap c ∧ v' = min 1001 v ∧ p' = p) (fun k hk => by
    obtain ⟨h1, h2, h3, h4⟩ := tok_P (size := size) (fun i _ => hb i) hk
    exact ⟨h1, h2, by omega, h3, h4, rfl⟩) 401 0 (0, f1, f2, f3) (0, g1, g2, g3) (by omega) (by show 0 ≤ 0; omega) rfl (fun i hi => by
    have hi : i < 0 := hi
    omega)
  rw [hT, hT'] at h
  exact h
theorem tok_TK {b : Nat → Int} (hb : ∀ i, 0 ≤ b i ∧ b i ≤ 255) {size : Nat} (hs : size ≤ 400) {f1 f2 f3 : Nat → Int} {T : tS} (hT : tkG (mC b) (mV b) b size 401 0 (0, f1, f2, f3) = T) : TK (ku T.2.1 T.1 0) (ku T.2.2.1 T.1 0) T.1 ∧ ∀ i, i ≤ T.1 → 0 ≤ ku T.2.2.2 T.1 (size : Int) i := by
  obtain ⟨h1, -, h3⟩ := tok_both hb hT (g1 := f1) (g2 := f2) (g3 := f3) rfl
  refine ⟨⟨by omega, ku_eq, fun i hi => ?_, fun i hi => ?_⟩, fun i hi => ?_⟩
  · simp only [ku]
    by_cases e : i = T.1
    · rw [if_pos e]; omega
    · rw [if_neg e]; exact (h3 i (by omega)).1
  · simp only [ku]
    by_cases e : i = T.1
    · rw [if_pos e]; omega
    · rw [if_neg e]; exact (h3 i (by omega)).2.1
  · simp only [ku]
    by_cases e : i = T.1
    · rw [if_pos e]; omega
    · rw [if_neg e]; exact (h3 i (by omega)).2.2.1
