/-! THE LAW'S LOOP: feed, law -/
theorem zfb_in {x : Nat → Int} {i : Nat} : -128 ≤ zfb x i ∧ zfb x i ≤ 127 := by unfold zfb w8; omega
theorem iv_feed {c : Int} {S : zSh} {sz : Nat} {M M1 M2 : zMem} {x0 x1 x2 x3 x4 r r2 : Int} (h : IV c S sz M) (h1 : (400 < M 30 1 + 20 ∧ r = -1 ∧ M1 = M) ∨ (M 30 1 + 20 ≤ 400 ∧ r = M 30 1 + 20 ∧ M1 = z_up (z_mup M 31 (zput (zput (zput (zput (zput (M 31) (M 30 1).toNat x0) ((M 30 1).toNat + 4) x1) ((M 30 1).toNat + 8) x2) ((M 30 1).toNat + 12) x3) ((M 30 1).toNat + 16) x4)) 30 1 (M 30 1 + 20))) (h2 : (400 < M1 55 13 + 20 ∧ r2 = -1 ∧ M2 = M1) ∨ (M1 55 13 + 20 ≤ 400 ∧ r2 = M1 55 13 + 20 ∧ (∀ i, i ≠ 55 → i ≠ 62 → i ≠ 63 → M2 i = M1 i) ∧ (∀ j, j ≠ 13 → M2 55 j = M1 55 j) ∧ M2 55 13 = M1 55 13 + 20 ∧ M2 62 = zblk (M1 62) (zfb (five x0 x1 x2 x3 x4)) (M1 55 13).toNat 20)) : r = r2 ∧ IV c S sz M2 := by
  obtain ⟨t1, t2, t3, t4, t5⟩ := h.2.2.2.2.2.1
  have e : ∀ i, i ≠ 30 → i ≠ 31 → M1 i = M i := by
    intro i p q
    rcases h1 with ⟨-, -, a⟩ | ⟨-, -, a⟩
    · rw [a]
    · rw [a, z_up_ne p, z_mup_ne q]
  have e55 := e 55 (by decide) (by decide)
  have e62 := e 62 (by decide) (by decide)
  rw [e55, e62, ← t1] at h2
  rcases h1 with ⟨a1, a2, a3⟩ | ⟨a1, a2, a3⟩
  · rcases h2 with ⟨b1, b2, b3⟩ | ⟨b1, -⟩
    · exact ⟨by omega, by rw [b3, a3]; exact h⟩
    · exfalso; omega
  · rcases h2 with ⟨b1, -⟩ | ⟨b1, b2, b3, b4, b5, b6⟩
    · exfalso; omega
    · refine ⟨by omega, iv_tape h (fun i p1 p2 p3 p4 p5 => by rw [b3 i p3 p4 p5]; exact e i p1 p2) (fun j hj => b4 j hj) ⟨?_, ?_, ?_, ?_, ?_⟩⟩
      · rw [b3 30 (by decide) (by decide) (by decide), a3, z_up_eq, b5]
      · rw [b5]; omega
      · intro i
        rw [b3 31 (by decide) (by decide) (by decide), a3, z_up_ne (by decide), z_mup_eq, b6]
        exact tape_tie t3 _ _ _ _ _ _ i
      · intro i hi
        rw [b6]
        unfold zblk
        split
        · exact zfb_in
        · exact t4 i hi
      · unfold wdI; rw [b3 61 (by decide) (by decide) (by decide), e 61 (by decide) (by decide)]; exact t5
/-- one tape, two readers: the same tokens -/
theorem tie_read {b : Nat → Int} (hb : ∀ i, 0 ≤ b i ∧ b i ≤ 255) {size : Nat} (hs : size ≤ 400) {f1 f2 f3 g1 g2 g3 : Nat → Int} {T T' : tS} (hT : tkG (mC b) (mV b) b size 401 0 (0, f1, f2, f3) = T) (hT' : tkG (cC b) (cV b) b size 401 0 (0, g1, g2, g3) = T') : (∀ (M : zMem) (w : Int), CKr (cN M w ((T'.1 + 1 : Nat) : Int) (ku T'.2.1 T'.1 32) (ku T'.2.2.1 T'.1 0) (ku T'.2.2.2 T'.1 (size : Int))) (ku T.2.1 T.1 0) (ku T.2.2.1 T.1 0) T.1 ∧ cN M w ((T'.1 + 1 : Nat) : Int) (ku T'.2.1 T'.1 32) (ku T'.2.2.1 T'.1 0) (ku T'.2.2.2 T'.1 (size : Int)) 33 T.1 = 32) ∧ (∀ t, t ≤ T.1 → ku T'.2.2.2 T'.1 (size : Int) t = ku T.2.2.2 T.1 (size : Int) t ∧ 0 ≤ ku T'.2.2.2 T'.1 (size : Int) t) := by
  obtain ⟨h1, h2, h3⟩ := tok_both hb hT hT'
  rw [← h2]
  have hp : ∀ t, t ≤ T.1 → ku T'.2.2.2 T.1 (size : Int) t = ku T.2.2.2 T.1 (size : Int) t ∧ 0 ≤ ku T'.2.2.2 T.1 (size : Int) t := by
    intro t ht
    by_cases e : t = T.1
    · rw [e, ku_eq, ku_eq]; exact ⟨rfl, by omega⟩
    · rw [ku_ne e, ku_ne e]
      obtain ⟨-, -, q3, -, -, q6⟩ := h3 t (by omega)
      rw [q6]; exact ⟨rfl, q3⟩
  refine ⟨fun M w => ⟨⟨?_, fun i hi => ⟨?_, ?_, ?_⟩⟩, ?_⟩, hp⟩
  · unfold cN; rw [z_up_nk (by decide), ck_3]; omega
  · unfold cN; rw [z_up_ne (by decide), ck_33]
    by_cases e : i = T.1
    · exact .inr ⟨e, by rw [e, ku_eq]⟩
    · rw [ku_ne e, ku_ne e]; exact .inl (h3 i (by omega)).2.2.2.1
  · unfold cN; rw [z_up_ne (by decide), ck_35]
    by_cases e : i = T.1
    · rw [e, ku_eq, ku_eq]; decide
    · rw [ku_ne e, ku_ne e]; exact (h3 i (by omega)).2.2.2.2.1
  · rw [cN_34]; exact (hp i hi).2
  · unfold cN; rw [z_up_ne (by decide), ck_33, ku_eq]
/-- refused on both sides, with another tape, another fault, another stop -/
theorem iv_bad {c : Int} {S : zSh} {sz : Nat} {M N : zMem} {x : Int} (h : IV c S sz M) (hx : -6 ≤ x ∧ x ≤ -1) (f : ∀ i, ((1 ≤ i ∧ i ≤ 11) ∨ (23 ≤ i ∧ i ≤ 26) ∨ i = 31 ∨ i = 42 ∨ i = 48 ∨ i = 50 ∨ i = 52 ∨ i = 57 ∨ i = 58 ∨ i = 59 ∨ i = 61 ∨ i = 62 ∨ i = 69 ∨ i = 72 ∨ 74 ≤ i) → N i = M i) (h54 : N 54 = ku (M 54) (-x).toNat (M 54 (-x).toNat + 1)) (h56 : N 56 = ku (M 56) (-x).toNat (M 56 (-x).toNat + 1)) (f0 : N 0 3 = M 0 3) (hc : SCI N N) (h30 : N 30 1 = 0) (h13 : N 55 13 = 0) (f5 : ∀ j, (j = 32 ∨ j = 43 ∨ j = 44) → N 55 j = M 55 j) : IV (c + 1) S sz N := by
  have hh := h
  obtain ⟨g1, g2, g3, g4, g5, g6, g7, g8, g9, g10, g11⟩ := h
  have f57 := f 57 (by omega)
  refine IV_1 hh ⟨fun i hi => f i (by omega), f 23 (by omega), f0, f 58 (by omega), f 59 (by omega), f 74 (by omega), f5 43 (by omega), f5 44 (by omega)⟩ ?_ (by rw [f57]; exact g3) ?_ hc ?_ ?_ (fun t _ => by rw [f 11 (by omega)]) (by rw [f57]) (fun i a _ _ _ => by rw [f57]) ?_
  · rw [f57]; exact SR_frame g2 (fun i p q => f i (by omega))
  · intro i hi
    have g := g4 i hi
    rw [h54, h56]
    by_cases hq : i = (-x).toNat
    · rw [hq, ku_eq, ku_eq, ← hq]; omega
    · rw [ku_ne hq, ku_ne hq]; omega
  · obtain ⟨t1, t2, t3, t4, t5⟩ := g6
    refine ⟨by omega, by omega, ?_, ?_, ?_⟩
    · rw [f 31 (by omega), f 62 (by omega)]; exact t3
    · unfold tbI; rw [f 62 (by omega)]; exact t4
    · unfold wdI; rw [f 61 (by omega)]; exact t5
  · exact LGI_fr g7 (f 24 (by omega)) (f 25 (by omega)) (f 26 (by omega)) (f 69 (by omega)) (f5 32 (by omega)) (fun e he => by rw [f57]; exact he)
  · exact XTI_fr g11 (by unfold v42; rw [f 42 (by omega)]; exact g11.1) (f 48 (by omega)) (f 52 (by omega)) (f 50 (by omega)) (f 72 (by omega))
theorem KI_kLaw {k c v : Nat → Int} {n : Nat} (hi : KI k) (h6 : k 78 < 6) (hn : n ≤ 400) : KI (kLaw k c v n) := by
  have i1 := hi.1
  refine ⟨?_, fun h hh => ?_, fun g hg => ?_, fun q hq => ?_, fun q hq => ?_, fun t ht => ?_⟩
  · simp (disch := omega) only [kLaw_lo, kLaw_78]; omega
  · simp (disch := omega) only [kLaw_lo, kLaw_78]; exact hi.2.1 h hh
  · simp (disch := omega) only [kLaw_lo, kLaw_78]; exact hi.2.2.1 g hg
  · simp (disch := omega) only [kLaw_lo, kLaw_78]; exact hi.2.2.2.1 q hq
  · simp (disch := omega) only [kLaw_lo, kLaw_78]; exact hi.2.2.2.2.1 q hq
  · have i2 := hi.2.2.2.2.2 t ht
    unfold kLaw
    rw [ku_ne (by omega)]
    unfold kLs
    by_cases e : 80 + t = 80 + (k 78).toNat
    · rw [if_pos e]; omega
    · rw [if_neg e, if_neg (by omega), if_neg (by omega)]; exact i2
theorem kMoved_law {k c v e : Nat → Int} {n : Nat} : kMoved (kLaw k c v n) e = kLaw (kMoved k e) c v n := by
  funext j
  have e1 : kMoved k e 78 = k 78 := kMoved_at (by decide)
  by_cases hj : j < 23
  · rw [kLaw_lo (by omega) (by omega)]; unfold kMoved; rw [if_pos hj, if_pos hj]
  · rw [kMoved_at (by omega)]
    unfold kLaw
    rw [e1]
    by_cases h8 : j = 78
    · rw [h8, ku_eq, ku_eq]
    · rw [ku_ne h8, ku_ne h8]
      unfold kLs
      rw [kMoved_at (by omega)]
theorem kLaw_old {k c v : Nat → Int} {n : Nat} (hi : 0 ≤ k 78) (hn : n ≤ 400) {t : Nat} (ht : (t : Int) < k 78) (h6 : k 78 < 6) {L : List gC} (h : LawK k t L) : LawK (kLaw k c v n) t L := by
  obtain ⟨c1, v1, n1, cd0, s', h1, h2, h3, h4, h5⟩ := h
  have hn1 := h2.1
  have e : ∀ i, (i = 80 + t ∨ (87 + 400 * t ≤ i ∧ i < 487 + 400 * t) ∨ (2887 + 400 * t ≤ i ∧ i < 3287 + 400 * t)) → kLaw k c v n i = k i := fun i hi => by
    unfold kLaw
    rw [ku_ne (by omega)]
    unfold kLs
    rw [if_neg (by omega), if_neg (by omega), if_neg (by omega)]
  exact ⟨c1, v1, n1, cd0, s', by rw [e _ (by omega)]; exact h1, h2, fun i hi => by rw [e _ (by omega)]; exact h3 i hi, fun i hi => by rw [e _ (by omega)]; exact h4 i hi, h5⟩
theorem kLaw_new {k c v : Nat → Int} {n : Nat} (hi : 0 ≤ k 78) (h6 : k 78 < 6) (hT : TK c v n) {cd0 : Nat → Int} {s' : gS} {L : List gC} (hq : g_text false c v n 12 (gz cd0) [] = .inr (s', L)) : LawK (kLaw k c v n) (k 78).toNat L := by
  have hn := hT.1
  refine ⟨c, v, n, cd0, s', ?_, hT, fun i hi => ?_, fun i hi => ?_, hq⟩
  · unfold kLaw; rw [ku_ne (by omega)]; unfold kLs; rw [if_pos rfl]
  · unfold kLaw; rw [ku_ne (by omega)]; unfold kLs; rw [if_neg (by omega), if_pos (by omega), show 87 + (400 * (k 78).toNat + i) - (87 + 400 * (k 78).toNat) = i by omega]
  · unfold kLaw; rw [ku_ne (by omega)]; unfold kLs; rw [if_neg (by omega), if_neg (by omega), if_pos (by omega), show 2887 + (400 * (k 78).toNat + i) - (2887 + 400 * (k 78).toNat) = i by omega]
