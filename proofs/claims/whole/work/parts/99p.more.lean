/-! THE LAW'S LOOP: undo, forget, tape, row -/
theorem z_up_self' {M : zMem} {a k : Nat} {x : Int} (h : M a k = x) : z_up M a k x = M := by rw [← h]; exact z_up_self
theorem iv_undo {c : Int} {S : zSh} {sz : Nat} {M M1 M2 : zMem} {l : Nat → Nat → Int} {n : Nat} {r r2 : Int} (h : IV c S sz M) (hl2 : lR (M 69) l n) (h32 : M 55 32 = (n : Int)) (hv : ∀ j, j < n → (0 ≤ l j 23 ∧ l j 23 ≤ 3) ∧ KI (kMoved (M 57) (l j))) (h1 : ∃ N : zMem, (n = 0 → r = -3 ∧ N = M) ∧ (0 < n → r = l (n - 1) 23 ∧ (∀ i, ¬ (1 ≤ i ∧ i < 1 + 11) → i ≠ 24 → N i = M i) ∧ N 11 = M 11 ∧ SR N 1 (kMoved (M 57) (l (n - 1))) ∧ LR N 24 l (n - 1)) ∧ M1 = cFin N r) (h2 : (M1 55 32 = 0 ∧ r2 = -3 ∧ M2 = zRef M1 (-3)) ∨ (0 < M1 55 32 ∧ r2 = eB M1 ((M1 55 32).toNat - 1) 23 ∧ M2 = z_up (z_mup (z_up M1 55 32 (M1 55 32 - 1)) 57 (kMoved (M1 57) (eB M1 ((M1 55 32).toNat - 1)))) 55 0 0)) : r = r2 ∧ IV (c + 1) S sz M2 := by
  obtain ⟨N, a1, a2, a3⟩ := h1
  have hh := h
  obtain ⟨g1, g2, g3, g4, g5, g6, g7, g8, g9, g10, g11⟩ := h
  by_cases hn : n = 0
  · obtain ⟨b1, b2⟩ := a1 hn
    rw [b1, b2] at a3
    have e : cFin M (-3) = cRef M (-3) := by unfold cFin; rw [if_pos (by decide)]
    rw [e] at a3
    have e32 : M1 55 32 = 0 := by rw [a3]; unfold cRef; rw [z_up_ne (by decide), z_up_ne (by decide), h32]; omega
    rcases h2 with ⟨-, b3, b4⟩ | ⟨b3, -⟩
    · refine ⟨by omega, iv_ref hh (x := -3) (by decide) ?_⟩
      rw [b4, a3]; exact rfR_0
    · exfalso; omega
  · obtain ⟨b1, b2, b3, b4, b5⟩ := a2 (by omega)
    have hv1 := hv (n - 1) (by omega)
    have hl1 := hl2.1
    have e : cFin N r = z_up N 0 15 0 := by unfold cFin; rw [if_neg (by omega)]
    rw [e] at a3
    have eN : ∀ i, 12 ≤ i → i ≠ 24 → M1 i = M i := fun i p q => by rw [a3, z_up_ne (by omega)]; exact b2 i (by omega) q
    have e55 := eN 55 (by decide) (by decide)
    have e57 := eN 57 (by decide) (by decide)
    have e69 := eN 69 (by decide) (by decide)
    rw [e55, e57, h32] at h2
    rcases h2 with ⟨b6, -⟩ | ⟨-, b6, b7⟩
    · exfalso; omega
    rw [Int.toNat_natCast] at b6 b7
    have hE : ∀ i, i < 24 → eB M1 (n - 1) i = l (n - 1) i := fun i hi => by
      unfold eB; rw [e69]; exact hl2.2 (n - 1) (by omega) i hi
    rw [kMoved_lo (fun i hi => hE i (by omega))] at b7
    have hr : r = r2 := by rw [b6, hE 23 (by omega), b1]
    refine ⟨hr, ?_⟩
    have f : ∀ i, i ≠ 55 → i ≠ 57 → M2 i = M1 i := fun i p q => by rw [b7, z_up_ne p, z_mup_ne q, z_up_ne p]
    have f57 : M2 57 = kMoved (M 57) (l (n - 1)) := by rw [b7, z_up_ne (by decide), z_mup_eq]
    have f11 : M1 11 = M 11 := by rw [a3, z_up_ne (by decide)]; exact b3
    have fA : ∀ i, i ≠ 0 → i ≠ 55 → i ≠ 57 → M2 i = N i := fun i p q s => by rw [f i q s, a3, z_up_ne p]
    refine IV_mono (iv_mov hh (fun i hi => ?_) ?_ (by rw [b7, z_up_eq]) (fun j hj => ?_) ?_ (by rw [f57]; exact hv1.2) (by rw [f57]; exact fun i hi => kMoved_at hi) ?_ ?_) (by omega)
    · rw [f i (by omega) (by omega)]
      by_cases h11 : i = 11
      · rw [h11]; exact f11
      · exact eN i (by omega) (by omega)
    · rw [f 0 (by decide) (by decide), a3]
      funext j; rw [← b2 0 (by omega) (by decide)]; simp [z_up, ku]
    · rw [b7, z_up_nk (by omega), z_mup_ne (by decide), z_up_nk (by omega), e55]
    · rw [f57]; exact SR_frame b4 (fun i p q => fA i (by omega) (by omega) (by omega))
    · refine ⟨l, n - 1, LR_fr b5 (fA 24 (by decide) (by decide) (by decide)) (fA 25 (by decide) (by decide) (by decide)) (fA 26 (by decide) (by decide) (by decide)), ?_, ?_, ?_⟩
      · rw [f 69 (by decide) (by decide), e69]; exact ⟨by omega, fun j hj => hl2.2 j (by omega)⟩
      · rw [b7, z_up_nk (by decide), z_mup_ne (by decide), z_up_eq]; omega
      · intro j hj
        rw [f57, kMoved_hi (fun i hi => kMoved_at hi)]
        exact hv j (by omega)
    · unfold v42; rw [f 42 (by decide) (by decide), eN 42 (by decide) (by decide)]; exact g11.1
theorem iv_forget {c : Int} {S : zSh} {sz : Nat} {M M1 M2 : zMem} (h : IV c S sz M) (h1 : M1 = z_up M 1 12 0) (hs : SR M1 1 (ku (M 57) 77 0)) (h2 : M2 = z_mup M1 57 (ku (M1 57) 77 0)) : IV c S sz M2 := by
  have hh := h
  obtain ⟨g1, g2, g3, g4, g5, g6, g7, g8, g9, g10, g11⟩ := h
  have f : ∀ i, i ≠ 1 → i ≠ 57 → M2 i = M i := fun i p q => by rw [h2, z_mup_ne q, h1, z_up_ne p]
  have f57 : M2 57 = ku (M 57) 77 0 := by rw [h2, z_mup_eq, h1, z_up_ne (by decide)]
  refine IV_1 hh ⟨fun i hi => f i (by omega) (by omega), f 23 (by decide) (by decide), by rw [f 0 (by decide) (by decide)], f 58 (by decide) (by decide), f 59 (by decide) (by decide), f 74 (by decide) (by decide), by rw [f 55 (by decide) (by decide)], by rw [f 55 (by decide) (by decide)]⟩ ?_ (by rw [f57]; exact forget_KI g3) ?_ ?_ ?_ ?_ (fun t _ => by rw [f 11 (by decide) (by decide)]) (by rw [f57, ku_ne (by decide)]) (fun i a _ _ _ => by rw [f57, ku_ne (by omega)]) ?_
  · rw [f57]; exact SR_frame hs (fun i p q => by rw [h2, z_mup_ne (by omega)])
  · intro i hi; rw [f 54 (by decide) (by decide), f 56 (by decide) (by decide)]; exact g4 i hi
  · unfold SCI; rw [f 0 (by decide) (by decide), f 55 (by decide) (by decide)]; exact g5
  · unfold TPI tbI wdI; rw [f 30 (by decide) (by decide), f 31 (by decide) (by decide), f 55 (by decide) (by decide), f 62 (by decide) (by decide), f 61 (by decide) (by decide)]; exact g6
  · exact LGI_fr g7 (f 24 (by decide) (by decide)) (f 25 (by decide) (by decide)) (f 26 (by decide) (by decide)) (f 69 (by decide) (by decide)) (by rw [f 55 (by decide) (by decide)]) (fun e he => by rw [f57, kMoved_ku (by decide)]; exact forget_KI he)
  · exact XTI_fr g11 (by unfold v42; rw [f 42 (by decide) (by decide)]; exact g11.1) (f 48 (by decide) (by decide)) (f 52 (by decide) (by decide)) (f 50 (by decide) (by decide)) (f 72 (by decide) (by decide))
/-- another tape -/
theorem iv_tape {c : Int} {S : zSh} {sz : Nat} {M N : zMem} (h : IV c S sz M) (f : ∀ i, i ≠ 30 → i ≠ 31 → i ≠ 55 → i ≠ 62 → i ≠ 63 → N i = M i) (f5 : ∀ j, j ≠ 13 → N 55 j = M 55 j) (ht : TPI N N) : IV c S sz N := by
  have hh := h
  obtain ⟨g1, g2, g3, g4, g5, g6, g7, g8, g9, g10, g11⟩ := h
  have ff : ∀ i, (i < 30 ∨ (32 ≤ i ∧ i < 55) ∨ (56 ≤ i ∧ i < 62) ∨ 64 ≤ i) → N i = M i := fun i hi => f i (by omega) (by omega) (by omega) (by omega) (by omega)
  have f57 := ff 57 (by omega)
  refine IV_1 hh ⟨fun i hi => ff i (by omega), ff 23 (by omega), by rw [ff 0 (by omega)], ff 58 (by omega), ff 59 (by omega), ff 74 (by omega), f5 43 (by decide), f5 44 (by decide)⟩ ?_ (by rw [f57]; exact g3) ?_ ?_ ht ?_ (fun t _ => by rw [ff 11 (by omega)]) (by rw [f57]) (fun i a _ _ _ => by rw [f57]) ?_
  · rw [f57]; exact SR_frame g2 (fun i p q => ff i (by omega))
  · intro i hi; rw [ff 54 (by omega), ff 56 (by omega)]; exact g4 i hi
  · unfold SCI; rw [ff 0 (by omega), f5 14 (by decide), f5 6 (by decide), f5 35 (by decide), f5 0 (by decide)]; exact g5
  · exact LGI_fr g7 (ff 24 (by omega)) (ff 25 (by omega)) (ff 26 (by omega)) (ff 69 (by omega)) (f5 32 (by decide)) (fun e he => by rw [f57]; exact he)
  · exact XTI_fr g11 (by unfold v42; rw [ff 42 (by omega)]; exact g11.1) (ff 48 (by omega)) (ff 52 (by omega)) (ff 50 (by omega)) (ff 72 (by omega))
theorem iv_end {c : Int} {S : zSh} {sz : Nat} {M M1 M2 : zMem} {x r r2 : Int} (h : IV c S sz M) (h1 : (¬ (0 ≤ x ∧ x ≤ M 30 1) ∧ r = -1 ∧ M1 = M) ∨ ((0 ≤ x ∧ x ≤ M 30 1) ∧ r = x ∧ M1 = z_up M 30 1 x)) (h2 : (¬ (0 ≤ x ∧ x ≤ M1 55 13) ∧ r2 = -1 ∧ M2 = M1) ∨ ((0 ≤ x ∧ x ≤ M1 55 13) ∧ r2 = x ∧ M2 = z_up M1 55 13 x)) : r = r2 ∧ IV c S sz M2 := by
  obtain ⟨t1, t2, t3, t4, t5⟩ := h.2.2.2.2.2.1
  have e : M1 55 13 = M 55 13 := by
    rcases h1 with ⟨-, -, a⟩ | ⟨-, -, a⟩
    · rw [a]
    · rw [a, z_up_ne (by decide)]
  rw [e, ← t1] at h2
  rcases h1 with ⟨a1, a2, a3⟩ | ⟨a1, a2, a3⟩
  · rcases h2 with ⟨b1, b2, b3⟩ | ⟨b1, -⟩
    · exact ⟨by omega, by rw [b3, a3]; exact h⟩
    · exact absurd b1 a1
  · rcases h2 with ⟨b1, -⟩ | ⟨b1, b2, b3⟩
    · exact absurd a1 b1
    · refine ⟨by omega, iv_tape h (fun i p1 p2 p3 p4 p5 => by rw [b3, z_up_ne p3, a3, z_up_ne p1]) (fun j hj => by rw [b3, z_up_nk hj, a3, z_up_ne (by decide)]) ⟨?_, ?_, ?_, ?_, ?_⟩⟩
      · rw [b3, z_up_ne (by decide), a3, z_up_eq, z_up_eq]
      · rw [b3, z_up_eq]; omega
      · intro i; rw [b3, z_up_ne (by decide), z_up_ne (by decide), a3, z_up_ne (by decide), z_up_ne (by decide)]; exact t3 i
      · unfold tbI; rw [b3, z_up_ne (by decide), a3, z_up_ne (by decide)]; exact t4
      · unfold wdI; rw [b3, z_up_ne (by decide), a3, z_up_ne (by decide)]; exact t5
theorem iv_row {c : Int} {S : zSh} {sz : Nat} {M M1 M2 : zMem} {r r2 : Int} (h : IV c S sz M) (h1 : (M 30 1 = 0 ∧ r = -6 ∧ M1 = cRef (z_up M 30 1 0) (-6)) ∨ (0 < M 30 1 ∧ r = (zrow (M 31) (M 57) (M 30 1 / 4).toNat).2 ∧ ∃ N : zMem, SR N 1 (zrow (M 31) (M 57) (M 30 1 / 4).toNat).1 ∧ (∀ i, ¬ (1 ≤ i ∧ i < 1 + 11) → i ≠ 0 → N i = z_up M 30 1 0 i) ∧ N 11 = M 11 ∧ (∀ j, j ≠ 13 → N 0 j = M 0 j) ∧ N 0 13 = (if M 30 1 % 4 = 0 then 0 else 1) + (M 30 1 / 4) - (zrow (M 31) (M 57) (M 30 1 / 4).toNat).2 ∧ M1 = z_up (z_up N 24 3 0) 0 15 0)) (h2 : (M1 55 13 = 0 ∧ r2 = -6 ∧ M2 = zRef (z_up M1 55 13 0) (-6)) ∨ (0 < M1 55 13 ∧ r2 = (zrow (M1 62) (M1 57) (M1 55 13 / 4).toNat).2 ∧ M2 = z_up (z_up (rwM M1 (zrow (M1 62) (M1 57) (M1 55 13 / 4).toNat).1 ((if M1 55 13 % 4 = 0 then 0 else 1) + (M1 55 13 / 4) - (zrow (M1 62) (M1 57) (M1 55 13 / 4).toNat).2)) 55 32 0) 55 0 0)) : r = r2 ∧ IV (c + 1) S sz M2 := by
  have hh := h
  obtain ⟨g1, g2, g3, g4, g5, g6, g7, g8, g9, g10, g11⟩ := h
  obtain ⟨t1, t2, t3, t4, t5⟩ := g6
  rcases h1 with ⟨a1, a2, a3⟩ | ⟨a1, a2, N, b1, b2, b3, b4, b5, b6⟩
  · rw [z_up_self' a1] at a3
    have e : M1 55 13 = 0 := by rw [a3]; unfold cRef; rw [z_up_ne (by decide), z_up_ne (by decide)]; omega
    rcases h2 with ⟨-, d2, d3⟩ | ⟨d1, -⟩
    · rw [z_up_self' e, a3] at d3
      refine ⟨by omega, iv_ref hh (x := -6) (by decide) ?_⟩
      rw [d3]; exact rfR_0
    · exfalso; omega
  · have eN : ∀ i, 12 ≤ i → i ≠ 24 → i ≠ 30 → M1 i = M i := fun i p q s => by rw [b6, z_up_ne (by omega), z_up_ne q, b2 i (by omega) (by omega), z_up_ne s]
    have e55 := eN 55 (by decide) (by decide) (by decide)
    have e57 := eN 57 (by decide) (by decide) (by decide)
    have e62 := eN 62 (by decide) (by decide) (by decide)
    rw [e55, e57, e62, ← t1] at h2
    rcases h2 with ⟨d1, -⟩ | ⟨-, d2, d3⟩
    · exfalso; omega
    have hz := zrow_tie (k := M 57) t3 (M 30 1 / 4).toNat (fun i hi => t4 i (by omega))
    rw [← hz] at d2 d3
    refine ⟨by omega, ?_⟩
    generalize hq : zrow (M 31) (M 57) (M 30 1 / 4).toNat = q at b1 b5 d2 d3 a2
    have hKI : KI q.1 := by rw [← hq]; exact zrow_KI g3 _
    have hhi : ∀ i, 78 ≤ i → q.1 i = M 57 i := fun i hi => by rw [← hq]; exact zrow_hi g3 hi _
    unfold rwM at d3
    have f : ∀ i, i ≠ 55 → i ≠ 57 → M2 i = M1 i := fun i p s => by rw [d3, z_up_ne p, z_up_ne p, z_up_ne p, z_up_ne p, z_mup_ne s]
    have f57 : M2 57 = q.1 := by rw [d3, z_up_ne (by decide), z_up_ne (by decide), z_up_ne (by decide), z_up_ne (by decide), z_mup_eq]
    have f5 : ∀ j, j ≠ 0 → j ≠ 32 → j ≠ 6 → j ≠ 13 → M2 55 j = M 55 j := fun j p1 p2 p3 p4 => by rw [d3, z_up_nk p1, z_up_nk p2, z_up_nk p3, z_up_nk p4, z_mup_ne (by decide), e55]
    have fe : ∀ i, 12 ≤ i → i ≠ 24 → i ≠ 30 → i ≠ 55 → i ≠ 57 → M2 i = M i := fun i p1 p2 p3 p4 p5 => by rw [f i p4 p5]; exact eN i p1 p2 p3
    have ff : ∀ i, (12 ≤ i ∧ i ≠ 24 ∧ i ≠ 30 ∧ i ≠ 55 ∧ i ≠ 57) → M2 i = M i := fun i p => fe i p.1 p.2.1 p.2.2.1 p.2.2.2.1 p.2.2.2.2
    have f0 : ∀ j, j ≠ 15 → M2 0 j = N 0 j := fun j p => by rw [f 0 (by decide) (by decide), b6, z_up_nk p, z_up_ne (by decide)]
    have fN : ∀ i, 1 ≤ i → i < 12 → M2 i = N i := fun i p1 p2 => by rw [f i (by omega) (by omega), b6, z_up_ne (by omega), z_up_ne (by omega)]
    refine IV_mono (IV_1 hh ⟨fun i hi => ff i (by omega), ff 23 (by omega), by rw [f0 3 (by decide)]; exact b4 3 (by decide), ff 58 (by omega), ff 59 (by omega), ff 74 (by omega), f5 43 (by decide) (by decide) (by decide) (by decide), f5 44 (by decide) (by decide) (by decide) (by decide)⟩ ?_ (by rw [f57]; exact hKI) ?_ ?_ ?_ ?_ (fun t _ => by rw [fN 11 (by decide) (by decide), b3]) (by rw [f57]; exact hhi 78 (by decide)) (fun i a _ _ _ => by rw [f57]; exact hhi i (by omega)) ?_) (show c ≤ c + 1 by omega)
    · rw [f57]; exact SR_frame b1 (fun i p s => fN i p (by omega))
    · intro i hi; rw [ff 54 (by omega), ff 56 (by omega)]; exact g4 i hi
    · refine ⟨?_, ?_, ?_, ?_⟩
      · rw [f0 12 (by decide), b4 12 (by decide), f5 14 (by decide) (by decide) (by decide) (by decide)]; exact g5.1
      · rw [f0 13 (by decide), b5, d3, z_up_nk (by decide), z_up_nk (by decide), z_up_eq]
      · rw [f0 14 (by decide), b4 14 (by decide), f5 35 (by decide) (by decide) (by decide) (by decide)]; exact g5.2.2.1
      · rw [f 0 (by decide) (by decide), b6, z_up_eq, d3, z_up_eq]
    · refine ⟨?_, ?_, ?_, ?_, ?_⟩
      · rw [f 30 (by decide) (by decide), b6, z_up_ne (by decide), z_up_ne (by decide), b2 30 (by decide) (by decide), z_up_eq, d3, z_up_nk (by decide), z_up_nk (by decide), z_up_nk (by decide), z_up_eq]
      · rw [d3, z_up_nk (by decide), z_up_nk (by decide), z_up_nk (by decide), z_up_eq]; omega
      · intro i; rw [ff 31 (by omega), ff 62 (by omega)]; exact t3 i
      · unfold tbI; rw [ff 62 (by omega)]; exact t4
      · unfold wdI; rw [ff 61 (by omega)]; exact t5
    · refine LGI_clr g7 ?_ ?_ ?_
      · rw [f 24 (by decide) (by decide), b6, z_up_ne (by decide), z_up_eq]
      · rw [f 24 (by decide) (by decide), b6, z_up_ne (by decide), z_up_nk (by decide), b2 24 (by decide) (by decide), z_up_ne (by decide)]
      · rw [d3, z_up_nk (by decide), z_up_eq]
    · exact XTI_fr g11 (by unfold v42; rw [ff 42 (by omega)]; exact g11.1) (ff 48 (by omega)) (ff 52 (by omega)) (ff 50 (by omega)) (ff 72 (by omega))
