/-! THE LAW'S LOOP: years, image, back, as steps -/
theorem iv_years {c : Int} {S S' : zSh} {sz sz' : Nat} {M M1 M2 : zMem} {v : Option zV} {x y r2 : Int} {Lw : List gC} (h : IV c S sz M)
    (h1 : (¬ ((0 ≤ x ∧ x ≤ 1000000) ∧ (1 ≤ y ∧ y ≤ 60)) ∧ v = some (zi (-1)) ∧ sz' = sz ∧ S' = S ∧ M1 = cRef M (-1)) ∨ (((0 ≤ x ∧ x ≤ 1000000) ∧ (1 ≤ y ∧ y ≤ 60)) ∧ M 57 76 = 0 ∧ v = some (zi (-3)) ∧ sz' = sz ∧ S' = S ∧ M1 = cRef M (-3)) ∨ (((0 ≤ x ∧ x ≤ 1000000) ∧ (1 ≤ y ∧ y ≤ 60)) ∧ 0 < M 57 76 ∧ v = some (zi (zyr Lw (M 57) x y.toNat).2.2) ∧ ∃ a : Nat, ((M 0 3 = (a : Int) ∧ 75 ≤ a ∧ SH S sz a ∧ sz' = sz ∧ S' = S) ∨ (M 0 3 = -1 ∧ a = sz ∧ sz' = sz + 11 ∧ S' = shS (z_sup S sz (7, 18, fun _ => -1)) sz)) ∧ SR M1 a (zyr Lw (M 57) x y.toNat).1 ∧ (∀ t, t < 6 → M1 (a + 10) t = M 11 t) ∧ (∀ i, i < sz → ¬ (a ≤ i ∧ i < a + 11) → i ≠ 0 → i ≠ 41 → i ≠ 42 → i ≠ 44 → M1 i = M i) ∧ M1 0 = ku (ku (M 0) 3 (a : Int)) 15 0 ∧ v42 M1))
    (h2 : (¬ ((0 ≤ x ∧ x ≤ 1000000) ∧ (1 ≤ y ∧ y ≤ 60)) ∧ r2 = -1 ∧ M2 = zRef M1 (-1)) ∨ (((0 ≤ x ∧ x ≤ 1000000) ∧ (1 ≤ y ∧ y ≤ 60)) ∧ M1 57 76 = 0 ∧ r2 = -3 ∧ M2 = zRef M1 (-3)) ∨ (((0 ≤ x ∧ x ≤ 1000000) ∧ (1 ≤ y ∧ y ≤ 60)) ∧ 0 < M1 57 76 ∧ r2 = (zyr Lw (M1 57) x y.toNat).2.2 ∧ (∀ j, j < 23 → M2 74 j = (zyr Lw (M1 57) x y.toNat).1 j) ∧ M2 57 = M1 57 ∧ M2 55 0 = 0 ∧ M2 55 43 = M1 57 75 ∧ M2 55 44 = M1 57 76 ∧ yF M1 M2)) : v = some (zi r2) ∧ IV (c + 1) S' sz' M2 := by
  have hh := h
  obtain ⟨g1, g2, g3, g4, g5, g6, g7, g8, g9, g10, g11⟩ := h
  have hz75 := g1.1
  rcases h1 with ⟨a1, a2, a3, a4, a5⟩ | ⟨a1, a0, a2, a3, a4, a5⟩ | ⟨a1, a2, a3, a, a4, a5, a6, a7, a8, a9⟩
  · subst a3; subst a4
    rcases h2 with ⟨-, b2, b3⟩ | ⟨b1, -⟩ | ⟨b1, -⟩
    · refine ⟨by rw [a2, b2], iv_ref hh (x := -1) (by decide) ?_⟩
      rw [b3, a5]; exact rfR_0
    · exact absurd b1 a1
    · exact absurd b1 a1
  · subst a3; subst a4
    have e57 : M1 57 = M 57 := by rw [a5]; unfold cRef; rw [z_up_ne (by decide), z_up_ne (by decide)]
    rw [e57] at h2
    rcases h2 with ⟨b1, -⟩ | ⟨-, -, b2, b3⟩ | ⟨-, b1, -⟩
    · exact absurd a1 b1
    · refine ⟨by rw [a2, b2], iv_ref hh (x := -3) (by decide) ?_⟩
      rw [b3, a5]; exact rfR_0
    · exfalso; omega
  · have ha : 75 ≤ a ∧ (SH S sz a ∨ a = sz) ∧ sz ≤ sz' ∧ (∀ i, i < sz → S' i = S i) ∧ LY S' sz' ∧ SH S' sz' a ∧ (∀ j, j < 2 → M 23 j ≠ (a : Int)) ∧ M 0 3 ≠ 0 := by
      have hl := OBI_lt g10
      rcases a4 with ⟨p1, p2, p3, p4, p5⟩ | ⟨p1, p2, p3, p4⟩
      · subst p4; subst p5
        refine ⟨p2, .inl p3, Nat.le_refl _, fun _ _ => rfl, g1, p3, fun j hj e => ?_, by omega⟩
        have := g10.2.2.2.2 j hj (by rw [e, p1])
        omega
      · subst p2; subst p3
        refine ⟨hz75, .inr rfl, by omega, fun i hi => by rw [p4]; exact shS_lt hi, by rw [p4]; exact LY_sh g1, by rw [p4]; exact SH_shS, fun j hj e => ?_, by omega⟩
        have := hl.1 j hj
        omega
    obtain ⟨q1, q2, q3, q4, q5, q6, q7, -⟩ := ha
    have eM : ∀ i, 45 ≤ i → i < 75 → M1 i = M i := fun i p q => a7 i (by omega) (by omega) (by omega) (by omega) (by omega) (by omega)
    have e57 := eM 57 (by decide) (by decide)
    rw [e57] at h2
    rcases h2 with ⟨b1, -⟩ | ⟨-, b1, -⟩ | ⟨-, -, b1, b2, b3, b4, b5, b6, b7⟩
    · exact absurd a1 b1
    · exfalso; omega
    refine ⟨by rw [a3, b1], ?_⟩
    have hy := zyr_in (Lw := Lw) g3 a2 (d := x) (by omega) y.toNat
    have m2 : ∀ i, i ≠ 55 → i ≠ 57 → i ≠ 60 → i ≠ 67 → i ≠ 68 → i ≠ 74 → M2 i = M1 i := b7.1
    have f : ∀ i, i < sz → ¬ (a ≤ i ∧ i < a + 11) → ((1 ≤ i ∧ i ≤ 40) ∨ i = 48 ∨ i = 50 ∨ i = 52 ∨ i = 54 ∨ i = 56 ∨ i = 58 ∨ i = 59 ∨ i = 61 ∨ i = 62 ∨ i = 69 ∨ i = 72 ∨ 75 ≤ i) → M2 i = M i := fun i p q s => by
      rw [m2 i (by omega) (by omega) (by omega) (by omega) (by omega) (by omega)]; exact a7 i p q (by omega) (by omega) (by omega) (by omega)
    have fs : ∀ i, ((1 ≤ i ∧ i ≤ 40) ∨ i = 48 ∨ i = 50 ∨ i = 52 ∨ i = 54 ∨ i = 56 ∨ i = 58 ∨ i = 59 ∨ i = 61 ∨ i = 62 ∨ i = 69 ∨ i = 72) → M2 i = M i := fun i s => f i (by omega) (by omega) (by omega)
    have f5 : ∀ j, (j = 6 ∨ j = 13 ∨ j = 14 ∨ j = 32 ∨ j = 35) → M2 55 j = M 55 j := fun j hj => by
      rw [b7.2 j (by omega) (by omega) (by omega) (by omega) (by omega) (by omega) (by omega) (by omega), eM 55 (by decide) (by decide)]
    have f0 : M2 0 = ku (ku (M 0) 3 (a : Int)) 15 0 := by rw [m2 0 (by decide) (by decide) (by decide) (by decide) (by decide) (by decide)]; exact a8
    have f57 : M2 57 = M 57 := b3
    have hK : obK S sz S' sz' M M2 a := ⟨q3, q4, q2, fun i p1 p2 p3 => f i p2 p3 (by omega)⟩
    have kk : ∀ j i, kI M2 j i = kI M j i := fun j i => by show M2 58 _ = M 58 _; rw [fs 58 (by omega)]
    obtain ⟨w1, w2, w3, w4⟩ := g10
    refine ⟨q5, ?_, by rw [f57]; exact g3, ?_, ?_, ?_, ?_, ?_, ?_, ?_, ?_⟩
    · rw [f57]; exact SR_frame g2 (fun i p q => fs i (by omega))
    · intro i hi; rw [fs 54 (by omega), fs 56 (by omega)]; have := g4 i hi; omega
    · refine ⟨?_, ?_, ?_, ?_⟩
      · rw [f0, ku_ne (by decide), ku_ne (by decide), f5 14 (by omega)]; exact g5.1
      · rw [f0, ku_ne (by decide), ku_ne (by decide), f5 6 (by omega)]; exact g5.2.1
      · rw [f0, ku_ne (by decide), ku_ne (by decide), f5 35 (by omega)]; exact g5.2.2.1
      · rw [f0, ku_eq, b4]
    · unfold TPI tbI wdI; rw [fs 30 (by omega), fs 31 (by omega), f5 13 (by omega), fs 62 (by omega), fs 61 (by omega)]; exact g6
    · exact LGI_fr g7 (fs 24 (by omega)) (fs 25 (by omega)) (fs 26 (by omega)) (fs 69 (by omega)) (f5 32 (by omega)) (fun e he => by rw [f57]; exact he)
    · rw [f57]; exact LA_fr (by have := g3.1; omega) g8 (obK_T hK) (fun t _ => by rw [fs 11 (by omega)]) rfl (fun _ _ _ _ _ => rfl)
    · exact lwT_fr g9 q3 q4 (fun t _ => by rw [fs 11 (by omega)])
    · have e23 := fs 23 (by omega)
      refine ⟨IM_fr hK w1 (q7 0 (by omega)) (by rw [e23]) (by rw [fs 59 (by omega)]) (fun i _ => kk 0 i), IM_fr hK w2 (q7 1 (by omega)) (by rw [e23]) (by rw [fs 59 (by omega)]) (fun i _ => kk 1 i), .inr ⟨a, (zyr Lw (M 57) x y.toNat).1, by rw [f0, ku_ne (by decide), ku_eq], q1, q6, ?_, hy.1, by rw [b5, hy.2.1 75 (by decide)], by rw [b6, hy.2.1 76 (by decide)], b2⟩, ?_⟩
      · exact SR_frame a5 (fun i p q => m2 i (by omega) (by omega) (by omega) (by omega) (by omega) (by omega))
      · unfold DS
        rw [e23, f0, ku_ne (by decide), ku_eq]
        exact ⟨w4.1, fun j hj e => absurd e (q7 j hj)⟩
    · exact XTI_fr g11 (by unfold v42; rw [m2 42 (by decide) (by decide) (by decide) (by decide) (by decide) (by decide)]; exact a9) (fs 48 (by omega)) (fs 52 (by omega)) (fs 50 (by omega)) (fs 72 (by omega))
theorem iv_image {c : Int} {S S' : zSh} {sz sz' : Nat} {M M1 M2 : zMem} {v : Option zV} {x r2 : Int} (h : IV c S sz M)
    (h1 : (¬ (0 ≤ x ∧ x < 2) ∧ v = some (zi (-1)) ∧ sz' = sz ∧ S' = S ∧ M1 = cRef M (-1)) ∨ ((0 ≤ x ∧ x < 2) ∧ v = some (zi 0) ∧ ∃ a, cpS S sz M (M 23 x.toNat) sz' S' M1 a (fun i => i ≠ 0 ∧ i ≠ 23) ∧ M1 23 = ku (M 23) x.toNat (a : Int) ∧ M1 0 = ku (M 0) 15 0))
    (h2 : (¬ (0 ≤ x ∧ x ≤ 1) ∧ r2 = -1 ∧ M2 = zRef M1 (-1)) ∨ ((0 ≤ x ∧ x ≤ 1) ∧ r2 = 0 ∧ M2 = z_up (z_up (z_mup M1 58 (zblk (M1 58) (M1 57) (5687 * x.toNat) 5687)) 59 x.toNat 1) 55 0 0)) : v = some (zi r2) ∧ IV (c + 1) S' sz' M2 := by
  have hh := h
  obtain ⟨g1, g2, g3, g4, g5, g6, g7, g8, g9, g10, g11⟩ := h
  have hz75 := g1.1
  rcases h1 with ⟨a1, a2, a3, a4, a5⟩ | ⟨a1, a2, a, ⟨a4, a5, a6, a7⟩, a8, a9⟩
  · subst a3; subst a4
    rcases h2 with ⟨-, b2, b3⟩ | ⟨b1, -⟩
    · refine ⟨by rw [a2, b2], iv_ref hh (x := -1) (by decide) ?_⟩
      rw [b3, a5]; exact rfR_0
    · exfalso; omega
  · have hl := OBI_lt g10
    obtain ⟨w1, w2, w3, w4⟩ := g10
    obtain ⟨m, hm⟩ : ∃ m : Nat, x = (m : Int) := ⟨x.toNat, by omega⟩
    have hm2 : m < 2 := by omega
    rw [hm, Int.toNat_natCast] at h2 a4 a8
    have ha : 75 ≤ a ∧ (SH S sz a ∨ a = sz) ∧ sz ≤ sz' ∧ (∀ i, i < sz → S' i = S i) ∧ LY S' sz' ∧ SH S' sz' a ∧ (∀ j, j < 2 → j ≠ m → M 23 j ≠ (a : Int)) ∧ M 0 3 ≠ (a : Int) := by
      rcases a4 with ⟨p1, p2, p3, p4, p5⟩ | ⟨p1, p2, p3, p4⟩
      · subst p4; subst p5
        refine ⟨p2, .inl p3, Nat.le_refl _, fun _ _ => rfl, g1, p3, fun j hj hne e => ?_, fun e => ?_⟩
        · have h01 : M 23 0 = M 23 1 := by
            have : (j = 0 ∧ m = 1) ∨ (j = 1 ∧ m = 0) := by omega
            rcases this with ⟨rfl, rfl⟩ | ⟨rfl, rfl⟩
            · rw [e, p1]
            · rw [e, p1]
          have h0 := w4.1 h01
          have : j = 0 ∨ j = 1 := by omega
          rcases this with rfl | rfl <;> omega
        · have := w4.2 m hm2 (by rw [e, p1])
          omega
      · subst p2; subst p3
        refine ⟨hz75, .inr rfl, by omega, fun i hi => by rw [p4]; exact shS_lt hi, by rw [p4]; exact LY_sh g1, by rw [p4]; exact SH_shS, fun j hj _ e => ?_, fun e => ?_⟩
        · have := hl.1 j hj; omega
        · have := hl.2.1; omega
    obtain ⟨q1, q2, q3, q4, q5, q6, q7, q8⟩ := ha
    rcases h2 with ⟨b1, -⟩ | ⟨-, b2, b3⟩
    · exfalso; omega
    refine ⟨by rw [a2, b2], ?_⟩
    have m2 : ∀ i, i ≠ 55 → i ≠ 58 → i ≠ 59 → M2 i = M1 i := fun i p1 p2 p3 => by rw [b3, z_up_ne p1, z_up_ne p3, z_mup_ne p2]
    have f : ∀ i, i < sz → ¬ (a ≤ i ∧ i < a + 11) → i ≠ 0 → i ≠ 23 → i ≠ 55 → i ≠ 58 → i ≠ 59 → M2 i = M i := fun i p q s1 s2 s3 s4 s5 => by rw [m2 i s3 s4 s5]; exact a7 i p q ⟨s1, s2⟩
    have fs : ∀ i, i < 75 → (i ≠ 0 ∧ i ≠ 23 ∧ i ≠ 55 ∧ i ≠ 58 ∧ i ≠ 59) → M2 i = M i := fun i s1 s2 => f i (by omega) (by omega) s2.1 s2.2.1 s2.2.2.1 s2.2.2.2.1 s2.2.2.2.2
    have e55 : M1 55 = M 55 := a7 55 (by omega) (by omega) ⟨by decide, by decide⟩
    have e57 : M1 57 = M 57 := a7 57 (by omega) (by omega) ⟨by decide, by decide⟩
    have e58 : M1 58 = M 58 := a7 58 (by omega) (by omega) ⟨by decide, by decide⟩
    have e59 : M1 59 = M 59 := a7 59 (by omega) (by omega) ⟨by decide, by decide⟩
    have f0 : M2 0 = ku (M 0) 15 0 := by rw [m2 0 (by decide) (by decide) (by decide)]; exact a9
    have f23 : M2 23 = ku (M 23) m (a : Int) := by rw [m2 23 (by decide) (by decide) (by decide)]; exact a8
    have f57 := fs 57 (by omega) (by omega)
    have f5 : ∀ j, j ≠ 0 → M2 55 j = M 55 j := fun j p => by rw [b3, z_up_nk p, z_up_ne (by decide), z_mup_ne (by decide), e55]
    have f58 : M2 58 = zblk (M 58) (M 57) (5687 * m) 5687 := by rw [b3, z_up_ne (by decide), z_up_ne (by decide), z_mup_eq, e58, e57]
    have f59m : M2 59 m = 1 := by rw [b3, z_up_ne (by decide), z_up_eq]
    have f59 : ∀ j, j ≠ m → M2 59 j = M 59 j := fun j p => by rw [b3, z_up_ne (by decide), z_up_nk p, z_mup_ne (by decide), e59]
    have kkm : ∀ i, i < 5687 → kI M2 m i = M 57 i := fun i hi => by show M2 58 _ = _; rw [f58]; exact zblk_in hi
    have kko : ∀ j, j < 2 → j ≠ m → ∀ i, i < 5687 → kI M2 j i = kI M j i := fun j hj p i hi => by show M2 58 _ = M 58 _; rw [f58]; exact zblk_out (by omega)
    have hK : obK S sz S' sz' M M2 a := ⟨q3, q4, q2, fun i p1 p2 p3 => f i p2 p3 (by omega) (by omega) (by omega) (by omega) (by omega)⟩
    have m211 : ∀ t, t < 6 → M2 (a + 10) t = M 11 t := fun t ht => by rw [m2 (a + 10) (by omega) (by omega) (by omega)]; exact a6 t ht
    have hIm : IM S' sz' M2 M2 m := by
      refine .inr ⟨f59m, a, by rw [f23, ku_eq], q1, q6, lwT_fr g9 q3 q4 m211, ?_, KI_congr g3 (fun i hi => kkm i (by omega)), LA_fr (by have := g3.1; omega) g8 (obK_T hK) m211 (kkm 78 (by omega)) (fun i _ _ _ hi => kkm i (by omega))⟩
      exact SR_congr (SR_frame (a5 _ g2) (fun i p q => m2 i (by omega) (by omega) (by omega))) (fun i hi => kkm i (by omega))
    have hIo : ∀ j, j < 2 → j ≠ m → IM S sz M M j → IM S' sz' M2 M2 j := fun j hj p hi => IM_fr hK hi (q7 j hj p) (by rw [f23, ku_ne p]) (f59 j p) (kko j hj p)
    refine ⟨q5, ?_, by rw [f57]; exact g3, ?_, ?_, ?_, ?_, ?_, ?_, ⟨?_, ?_, ?_, ?_⟩, ?_⟩
    · rw [f57]; exact SR_frame g2 (fun i p q => fs i (by omega) (by omega))
    · intro i hi; rw [fs 54 (by omega) (by omega), fs 56 (by omega) (by omega)]; have := g4 i hi; omega
    · refine ⟨?_, ?_, ?_, ?_⟩
      · rw [f0, ku_ne (by decide), f5 14 (by decide)]; exact g5.1
      · rw [f0, ku_ne (by decide), f5 6 (by decide)]; exact g5.2.1
      · rw [f0, ku_ne (by decide), f5 35 (by decide)]; exact g5.2.2.1
      · rw [f0, ku_eq, b3, z_up_eq]
    · unfold TPI tbI wdI; rw [fs 30 (by omega) (by omega), fs 31 (by omega) (by omega), f5 13 (by decide), fs 62 (by omega) (by omega), fs 61 (by omega) (by omega)]; exact g6
    · exact LGI_fr g7 (fs 24 (by omega) (by omega)) (fs 25 (by omega) (by omega)) (fs 26 (by omega) (by omega)) (fs 69 (by omega) (by omega)) (f5 32 (by decide)) (fun e he => by rw [f57]; exact he)
    · rw [f57]; exact LA_fr (by have := g3.1; omega) g8 (obK_T hK) (fun t _ => by rw [fs 11 (by omega) (by omega)]) rfl (fun _ _ _ _ _ => rfl)
    · exact lwT_fr g9 q3 q4 (fun t _ => by rw [fs 11 (by omega) (by omega)])
    · by_cases e : m = 0
      · rw [← e]; exact hIm
      · exact hIo 0 (by omega) (by omega) w1
    · by_cases e : m = 1
      · rw [← e]; exact hIm
      · exact hIo 1 (by omega) (by omega) w2
    · exact LT_fr hK w3 q8 (by rw [f0, ku_ne (by decide)]) (f5 43 (by decide)) (f5 44 (by decide)) (fun j _ => by rw [fs 74 (by omega) (by omega)])
    · have e03 : M2 0 3 = M 0 3 := by rw [f0, ku_ne (by decide)]
      unfold DS
      rw [e03]
      refine ⟨fun e => ?_, fun j hj e => ?_⟩
      · exfalso
        have : m = 0 ∨ m = 1 := by omega
        rcases this with rfl | rfl
        · rw [f23, ku_eq, ku_ne (by decide)] at e
          exact q7 1 (by omega) (by omega) e.symm
        · rw [f23, ku_eq, ku_ne (by decide)] at e
          exact q7 0 (by omega) (by omega) e
      · by_cases p : j = m
        · rw [p, f23, ku_eq] at e; exact absurd e.symm q8
        · rw [f23, ku_ne p] at e; exact w4.2 j hj e
    · exact XTI_fr g11 (by unfold v42; rw [fs 42 (by omega) (by omega)]; exact g11.1) (fs 48 (by omega) (by omega)) (fs 52 (by omega) (by omega)) (fs 50 (by omega) (by omega)) (fs 72 (by omega) (by omega))
theorem iv_back {c : Int} {S : zSh} {sz : Nat} {M M1 M2 : zMem} {x r r2 : Int} (h : IV c S sz M)
    (h1 : (¬ (0 ≤ x ∧ x < 2) ∧ r = -1 ∧ M1 = cRef M (-1)) ∨ ((0 ≤ x ∧ x < 2) ∧ M 23 x.toNat = -1 ∧ r = -2 ∧ M1 = cRef M (-2)) ∨ ((0 ≤ x ∧ x < 2) ∧ r = 0 ∧ ∃ a : Nat, M 23 x.toNat = (a : Int) ∧ (∀ k, SR M a k → SR M1 1 k) ∧ (∀ t, t < 6 → M1 11 t = M (a + 10) t) ∧ (∀ i, ¬ (1 ≤ i ∧ i < 12) → i ≠ 0 → i ≠ 24 → M1 i = M i) ∧ M1 0 = ku (M 0) 15 0 ∧ M1 24 = ku (M 24) 3 0))
    (h2 : (¬ (0 ≤ x ∧ x ≤ 1) ∧ r2 = -1 ∧ M2 = zRef M1 (-1)) ∨ ((0 ≤ x ∧ x ≤ 1) ∧ M1 59 x.toNat = 0 ∧ r2 = -2 ∧ M2 = zRef M1 (-2)) ∨ ((0 ≤ x ∧ x ≤ 1) ∧ M1 59 x.toNat = 1 ∧ r2 = 0 ∧ M2 = zSet M1 (zblk (M1 57) (fun i => M1 58 (5687 * x.toNat + i)) 0 5687))) : r = r2 ∧ IV (c + 1) S sz M2 := by
  have hh := h
  obtain ⟨g1, g2, g3, g4, g5, g6, g7, g8, g9, g10, g11⟩ := h
  have hz75 := g1.1
  have hIM : (0 ≤ x ∧ x < 2) → IM S sz M M x.toNat := fun hx => by
    have : x = 0 ∨ x = 1 := by omega
    rcases this with rfl | rfl
    · exact g10.1
    · exact g10.2.1
  rcases h1 with ⟨a1, a2, a3⟩ | ⟨a1, a2, a3, a4⟩ | ⟨a1, a2, a, a3, a4, a5, a6, a7, a8⟩
  · rcases h2 with ⟨-, b2, b3⟩ | ⟨b1, -⟩ | ⟨b1, -⟩
    · refine ⟨by omega, iv_ref hh (x := -1) (by decide) ?_⟩
      rw [b3, a3]; exact rfR_0
    · exfalso; omega
    · exfalso; omega
  · have e59 : M1 59 = M 59 := by rw [a4]; unfold cRef; rw [z_up_ne (by decide), z_up_ne (by decide)]
    have h0 : M 59 x.toNat = 0 := by
      rcases hIM a1 with ⟨p, -⟩ | ⟨-, b, p, q, -⟩
      · exact p
      · exfalso; omega
    rw [e59] at h2
    rcases h2 with ⟨b1, -⟩ | ⟨-, -, b2, b3⟩ | ⟨-, b1, -⟩
    · exfalso; omega
    · refine ⟨by omega, iv_ref hh (x := -2) (by decide) ?_⟩
      rw [b3, a4]; exact rfR_0
    · exfalso; omega
  · have eM : ∀ i, 12 ≤ i → i ≠ 24 → M1 i = M i := fun i p q => a6 i (by omega) (by omega) q
    rw [eM 57 (by decide) (by decide), eM 58 (by decide) (by decide), eM 59 (by decide) (by decide)] at h2
    rcases hIM a1 with ⟨-, p⟩ | ⟨p59, a', p1, p2, p3, p4, p5, p6, p7⟩
    · exfalso; omega
    have haa : a' = a := by omega
    subst haa
    rcases h2 with ⟨b1, -⟩ | ⟨-, b1, -⟩ | ⟨-, -, b2, b3⟩
    · exfalso; omega
    · exfalso; omega
    refine ⟨by omega, ?_⟩
    obtain ⟨k', hk'⟩ : ∃ k', k' = zblk (M 57) (fun i => M 58 (5687 * x.toNat + i)) 0 5687 := ⟨_, rfl⟩
    rw [← hk'] at b3
    unfold zSet at b3
    have kk : ∀ i, i < 5687 → k' i = kI M x.toNat i := fun i hi => by
      have e := zblk_in (g := M 57) (f := fun i => M 58 (5687 * x.toNat + i)) (B := 0) hi
      rw [Nat.zero_add] at e
      rw [hk', e]; rfl
    have m2 : ∀ i, i ≠ 55 → i ≠ 57 → M2 i = M1 i := fun i p q => by rw [b3, z_up_ne p, z_up_ne p, z_mup_ne q]
    have ff : ∀ i, (12 ≤ i ∧ i ≠ 24 ∧ i ≠ 55 ∧ i ≠ 57) → M2 i = M i := fun i q => by rw [m2 i q.2.2.1 q.2.2.2]; exact eM i q.1 q.2.1
    have f5 : ∀ j, j ≠ 0 → j ≠ 32 → M2 55 j = M 55 j := fun j p q => by rw [b3, z_up_nk p, z_up_nk q, z_mup_ne (by decide), eM 55 (by decide) (by decide)]
    have f0 : M2 0 = ku (M 0) 15 0 := by rw [m2 0 (by decide) (by decide)]; exact a7
    have f24 : M2 24 = ku (M 24) 3 0 := by rw [m2 24 (by decide) (by decide)]; exact a8
    have f57 : M2 57 = k' := by rw [b3, z_up_ne (by decide), z_up_ne (by decide), z_mup_eq]
    have f11 : ∀ t, t < 6 → M2 (1 + 10) t = M (a' + 10) t := fun t ht => by show M2 11 t = _; rw [m2 11 (by decide) (by decide)]; exact a5 t ht
    refine ⟨g1, ?_, by rw [f57]; exact KI_congr p6 (fun i hi => kk i (by omega)), ?_, ⟨?_, ?_, ?_, ?_⟩, ?_, ?_, ?_, ?_, ?_, ?_⟩
    · rw [f57]
      exact SR_congr (SR_frame (a4 _ p5) (fun i p q => m2 i (by omega) (by omega))) (fun i hi => kk i (by omega))
    · intro i hi; rw [ff 54 (by omega), ff 56 (by omega)]; have := g4 i hi; omega
    · rw [f0, ku_ne (by decide), f5 14 (by decide) (by decide)]; exact g5.1
    · rw [f0, ku_ne (by decide), f5 6 (by decide) (by decide)]; exact g5.2.1
    · rw [f0, ku_ne (by decide), f5 35 (by decide) (by decide)]; exact g5.2.2.1
    · rw [f0, ku_eq, b3, z_up_eq]
    · unfold TPI tbI wdI; rw [ff 30 (by omega), ff 31 (by omega), f5 13 (by decide) (by decide), ff 62 (by omega), ff 61 (by omega)]; exact g6
    · exact LGI_clr g7 (by rw [f24, ku_eq]) (by rw [f24, ku_ne (by decide)]) (by rw [b3, z_up_nk (by decide), z_up_eq])
    · rw [f57]; exact LA_fr (by have := p6.1; omega) p7 (tK_refl (fun i hi => ff i (by omega))) f11 (kk 78 (by omega)) (fun i _ _ _ hi => kk i (by omega))
    · exact lwT_fr p4 (Nat.le_refl _) (fun _ _ => rfl) f11
    · exact OBI_0 g10 ⟨fun i hi => ff i (by omega), ff 23 (by omega), by rw [f0, ku_ne (by decide)], ff 58 (by omega), ff 59 (by omega), ff 74 (by omega), f5 43 (by decide) (by decide), f5 44 (by decide) (by decide)⟩
    · exact XTI_fr g11 (by unfold v42; rw [ff 42 (by omega)]; exact g11.1) (ff 48 (by omega)) (ff 52 (by omega)) (ff 50 (by omega)) (ff 72 (by omega))
