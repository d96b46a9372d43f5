/-! THE LAW'S LOOP: law, as a step -/
theorem txS_lt {S : zSh} {sz nh nc i : Nat} {v : Nat × Nat × (Nat → Int)} (h : i < sz) : txS (z_sup S sz v) sz nh nc i = S i := txS_at (.inl h) (z_sup_at (by omega) rfl)
theorem shS_lt {S : zSh} {sz i : Nat} {v : Nat × Nat × (Nat → Int)} (h : i < sz) : shS (z_sup S sz v) sz i = S i := shS_at (.inl h) (z_sup_at (by omega) rfl)
theorem TX_txS {S : zSh} {sz nh nc : Nat} : TX (txS S sz nh nc) (sz + 3) sz nh nc := by
  unfold txS
  refine ⟨Nat.le_refl _, ?_, ?_, ?_⟩
  · rw [z_sup_ne (by omega), z_sup_ne (by omega)]; exact z_sup_eq
  · rw [z_sup_ne (by omega)]; exact z_sup_eq
  · exact z_sup_eq
theorem iv_law {c : Int} {S S' : zSh} {sz sz' n : Nat} {M M1 M2 : zMem} {v : Option zV} {r2 : Int} {cf vf pf pf' : Nat → Int} {R : Nat ⊕ (gS × List gC)} (h : IV c S sz M) (hTK : TK cf vf n) (hq : g_text false cf vf n 12 (gz (M 38)) [] = R) (hpf : ∀ t, t ≤ n → pf' t = pf t)
    (h1 : (M 57 78 = 6 ∧ v = some (zi (-5)) ∧ sz' = sz ∧ S' = S ∧ M1 = cRef (z_up M 30 1 0) (-5)) ∨ (M 57 78 < 6 ∧ (∃ t, R = .inl t ∧ v = some (zi (-6)) ∧ sz' = sz ∧ S' = S ∧ ∃ N : zMem, (∀ i, i ≠ 30 → ¬ (32 ≤ i ∧ i ≤ 38) → N i = M i) ∧ N 30 = ku (M 30) 1 0 ∧ M1 = cRef (z_up N 0 12 (pf' t)) (-6))) ∨ (M 57 78 < 6 ∧ ∃ (s9 : gS) (L : List gC), R = .inr (s9, L) ∧ v = some (zi (M 57 78)) ∧ sz' = sz + 3 ∧ S' = txS (z_sup S sz (9, 4, fun _ => -1)) sz (5 * L.length) s9.2.2.1 ∧ (∀ i, i < sz → i ≠ 0 → i ≠ 1 → i ≠ 11 → i ≠ 30 → ¬ (32 ≤ i ∧ i ≤ 38) → M1 i = M i) ∧ M1 30 = ku (M 30) 1 0 ∧ M1 0 = ku (ku (M 0) 12 (-1)) 15 0 ∧ M1 11 = ku (M 11) (M 57 78).toNat (sz : Int) ∧ SR M1 1 (ku (M 57) 78 (M 57 78 + 1)) ∧ TXM M1 sz (5 * L.length) s9.2.2.1 false L))
    (h2 : (M1 57 78 = 6 ∧ r2 = -5 ∧ M2 = zRef (z_up M1 55 13 0) (-5)) ∨ (M1 57 78 < 6 ∧ ∃ (t : Nat) (x y : Int), R = .inl t ∧ r2 = -6 ∧ M2 = zRef (lwN M1 false (n : Int) cf vf pf (pf t) x y) (-6)) ∨ (M1 57 78 < 6 ∧ ∃ (q : gS × List gC) (x y : Int), R = .inr q ∧ r2 = M1 57 78 ∧ M2 = z_up (z_mup (lwN M1 false (n : Int) cf vf pf (-1) x y) 57 (kLaw (M1 57) cf vf n)) 55 0 0)) : v = some (zi r2) ∧ IV (c + 1) S' sz' M2 := by
  have hh := h
  obtain ⟨g1, g2, g3, g4, g5, g6, g7, g8, g9, g10, g11⟩ := h
  have i1 := g3.1
  have hn := hTK.1
  have hz75 := g1.1
  rcases h1 with ⟨a1, a2, a3, a4, a5⟩ | ⟨a1, t, a2, a3, a4, a5, N, a6, a7, a8⟩ | ⟨a1, s9, L, a2, a3, a4, a5, a6, a7, a8, a9, a10, a11⟩
  · subst a3; subst a4
    have e57 : M1 57 = M 57 := by rw [a5]; unfold cRef; rw [z_up_ne (by decide), z_up_ne (by decide), z_up_ne (by decide)]
    rw [e57] at h2
    rcases h2 with ⟨-, b2, b3⟩ | ⟨b1, -⟩ | ⟨b1, -⟩
    · refine ⟨by rw [a2, b2], ?_⟩
      have e : ∀ i, i ≠ 0 → i ≠ 30 → i ≠ 54 → i ≠ 55 → i ≠ 56 → M2 i = M i := fun i p1 p2 p3 p4 p5 => by
        rw [b3]; unfold zRef; rw [z_up_ne p5, z_up_ne p4, z_up_ne p4, a5]; unfold cRef; rw [z_up_ne p3, z_up_ne p1, z_up_ne p2]
      have e55 : ∀ j, j ≠ 0 → j ≠ 13 → M2 55 j = M 55 j := fun j p q => by
        rw [b3]; unfold zRef; rw [z_up_ne (by decide), z_up_nk p, z_up_nk q, a5]; unfold cRef; rw [z_up_ne (by decide), z_up_ne (by decide), z_up_ne (by decide)]
      have e0 : ∀ j, j ≠ 15 → M2 0 j = M 0 j := fun j p => by
        rw [b3]; unfold zRef; rw [z_up_ne (by decide), z_up_ne (by decide), z_up_ne (by decide), a5]; unfold cRef; rw [z_up_ne (by decide), z_up_nk p, z_up_ne (by decide)]
      refine iv_bad hh (x := -5) (by decide) (fun i hi => e i (by omega) (by omega) (by omega) (by omega) (by omega)) ?_ ?_ (e0 3 (by decide)) ⟨?_, ?_, ?_, ?_⟩ ?_ ?_ (fun j hj => e55 j (by omega) (by omega))
      · rw [b3]; unfold zRef; rw [z_up_ne (by decide), z_up_ne (by decide), z_up_ne (by decide), a5]; unfold cRef; funext j; simp [z_up, ku]
      · rw [b3]; unfold zRef; rw [a5]; unfold cRef; funext j; simp [z_up, ku]
      · rw [e0 12 (by decide), e55 14 (by decide) (by decide)]; exact g5.1
      · rw [e0 13 (by decide), e55 6 (by decide) (by decide)]; exact g5.2.1
      · rw [e0 14 (by decide), e55 35 (by decide) (by decide)]; exact g5.2.2.1
      · rw [b3]; unfold zRef; rw [a5]; unfold cRef; simp [z_up]
      · rw [b3]; unfold zRef; rw [a5]; unfold cRef; simp [z_up]
      · rw [b3]; unfold zRef; rw [a5]; unfold cRef; simp [z_up]
    · exfalso; omega
    · exfalso; omega
  · subst a4; subst a5
    have e57 : M1 57 = M 57 := by rw [a8]; unfold cRef; rw [z_up_ne (by decide), z_up_ne (by decide), z_up_ne (by decide)]; exact a6 57 (by decide) (by omega)
    have e55 : M1 55 = M 55 := by rw [a8]; unfold cRef; rw [z_up_ne (by decide), z_up_ne (by decide), z_up_ne (by decide)]; exact a6 55 (by decide) (by omega)
    rw [e57] at h2
    have htn : t ≤ n := (g_text_ok hTK 12 (gz (M 38)) [] gz_A rfl (fun x hx => by cases hx)).1 t (hq.trans a2)
    rcases h2 with ⟨b1, -⟩ | ⟨-, t2, x, y, b2, b3, b4⟩ | ⟨-, q, x, y, b2, -⟩
    · exfalso; omega
    · rw [a2] at b2; cases b2
      refine ⟨by rw [a3, b3], ?_⟩
      have e : ∀ i, i ≠ 0 → i ≠ 30 → ¬ (32 ≤ i ∧ i ≤ 38) → i ≠ 54 → i ≠ 55 → i ≠ 56 → i ≠ 64 → i ≠ 65 → i ≠ 66 → M2 i = M i := fun i p1 p2 p9 p3 p4 p5 p6 p7 p8 => by
        rw [b4]; unfold zRef; rw [z_up_ne p5, z_up_ne p4, lwN_ne p4 p6 p7 p8, a8]; unfold cRef; rw [z_up_ne p3, z_up_ne p1, z_up_ne p1]; exact a6 i p2 p9
      have eL : ∀ j, (j ≠ 8 ∧ j ≠ 9 ∧ j ≠ 10 ∧ j ≠ 13 ∧ j ≠ 14 ∧ j ≠ 18 ∧ j ≠ 19 ∧ j ≠ 20 ∧ j ≠ 21) → j ≠ 0 → M2 55 j = M 55 j := fun j p q => by
        rw [b4]; unfold zRef; rw [z_up_ne (by decide), z_up_nk q, lwN_o p, e55]
      have e0 : ∀ j, j ≠ 15 → j ≠ 12 → M2 0 j = M 0 j := fun j p q => by
        rw [b4]; unfold zRef; rw [z_up_ne (by decide), z_up_ne (by decide), lwN_ne (by decide) (by decide) (by decide) (by decide), a8]; unfold cRef; rw [z_up_ne (by decide), z_up_nk p, z_up_nk q, a6 0 (by decide) (by omega)]
      refine iv_bad hh (x := -6) (by decide) (fun i hi => e i (by omega) (by omega) (by omega) (by omega) (by omega) (by omega) (by omega) (by omega) (by omega)) ?_ ?_ (e0 3 (by decide) (by decide)) ⟨?_, ?_, ?_, ?_⟩ ?_ ?_ (fun j hj => eL j (by omega) (by omega))
      · rw [b4]; unfold zRef; rw [z_up_ne (by decide), z_up_ne (by decide), lwN_ne (by decide) (by decide) (by decide) (by decide), a8]; unfold cRef
        rw [← a6 54 (by decide) (by omega)]; funext j; simp [z_up, ku]
      · have e56 : lwN M1 false (n : Int) cf vf pf (pf t) x y 56 = M 56 := by rw [lwN_ne (by decide) (by decide) (by decide) (by decide), a8]; unfold cRef; rw [z_up_ne (by decide), z_up_ne (by decide), z_up_ne (by decide), a6 56 (by decide) (by omega)]
        rw [b4]; unfold zRef; rw [e56]; funext j
        by_cases hj : j = (-(-6 : Int)).toNat
        · rw [hj, z_up_eq, ku_eq]
        · rw [z_up_nk hj, z_up_ne (by decide), ku_ne hj, e56]
      · rw [b4]; unfold zRef; rw [z_up_ne (by decide), z_up_ne (by decide), z_up_ne (by decide), z_up_nk (by decide), lwN_14, lwN_ne (by decide) (by decide) (by decide) (by decide), a8]; unfold cRef; rw [z_up_ne (by decide), z_up_nk (by decide), z_up_eq]; exact hpf t htn
      · rw [e0 13 (by decide) (by decide), eL 6 (by omega) (by decide)]; exact g5.2.1
      · rw [e0 14 (by decide) (by decide), eL 35 (by omega) (by decide)]; exact g5.2.2.1
      · rw [b4]; unfold zRef; rw [z_up_ne (by decide), z_up_ne (by decide), z_up_ne (by decide), z_up_eq, lwN_ne (by decide) (by decide) (by decide) (by decide), a8]; unfold cRef; rw [z_up_ne (by decide), z_up_eq]
      · rw [b4]; unfold zRef; rw [z_up_ne (by decide), z_up_ne (by decide), lwN_ne (by decide) (by decide) (by decide) (by decide), a8]; unfold cRef; rw [z_up_ne (by decide), z_up_ne (by decide), z_up_ne (by decide), a7, ku_eq]
      · rw [b4]; unfold zRef; rw [z_up_ne (by decide), z_up_nk (by decide), lwN_13]
    · rw [a2] at b2; cases b2
  · have eM : ∀ i, 39 ≤ i → i < 75 → M1 i = M i := fun i p q => a6 i (by omega) (by omega) (by omega) (by omega) (by omega) (by omega)
    have e57 := eM 57 (by decide) (by decide)
    have e55 := eM 55 (by decide) (by decide)
    rw [e57] at h2
    rcases h2 with ⟨b1, -⟩ | ⟨-, t2, x, y, b2, -⟩ | ⟨-, q, x, y, b2, b3, b4⟩
    · exfalso; omega
    · rw [a2] at b2; cases b2
    rw [a2] at b2; cases b2
    subst a4
    refine ⟨by rw [a3, b3], ?_⟩
    have eS : ∀ i, i < sz → S' i = S i := fun i hi => by rw [a5]; exact txS_lt hi
    have e2 : ∀ i, i ≠ 55 → i ≠ 57 → i ≠ 64 → i ≠ 65 → i ≠ 66 → M2 i = M1 i := fun i p1 p2 p3 p4 p5 => by rw [b4, z_up_ne p1, z_mup_ne p2, lwN_ne p1 p3 p4 p5]
    have ef : ∀ i, i < sz → (2 ≤ i ∧ i ≤ 10) ∨ (12 ≤ i ∧ i ≤ 29) ∨ i = 31 ∨ (39 ≤ i ∧ i ≤ 54) ∨ i = 56 ∨ (58 ≤ i ∧ i ≤ 63) ∨ 67 ≤ i → M2 i = M i := fun i hz hi => by
      rw [e2 i (by omega) (by omega) (by omega) (by omega) (by omega)]; exact a6 i hz (by omega) (by omega) (by omega) (by omega) (by omega)
    have e257 : M2 57 = kLaw (M 57) cf vf n := by rw [b4, z_up_ne (by decide), z_mup_eq]
    have e20 : M2 0 = ku (ku (M 0) 12 (-1)) 15 0 := by rw [e2 0 (by decide) (by decide) (by decide) (by decide) (by decide)]; exact a8
    have e211 : M2 11 = ku (M 11) (M 57 78).toNat (sz : Int) := by rw [e2 11 (by decide) (by decide) (by decide) (by decide) (by decide)]; exact a9
    have e255 : ∀ j, (j ≠ 8 ∧ j ≠ 9 ∧ j ≠ 10 ∧ j ≠ 13 ∧ j ≠ 14 ∧ j ≠ 18 ∧ j ≠ 19 ∧ j ≠ 20 ∧ j ≠ 21) → j ≠ 0 → M2 55 j = M 55 j := fun j p q => by
      rw [b4, z_up_nk q, z_mup_ne (by decide), lwN_o p, e55]
    have hK : obK S sz S' (sz + 3) M M2 sz := ⟨by omega, eS, .inr rfl, fun i p q _ => ef i q (by omega)⟩
    have hX : TX S' (sz + 3) sz (5 * L.length) s9.2.2.1 := by rw [a5]; exact TX_txS
    have hXM : TXM M2 sz (5 * L.length) s9.2.2.1 false L := TXM_frame a11 (e2 _ (by omega) (by omega) (by omega) (by omega) (by omega)) (e2 _ (by omega) (by omega) (by omega) (by omega) (by omega)) (e2 _ (by omega) (by omega) (by omega) (by omega) (by omega))
    have hl := OBI_lt g10
    have n0 := hl.1 0 (by omega)
    have n1 := hl.1 1 (by omega)
    have n2 := hl.2.1
    obtain ⟨w1, w2, w3, w4⟩ := g10
    have kk : ∀ j, kI M2 j = kI M j := fun j => by funext i; show M2 58 _ = M 58 _; rw [ef 58 (by omega) (by omega)]
    refine ⟨by rw [a5]; exact LY_tx g1, ?_, by rw [e257]; exact KI_kLaw g3 a1 hn, ?_, ?_, ?_, ?_, ?_, ?_, ?_, ?_⟩
    · rw [e257]
      refine SR_congr (SR_frame a10 (fun i p q => e2 i (by omega) (by omega) (by omega) (by omega) (by omega))) (fun i hi => ?_)
      by_cases h8 : i = 78
      · rw [h8, kLaw_78, ku_eq]
      · rw [kLaw_lo hi h8, ku_ne h8]
    · intro i hi; rw [ef 54 (by omega) (by omega), ef 56 (by omega) (by omega)]; have := g4 i hi; omega
    · refine ⟨?_, ?_, ?_, ?_⟩
      · rw [e20, ku_ne (by decide), ku_eq, b4, z_up_nk (by decide), z_mup_ne (by decide), lwN_14]
      · rw [e20, ku_ne (by decide), ku_ne (by decide), e255 6 (by omega) (by decide)]; exact g5.2.1
      · rw [e20, ku_ne (by decide), ku_ne (by decide), e255 35 (by omega) (by decide)]; exact g5.2.2.1
      · rw [e20, ku_eq, b4, z_up_eq]
    · obtain ⟨t1, t2, t3, t4, t5⟩ := g6
      have e13 : M2 55 13 = 0 := by rw [b4, z_up_nk (by decide), z_mup_ne (by decide), lwN_13]
      refine ⟨?_, by rw [e13]; omega, ?_, ?_, ?_⟩
      · rw [e13, e2 30 (by decide) (by decide) (by decide) (by decide) (by decide), a7, ku_eq]
      · rw [ef 31 (by omega) (by omega), ef 62 (by omega) (by omega)]; exact t3
      · unfold tbI; rw [ef 62 (by omega) (by omega)]; exact t4
      · unfold wdI; rw [ef 61 (by omega) (by omega)]; exact t5
    · refine LGI_fr g7 (ef 24 (by omega) (by omega)) (ef 25 (by omega) (by omega)) (ef 26 (by omega) (by omega)) (ef 69 (by omega) (by omega)) (e255 32 (by omega) (by decide)) (fun e he => ?_)
      rw [e257, kMoved_law]
      exact KI_kLaw he (by rw [kMoved_at (by decide)]; exact a1) hn
    · intro t ht
      rw [e257, kLaw_78] at ht
      rw [e257]
      by_cases et : t = (M 57 78).toNat
      · rw [et]
        exact ⟨L, sz, 5 * L.length, s9.2.2.1, kLaw_new (by omega) a1 hTK (hq.trans a2), by show M2 11 _ = _; rw [e211, ku_eq], hz75, hX, hXM⟩
      · obtain ⟨L1, T1, nh, nc, p1, p2, p3, p4, p5⟩ := g8 t (by omega)
        obtain ⟨q1, q2, q3, q4⟩ := obK_T hK T1 nh nc p3 p4
        exact ⟨L1, T1, nh, nc, kLaw_old (by omega) hn (by omega) a1 p1, by show M2 11 _ = _; rw [e211, ku_ne et]; exact p2, p3, q1, TXM_frame p5 q2 q3 q4⟩
    · intro t ht
      show M2 11 t = -1 ∨ ∃ (r n2 : Nat) (f2 : Nat → Int), M2 11 t = (r : Int) ∧ r < sz + 3 ∧ S' r = (9, n2, f2)
      rw [e211]
      by_cases et : t = (M 57 78).toNat
      · rw [et, ku_eq]; exact .inr ⟨sz, 4, _, rfl, by omega, hX.2.1⟩
      · rw [ku_ne et]
        rcases g9 t ht with p | ⟨r, n2, f2, p1, p2, p3⟩
        · exact .inl p
        · exact .inr ⟨r, n2, f2, p1, by omega, by rw [eS r p2]; exact p3⟩
    · have e23 := ef 23 (by omega) (by omega)
      have e03 : M2 0 3 = M 0 3 := by rw [e20, ku_ne (by decide), ku_ne (by decide)]
      refine ⟨IM_fr hK w1 (by omega) (by rw [e23]) (by rw [ef 59 (by omega) (by omega)]) (fun i _ => by rw [kk 0]), IM_fr hK w2 (by omega) (by rw [e23]) (by rw [ef 59 (by omega) (by omega)]) (fun i _ => by rw [kk 1]), LT_fr hK w3 (by omega) e03 (e255 43 (by omega) (by decide)) (e255 44 (by omega) (by decide)) (fun j _ => by rw [ef 74 (by omega) (by omega)]), ?_⟩
      unfold DS; rw [e23, e03]; exact w4
    · exact XTI_fr g11 (by unfold v42; rw [ef 42 (by omega) (by omega)]; exact g11.1) (ef 48 (by omega) (by omega)) (ef 52 (by omega) (by omega)) (ef 50 (by omega) (by omega)) (ef 72 (by omega) (by omega))
