/-! THE LAW'S LOOP: the acts -/
def refA (Lw : List gC) (M : zMem) (K x y r : Int) (M1 : zMem) : Prop := r = (zactF Lw (M 57) K x y).1 ∧ (r < 0 → M1 = M) ∧ (0 ≤ r → obF M M1 ∧ M1 57 = (zactF Lw (M 57) K x y).2 ∧ M1 69 = zKeep (M 69) (M 57) (M 55 32).toNat (K - 16) ∧ M1 55 32 = min (M 55 32 + 1) 16)
theorem refA_no {Lw : List gC} {M M1 : zMem} {K x y r : Int} (hK : 16 ≤ K ∧ K ≤ 19) (hA : actR Lw (M 57) K x y r (M 57)) (hr : r < 0) (hM : M1 = M) : refA Lw M K x y r M1 := by
  have h := actR_F hK hA
  exact ⟨by rw [h], fun _ => hM, fun h => by omega⟩
theorem refA_yes {Lw : List gC} {M M1 : zMem} {K x y r : Int} {k' : Nat → Int} (hK : 16 ≤ K ∧ K ≤ 19) (hA : actR Lw (M 57) K x y r k') (hr : 0 ≤ r) (hF : obF M M1) (h57 : M1 57 = k') (h69 : M1 69 = zKeep (M 69) (M 57) (M 55 32).toNat (K - 16)) (h32 : M1 55 32 = min (M 55 32 + 1) 16) : refA Lw M K x y r M1 := by
  have h := actR_F hK hA
  exact ⟨by rw [h], fun h => by omega, fun _ => ⟨hF, by rw [h]; exact h57, h69, h32⟩⟩
theorem refA_sell {Lw : List gC} {M M1 : zMem} {x r : Int} (hi : KI (M 57)) (h : p_sells M x r M1) : refA Lw M 17 x 0 r M1 := by
  rcases h with ⟨h1, h2, h3⟩ | ⟨h1, h2, h3, h4⟩ | ⟨h1, h2, h3, h4⟩
  · exact refA_no (by decide) ⟨fun e => absurd e (by decide), fun _ => .inl ⟨h1, h2, rfl⟩, fun e => absurd e (by decide), fun e => absurd e (by decide)⟩ (by omega) h3
  · exact refA_no (by decide) ⟨fun e => absurd e (by decide), fun _ => .inr (.inl ⟨h1, h2, h3, rfl⟩), fun e => absurd e (by decide), fun e => absurd e (by decide)⟩ (by omega) h4
  · have hb := (kSell_KI hi h1 h2).1
    obtain ⟨y1, y2, y3, y4, y5⟩ := zKp_ob (M := M) (x := 1) (k' := kSell (M 57) x)
    rw [← h4] at y1 y2 y3 y4
    exact refA_yes (by decide) ⟨fun e => absurd e (by decide), fun _ => .inr (.inr ⟨h1, h2, h3, rfl⟩), fun e => absurd e (by decide), fun e => absurd e (by decide)⟩ (by omega) y1 y2 y3 y4
theorem refA_adv {Lw : List gC} {M M1 : zMem} {x y r : Int} (hi : KI (M 57)) (h : p_advances M x y r M1) : refA Lw M 18 x y r M1 := by
  have i1 := hi.1
  rcases h with ⟨h1, h2, h3⟩ | ⟨h1, h0, h2, h3⟩ | ⟨h1, h0, h2, h3, h4⟩ | ⟨h1, h0, h2, h3, h4, h5⟩
  · exact refA_no (by decide) ⟨fun e => absurd e (by decide), fun e => absurd e (by decide), fun _ => .inl ⟨h1, h2, rfl⟩, fun e => absurd e (by decide)⟩ (by omega) h3
  · exact refA_no (by decide) ⟨fun e => absurd e (by decide), fun e => absurd e (by decide), fun _ => .inr (.inl ⟨h1, h0, h2, rfl⟩), fun e => absurd e (by decide)⟩ (by omega) h3
  · exact refA_no (by decide) ⟨fun e => absurd e (by decide), fun e => absurd e (by decide), fun _ => .inr (.inr (.inl ⟨h1, h0, h2, h3, rfl⟩)), fun e => absurd e (by decide)⟩ (by omega) h4
  · have hb := ((kAdv_KI (h := x.toNat) hi (by omega) ⟨h1.1, h3⟩).2.1 x.toNat (by omega)).1
    obtain ⟨y1, y2, y3, y4, y5⟩ := zKp_ob (M := M) (x := 2) (k' := kAdv (M 57) x.toNat y)
    rw [← h5] at y1 y2 y3 y4
    exact refA_yes (by decide) ⟨fun e => absurd e (by decide), fun e => absurd e (by decide), fun _ => .inr (.inr (.inr ⟨h1, h0, h2, h3, h4, rfl⟩)), fun e => absurd e (by decide)⟩ (by omega) y1 y2 y3 y4
theorem refA_leave {Lw : List gC} {M M1 : zMem} {x r : Int} (hi : KI (M 57)) (h : p_leaves M x r M1) : refA Lw M 19 x 0 r M1 := by
  have i1 := hi.1
  rcases h with ⟨h1, h2, h3⟩ | ⟨h1, h2, h3, h4⟩ | ⟨h1, h2, h3, h4⟩
  · exact refA_no (by decide) ⟨fun e => absurd e (by decide), fun e => absurd e (by decide), fun e => absurd e (by decide), fun _ => .inl ⟨h1, h2, rfl⟩⟩ (by omega) h3
  · exact refA_no (by decide) ⟨fun e => absurd e (by decide), fun e => absurd e (by decide), fun e => absurd e (by decide), fun _ => .inr (.inl ⟨h1, h2, h3, rfl⟩)⟩ (by omega) h4
  · have hb := zcrew_in (kLeave_KI (h := x.toNat) hi (by omega))
    obtain ⟨y1, y2, y3, y4, y5⟩ := zKp_ob (M := M) (x := 3) (k' := kLeave (M 57) x.toNat)
    rw [← h4] at y1 y2 y3 y4
    exact refA_yes (by decide) ⟨fun e => absurd e (by decide), fun e => absurd e (by decide), fun e => absurd e (by decide), fun _ => .inr (.inr ⟨h1, h2, h3, rfl⟩)⟩ (by omega) y1 y2 y3 y4
theorem ob_hunt2 {M M3 : zMem} {f k2 : Nat → Int} (h : mF (z_mup (z_mup (zKp M 0) 68 f) 57 k2) M3) : obF M M3 ∧ M3 57 = k2 ∧ M3 69 = zKeep (M 69) (M 57) (M 55 32).toNat 0 ∧ M3 55 32 = min (M 55 32 + 1) 16 := by
  unfold zKp at h
  refine ⟨⟨fun i a b c d e => by rw [h.1 i a c, z_mup_ne b, z_mup_ne d, z_up_ne a, z_mup_ne e], fun j a b c d e f => by rw [h.2 j a b c d, z_mup_ne (by decide), z_mup_ne (by decide), z_up_nk f, z_mup_ne (by decide)]⟩, ?_, ?_, ?_⟩
  · rw [h.1 57 (by decide) (by decide), z_mup_eq]
  · rw [h.1 69 (by decide) (by decide), z_mup_ne (by decide), z_mup_ne (by decide), z_up_ne (by decide), z_mup_eq]
  · rw [h.2 32 (by decide) (by decide) (by decide) (by decide), z_mup_ne (by decide), z_mup_ne (by decide), z_up_eq]
theorem refA_hunt {Lw : List gC} {M M1 : zMem} {x y r : Int} (hi : KI (M 57)) (h : p_hunts Lw M x y r M1) : refA Lw M 16 x y r M1 := by
  have i1 := hi.1
  rcases h with ⟨h1, h2, h3⟩ | ⟨h1, h0, h2, h3⟩ | ⟨h1, h0, h2, h3, h4⟩ | ⟨h1, h0, h2, g, hg, h3, f, h4⟩
  · exact refA_no (by decide) ⟨fun _ => .inl ⟨h1, h2, rfl⟩, fun e => absurd e (by decide), fun e => absurd e (by decide), fun e => absurd e (by decide)⟩ (by omega) h3
  · exact refA_no (by decide) ⟨fun _ => .inr (.inl ⟨h1, h0, h2, rfl⟩), fun e => absurd e (by decide), fun e => absurd e (by decide), fun e => absurd e (by decide)⟩ (by omega) h3
  · exact refA_no (by decide) ⟨fun _ => .inr (.inr (.inl ⟨h1, h0, h2, h3, rfl⟩)), fun e => absurd e (by decide), fun e => absurd e (by decide), fun e => absurd e (by decide)⟩ (by omega) h4
  · have j1 := kH1_KI (Lw := Lw) (w := y) (g := x.toNat) hi (by omega) ⟨h1.1, h2.2.2⟩ h2.2.1
    have j2 := z01_sum (zoff01 (Lw := Lw) j1)
    obtain ⟨y1, y2, y3, y4⟩ := ob_hunt2 h4
    rw [hg] at h3
    exact refA_yes (by decide) ⟨fun _ => .inr (.inr (.inr ⟨h1, h0, h2, h3, rfl⟩)), fun e => absurd e (by decide), fun e => absurd e (by decide), fun e => absurd e (by decide)⟩ (by omega) y1 y2 y3 y4
/-- what an act of the class leaves -/
def clA (Lw : List gC) (M : zMem) (l : Nat → Nat → Int) (n : Nat) (K x y r : Int) (M' : zMem) : Prop := ∃ k' M1, actR Lw (M 57) K x y r k' ∧ SR M1 1 k' ∧ KI k' ∧ (r < 0 → LR M1 24 l n) ∧ (0 ≤ r → LR M1 24 (lpush l n (M 57) (K - 16)) (min (n + 1) 16)) ∧ (∀ i, i ≠ 1 → i ≠ 1 + 2 → i ≠ 1 + 4 → i ≠ 1 + 7 → i ≠ 41 → i ≠ 42 → i ≠ 44 → i ≠ 24 → i ≠ 24 + 1 → i ≠ 24 + 2 → M1 i = M i) ∧ v42 M1 ∧ M' = cFin M1 r
theorem actR_neg {Lw : List gC} {k k' : Nat → Int} {K x y r : Int} (hi : KI k) (hK : 16 ≤ K ∧ K ≤ 19) (h : actR Lw k K x y r k') (hr : r < 0) : k' = k ∧ -6 ≤ r := by
  refine ⟨?_, (actR_in hi hK h).1.1⟩
  have i1 := hi.1
  obtain ⟨hA, hB, hC, hD⟩ := h
  have : K = 16 ∨ K = 17 ∨ K = 18 ∨ K = 19 := by omega
  rcases this with e | e | e | e
  · rcases hA e with ⟨h1, h2, h3⟩ | ⟨h1, h0, h2, h3⟩ | ⟨h1, h0, h2, h3, h4⟩ | ⟨h1, h0, h2, h3, h4⟩
    · exact h3
    · exact h3
    · exact h4
    · have j1 := kH1_KI (Lw := Lw) (w := y) (g := x.toNat) hi (by omega) ⟨h1.1, h2.2.2⟩ h2.2.1
      have j2 := z01_sum (zoff01 (Lw := Lw) j1)
      have j3 : 0 ≤ zgone (zoffI Lw (kH1 Lw k x.toNat y)) := j2.1
      exfalso; omega
  · rcases hB e with ⟨h1, h2, h3⟩ | ⟨h1, h2, h3, h4⟩ | ⟨h1, h2, h3, h4⟩
    · exact h3
    · exact h4
    · have hb := (kSell_KI hi h1 h2).1
      exfalso; omega
  · rcases hC e with ⟨h1, h2, h3⟩ | ⟨h1, h0, h2, h3⟩ | ⟨h1, h0, h2, h3, h4⟩ | ⟨h1, h0, h2, h3, h4, h5⟩
    · exact h3
    · exact h3
    · exact h4
    · have hb := ((kAdv_KI (h := x.toNat) hi (by omega) ⟨h1.1, h3⟩).2.1 x.toNat (by omega)).1
      exfalso; omega
  · rcases hD e with ⟨h1, h2, h3⟩ | ⟨h1, h2, h3, h4⟩ | ⟨h1, h2, h3, h4⟩
    · exact h3
    · exact h4
    · have hb := zcrew_in (kLeave_KI (h := x.toNat) hi (by omega))
      exfalso; omega
/-- the numbers that move are others; so is what is left to be undone -/
theorem iv_mov {c : Int} {S : zSh} {sz : Nat} {M N : zMem} (h : IV c S sz M) (f : ∀ i, (11 ≤ i ∧ i ≤ 23) ∨ (27 ≤ i ∧ i ≤ 31) ∨ i = 48 ∨ i = 50 ∨ i = 52 ∨ i = 54 ∨ i = 56 ∨ i = 58 ∨ i = 59 ∨ i = 61 ∨ i = 62 ∨ i = 72 ∨ 74 ≤ i → N i = M i) (h0 : N 0 = ku (M 0) 15 0) (h50 : N 55 0 = 0) (f5 : ∀ j, (j = 6 ∨ j = 13 ∨ j = 14 ∨ j = 35 ∨ j = 43 ∨ j = 44) → N 55 j = M 55 j) (hs : SR N 1 (N 57)) (hi : KI (N 57)) (hk : ∀ i, 23 ≤ i → N 57 i = M 57 i) (hl : LGI N N) (hv : v42 N) : IV c S sz N := by
  have hh := h
  obtain ⟨g1, g2, g3, g4, g5, g6, g7, g8, g9, g10, g11⟩ := h
  refine IV_1 hh ⟨fun i hi => f i (by omega), f 23 (by omega), by rw [h0, ku_ne (by decide)], f 58 (by omega), f 59 (by omega), f 74 (by omega), f5 43 (by omega), f5 44 (by omega)⟩ hs hi ?_ ?_ ?_ hl (fun t _ => by rw [f 11 (by omega)]) (hk 78 (by omega)) (fun i a _ _ _ => hk i (by omega)) ?_
  · intro i hi; rw [f 54 (by omega), f 56 (by omega)]; exact g4 i hi
  · unfold SCI
    rw [h0, f5 14 (by omega), f5 6 (by omega), f5 35 (by omega), h50, ku_ne (by decide), ku_ne (by decide), ku_ne (by decide), ku_eq]
    exact ⟨g5.1, g5.2.1, g5.2.2.1, rfl⟩
  · obtain ⟨t1, t2, t3, t4, t5⟩ := g6
    refine ⟨?_, ?_, ?_, ?_, ?_⟩
    · rw [f 30 (by omega), f5 13 (by omega)]; exact t1
    · rw [f5 13 (by omega)]; exact t2
    · rw [f 31 (by omega), f 62 (by omega)]; exact t3
    · unfold tbI; rw [f 62 (by omega)]; exact t4
    · unfold wdI; rw [f 61 (by omega)]; exact t5
  · exact XTI_fr g11 hv (f 48 (by omega)) (f 52 (by omega)) (f 50 (by omega)) (f 72 (by omega))
theorem iv_act {c : Int} {S : zSh} {sz : Nat} {M M1 M2 M3 : zMem} {Lw : List gC} {l : Nat → Nat → Int} {n : Nat} {K x y r r2 : Int} (h : IV c S sz M) (hK : 16 ≤ K ∧ K ≤ 19) (hlr : LR M 24 l n) (hl2 : lR (M 69) l n) (h32 : M 55 32 = (n : Int)) (hv : ∀ j, j < n → (0 ≤ l j 23 ∧ l j 23 ≤ 3) ∧ KI (kMoved (M 57) (l j))) (h1 : clA Lw M l n K x y r M1) (h2 : refA Lw M1 K x y r2 M2) (h3 : M3 = zFin M2 r2) : r = r2 ∧ IV (c + 1) S sz M3 := by
  have hh := h
  obtain ⟨g1, g2, g3, g4, g5, g6, g7, g8, g9, g10, g11⟩ := h
  obtain ⟨k', N, a1, a2, a3, a4, a5, a6, a7, a8⟩ := h1
  have hN : ∀ i, (i = 0 ∨ i = 2 ∨ i = 4 ∨ i = 6 ∨ i = 7 ∨ (9 ≤ i ∧ i ≤ 23) ∨ (27 ≤ i ∧ i ≤ 40) ∨ i = 43 ∨ 45 ≤ i) → N i = M i := fun i hi => a6 i (by omega) (by omega) (by omega) (by omega) (by omega) (by omega) (by omega) (by omega) (by omega) (by omega)
  have hC : ∀ i, i ≠ 0 → i ≠ 54 → M1 i = N i := fun i a b => by
    rw [a8]; unfold cFin cRef
    split
    · rw [z_up_ne b, z_up_ne a]
    · rw [z_up_ne a]
  have e57 : M1 57 = M 57 := by rw [hC 57 (by decide) (by decide), hN 57 (by omega)]
  have e55 : M1 55 = M 55 := by rw [hC 55 (by decide) (by decide), hN 55 (by omega)]
  have e69 : M1 69 = M 69 := by rw [hC 69 (by decide) (by decide), hN 69 (by omega)]
  obtain ⟨b1, b2, b3⟩ := h2
  rw [e57] at b1 b3
  rw [e55, e69] at b3
  have hF := actR_F hK a1
  rw [hF] at b1 b3
  have hr : r = r2 := b1.symm
  refine ⟨hr, ?_⟩
  subst hr
  have hin := actR_in g3 hK a1
  by_cases hneg : r < 0
  · obtain ⟨hk, h6⟩ := actR_neg g3 hK a1 hneg
    have hm := b2 hneg
    have hz : zFin M2 r = zRef M2 r := by unfold zFin; rw [if_pos hneg]
    have hcf : cFin N r = cRef N r := by unfold cFin; rw [if_pos hneg]
    have hI : IV c S sz N := by
      refine IV_1 hh ⟨fun i hi => hN i (by omega), hN 23 (by omega), by rw [hN 0 (by omega)], hN 58 (by omega), hN 59 (by omega), hN 74 (by omega), by rw [hN 55 (by omega)], by rw [hN 55 (by omega)]⟩ (by rw [hN 57 (by omega), ← hk]; exact a2) (by rw [hN 57 (by omega)]; exact g3) ?_ ?_ ?_ ?_ (fun t _ => by rw [hN 11 (by omega)]) (by rw [hN 57 (by omega)]) (fun i _ _ _ _ => by rw [hN 57 (by omega)]) ?_
      · intro i hi; rw [hN 54 (by omega), hN 56 (by omega)]; exact g4 i hi
      · unfold SCI; rw [hN 0 (by omega), hN 55 (by omega)]; exact g5
      · unfold TPI tbI wdI; rw [hN 30 (by omega), hN 31 (by omega), hN 55 (by omega), hN 62 (by omega), hN 61 (by omega)]; exact g6
      · exact ⟨l, n, a4 hneg, by rw [hN 69 (by omega)]; exact hl2, by rw [hN 55 (by omega)]; exact h32, by rw [hN 57 (by omega)]; exact hv⟩
      · exact XTI_fr g11 a7 (hN 48 (by omega)) (hN 52 (by omega)) (hN 50 (by omega)) (hN 72 (by omega))
    refine iv_ref hI (x := r) ⟨h6, by omega⟩ ?_
    rw [h3, hz, hm, a8, hcf]
    exact rfR_0
  · obtain ⟨o1, o2, o3, o4⟩ := b3 (by omega)
    have hz : zFin M2 r = z_up M2 55 0 0 := by unfold zFin; rw [if_neg hneg]
    have hcf : cFin N r = z_up N 0 15 0 := by unfold cFin; rw [if_neg hneg]
    rw [hcf] at a8
    have e1 : ∀ i, i ≠ 0 → M1 i = N i := fun i a => by rw [a8, z_up_ne a]
    have e3 : ∀ i, i ≠ 55 → M3 i = M2 i := fun i a => by rw [h3, hz, z_up_ne a]
    have eA : ∀ i, i ≠ 0 → i ≠ 55 → i ≠ 57 → i ≠ 67 → i ≠ 68 → i ≠ 69 → M3 i = N i := fun i p0 p1 p2 p3 p4 p5 => by rw [e3 i p1, o1.1 i p1 p2 p3 p4 p5, e1 i p0]
    have hkk : ∀ i, 23 ≤ i → k' i = M 57 i := fun i hi => by
      have q := zactF_hi (Lw := Lw) g3 (K := K) (x := x) (y := y) hi
      rw [hF] at q; exact q
    have e357 : M3 57 = k' := by rw [e3 57 (by decide)]; exact o2
    refine IV_mono (iv_mov hh (fun i hi => ?_) ?_ ?_ (fun j hj => ?_) ?_ (by rw [e357]; exact a3) (by rw [e357]; exact hkk) ?_ ?_) (by omega)
    · rw [eA i (by omega) (by omega) (by omega) (by omega) (by omega) (by omega)]; exact hN i (by omega)
    · rw [e3 0 (by decide), o1.1 0 (by decide) (by decide) (by decide) (by decide) (by decide), a8]
      funext j; rw [← hN 0 (by omega)]; simp [z_up, ku]
    · rw [h3, hz, z_up_eq]
    · rw [h3, hz, z_up_nk (by omega), o1.2 j (by omega) (by omega) (by omega) (by omega) (by omega) (by omega), e55]
    · rw [e357]; exact SR_frame a2 (fun i p q => eA i (by omega) (by omega) (by omega) (by omega) (by omega) (by omega))
    · refine ⟨lpush l n (M 57) (K - 16), min (n + 1) 16, LR_fr (a5 (by omega)) (eA 24 (by decide) (by decide) (by decide) (by decide) (by decide) (by decide)) (eA 25 (by decide) (by decide) (by decide) (by decide) (by decide) (by decide)) (eA 26 (by decide) (by decide) (by decide) (by decide) (by decide) (by decide)), ?_, ?_, ?_⟩
      · rw [e3 69 (by decide), o3, h32, Int.toNat_natCast]; exact lR_keep hl2
      · rw [h3, hz, z_up_nk (by decide), o4, h32]; omega
      · rw [e357]; exact push_ok g3 hv hl2.1 (by omega) hkk
    · unfold v42; rw [eA 42 (by decide) (by decide) (by decide) (by decide) (by decide) (by decide)]; exact a7
