/-! THE LAW'S LOOP: the steps -/
theorem IV_1 {c c' : Int} {S : zSh} {sz : Nat} {M N : zMem} (h : IV c S sz M) (hF : obF0 M N) (hs : SR N 1 (N 57)) (hi : KI (N 57)) (hr : RFI c' N N) (hc : SCI N N) (ht : TPI N N) (hl : LGI N N) (h11 : ∀ t, t < 6 → N 11 t = M 11 t) (h78 : N 57 78 = M 57 78) (e : ∀ i, 80 ≤ i → (i < 86 ∨ 87 ≤ i) → (i < 2487 ∨ 2887 ≤ i) → i < 5287 → N 57 i = M 57 i) (hx : XTI N N) : IV c' S sz N := by
  obtain ⟨g1, g2, g3, g4, g5, g6, g7, g8, g9, g10, g11⟩ := h
  exact ⟨g1, hs, hi, hr, hc, ht, hl, LA_fr (by have := g3.1; omega) g8 (tK_refl hF.1) h11 h78 e, lwT_fr g9 (Nat.le_refl _) (fun _ _ => rfl) h11, OBI_0 g10 hF, hx⟩
theorem LGI_fr {M N : zMem} (h : LGI M M) (h24 : N 24 = M 24) (h25 : N 25 = M 25) (h26 : N 26 = M 26) (h69 : N 69 = M 69) (h32 : N 55 32 = M 55 32) (hk : ∀ e, KI (kMoved (M 57) e) → KI (kMoved (N 57) e)) : LGI N N := by
  obtain ⟨l, n, g1, g2, g3, g4⟩ := h
  exact ⟨l, n, LR_fr g1 h24 h25 h26, by rw [h69]; exact g2, by rw [h32]; exact g3, fun j hj => ⟨(g4 j hj).1, hk _ (g4 j hj).2⟩⟩
theorem LGI_clr {M N : zMem} (h : LGI M M) (h3 : N 24 3 = 0) (h2 : N 24 2 = M 24 2) (h32 : N 55 32 = 0) : LGI N N := by
  obtain ⟨l, n, g1, g2, g3, g4⟩ := h
  exact ⟨l, 0, ⟨h3, by rw [h2]; exact g1.2.1, by omega, fun j hj => by omega⟩, ⟨by omega, fun j hj => by omega⟩, h32, fun j hj => by omega⟩
theorem kMoved_hi {k k' e : Nat → Int} (h : ∀ i, 23 ≤ i → k' i = k i) : kMoved k' e = kMoved k e := by
  funext i
  unfold kMoved
  by_cases hi : i < 23
  · rw [if_pos hi, if_pos hi]
  · rw [if_neg hi, if_neg hi]; exact h i (by omega)
theorem kMoved_lo {k e e' : Nat → Int} (h : ∀ i, i < 23 → e' i = e i) : kMoved k e' = kMoved k e := by
  funext i
  unfold kMoved
  by_cases hi : i < 23
  · rw [if_pos hi, if_pos hi]; exact h i hi
  · rw [if_neg hi, if_neg hi]
/-- the parts that a call on the ship's numbers alone leaves -/
theorem IV_p {c : Int} {S : zSh} {sz : Nat} {M N : zMem} (h : IV c S sz M) (f : ∀ i, (i ≤ 31 ∨ i = 54 ∨ 75 ≤ i ∨ i = 56 ∨ i = 57 ∨ i = 58 ∨ i = 59 ∨ i = 61 ∨ i = 62 ∨ i = 69 ∨ i = 74) → N i = M i) (f5 : ∀ j, (j < 22 ∨ j = 32 ∨ j = 35 ∨ j = 43 ∨ j = 44) → N 55 j = M 55 j) (hx : XTI N N) : IV c S sz N := by
  have hh := h
  obtain ⟨g1, g2, g3, g4, g5, g6, g7, g8, g9, g10, g11⟩ := h
  have e57 : N 57 = M 57 := f 57 (by omega)
  refine IV_1 hh ⟨fun i hi => f i (by omega), f 23 (by omega), by rw [f 0 (by omega)], f 58 (by omega), f 59 (by omega), f 74 (by omega), f5 43 (by omega), f5 44 (by omega)⟩ ?_ ?_ ?_ ?_ ?_ ?_ (fun t _ => by rw [f 11 (by omega)]) (by rw [e57]) (fun i _ _ _ _ => by rw [e57]) hx
  · rw [e57]; exact SR_frame g2 (fun i a b => f i (by omega))
  · rw [e57]; exact g3
  · intro i hi; rw [f 54 (by omega), f 56 (by omega)]; exact g4 i hi
  · unfold SCI; rw [f 0 (by omega), f5 14 (by omega), f5 6 (by omega), f5 35 (by omega), f5 0 (by omega)]; exact g5
  · obtain ⟨t1, t2, t3, t4, t5⟩ := g6
    refine ⟨?_, ?_, ?_, ?_, ?_⟩
    · rw [f 30 (by omega), f5 13 (by omega)]; exact t1
    · rw [f5 13 (by omega)]; exact t2
    · rw [f 31 (by omega), f 62 (by omega)]; exact t3
    · unfold tbI; rw [f 62 (by omega)]; exact t4
    · unfold wdI; rw [f 61 (by omega)]; exact t5
  · exact LGI_fr g7 (f 24 (by omega)) (f 25 (by omega)) (f 26 (by omega)) (f 69 (by omega)) (f5 32 (by omega)) (fun e => by rw [e57]; exact id)
theorem XTI_fr {C R C' R' : zMem} (h : XTI C R) (h42 : v42 C') (h48 : C' 48 = C 48) (h52 : C' 52 = C 52) (h50 : C' 50 = C 50) (h72 : R' 72 = R 72) : XTI C' R' := by
  obtain ⟨g1, g2, g3, g4, g5⟩ := h
  refine ⟨h42, ?_, ?_, ?_, ?_⟩
  · unfold v48; rw [h48]; exact g2
  · rw [h52]; exact g3
  · rw [h50]; exact g4
  · rw [h72]; exact g5
/-- refused on both sides -/
def rfR (N M2 : zMem) (x : Int) : Prop := (∀ i, i ≠ 0 → i ≠ 54 → i ≠ 55 → i ≠ 56 → M2 i = N i) ∧ M2 0 = ku (N 0) 15 x ∧ M2 54 = ku (N 54) (-x).toNat (N 54 (-x).toNat + 1) ∧ M2 55 = ku (N 55) 0 x ∧ M2 56 = ku (N 56) (-x).toNat (N 56 (-x).toNat + 1)
theorem iv_ref {c : Int} {S : zSh} {sz : Nat} {N M2 : zMem} {x : Int} (h : IV c S sz N) (hx : -6 ≤ x ∧ x ≤ -1) (hR : rfR N M2 x) : IV (c + 1) S sz M2 := by
  have hh := h
  obtain ⟨g1, g2, g3, g4, g5, g6, g7, g8, g9, g10, g11⟩ := h
  obtain ⟨r1, r2, r3, r4, r5⟩ := hR
  have f : ∀ i, i ≠ 0 → i ≠ 54 → i ≠ 55 → i ≠ 56 → M2 i = N i := r1
  have f5 : ∀ j, j ≠ 0 → M2 55 j = N 55 j := fun j hj => by rw [r4, ku_ne hj]
  have e57 : M2 57 = N 57 := f 57 (by decide) (by decide) (by decide) (by decide)
  refine IV_1 hh ⟨fun i hi => f i (by omega) (by omega) (by omega) (by omega), f 23 (by decide) (by decide) (by decide) (by decide), by rw [r2, ku_ne (by decide)], f 58 (by decide) (by decide) (by decide) (by decide), f 59 (by decide) (by decide) (by decide) (by decide), f 74 (by decide) (by decide) (by decide) (by decide), f5 43 (by decide), f5 44 (by decide)⟩ ?_ ?_ ?_ ?_ ?_ ?_ (fun t _ => by rw [f 11 (by decide) (by decide) (by decide) (by decide)]) (by rw [e57]) (fun i _ _ _ _ => by rw [e57]) ?_
  · rw [e57]; exact SR_frame g2 (fun i a b => f i (by omega) (by omega) (by omega) (by omega))
  · rw [e57]; exact g3
  · intro i hi
    have g := g4 i hi
    rw [r3, r5]
    by_cases hq : i = (-x).toNat
    · rw [hq, ku_eq, ku_eq, ← hq]; omega
    · rw [ku_ne hq, ku_ne hq]; omega
  · unfold SCI
    rw [r2, r4, ku_ne (by decide), ku_ne (by decide), ku_ne (by decide), ku_ne (by decide), ku_ne (by decide), ku_ne (by decide), ku_eq, ku_eq]
    exact ⟨g5.1, g5.2.1, g5.2.2.1, rfl⟩
  · obtain ⟨t1, t2, t3, t4, t5⟩ := g6
    refine ⟨?_, ?_, ?_, ?_, ?_⟩
    · rw [f 30 (by decide) (by decide) (by decide) (by decide), f5 13 (by decide)]; exact t1
    · rw [f5 13 (by decide)]; exact t2
    · rw [f 31 (by decide) (by decide) (by decide) (by decide), f 62 (by decide) (by decide) (by decide) (by decide)]; exact t3
    · unfold tbI; rw [f 62 (by decide) (by decide) (by decide) (by decide)]; exact t4
    · unfold wdI; rw [f 61 (by decide) (by decide) (by decide) (by decide)]; exact t5
  · exact LGI_fr g7 (f 24 (by decide) (by decide) (by decide) (by decide)) (f 25 (by decide) (by decide) (by decide) (by decide)) (f 26 (by decide) (by decide) (by decide) (by decide)) (f 69 (by decide) (by decide) (by decide) (by decide)) (f5 32 (by decide)) (fun e => by rw [e57]; exact id)
  · exact XTI_fr g11 (by unfold v42; rw [f 42 (by decide) (by decide) (by decide) (by decide)]; exact g11.1) (f 48 (by decide) (by decide) (by decide) (by decide)) (f 52 (by decide) (by decide) (by decide) (by decide)) (f 50 (by decide) (by decide) (by decide) (by decide)) (f 72 (by decide) (by decide) (by decide) (by decide))
theorem rfR_0 {M : zMem} {x : Int} : rfR M (zRef (cRef M x) x) x := by
  unfold zRef cRef
  refine ⟨fun i a b c d => by rw [z_up_ne d, z_up_ne c, z_up_ne b, z_up_ne a], ?_, ?_, ?_, ?_⟩
  · rw [z_up_ne (by decide), z_up_ne (by decide), z_up_ne (by decide)]; funext j; simp [z_up, ku]
  · rw [z_up_ne (by decide), z_up_ne (by decide)]; funext j; simp [z_up, ku]
  · rw [z_up_ne (by decide)]; funext j; simp [z_up, ku]
  · funext j; simp [z_up, ku]
/-- the ship's numbers are others, the laws and the tape are not -/
theorem iv_set {c : Int} {S : zSh} {sz : Nat} {M N : zMem} (h : IV c S sz M) (clr : Bool) {k' : Nat → Int} (f : ∀ i, ¬ (1 ≤ i ∧ i < 12) → i ≠ 24 → i ≠ 0 → i ≠ 55 → i ≠ 57 → N i = M i) (f11 : N 11 = M 11) (f0 : N 0 = ku (M 0) 15 0) (f24 : N 24 = if clr = true then ku (M 24) 3 0 else M 24) (hs : SR N 1 k') (h57 : N 57 = k') (h55 : N 55 = if clr = true then ku (ku (M 55) 32 0) 0 0 else ku (M 55) 0 0) (hi : KI k') (hk : ∀ i, 78 ≤ i → i ≠ 79 → k' i = M 57 i) (hm : clr = false → ∀ e, KI (kMoved (M 57) e) → KI (kMoved k' e)) : IV c S sz N := by
  have hh := h
  obtain ⟨g1, g2, g3, g4, g5, g6, g7, g8, g9, g10, g11⟩ := h
  have f5 : ∀ j, j ≠ 0 → j ≠ 32 → N 55 j = M 55 j := fun j a b => by
    rw [h55]
    cases clr
    · rw [if_neg (by decide), ku_ne a]
    · rw [if_pos rfl, ku_ne a, ku_ne b]
  have f50 : N 55 0 = 0 := by
    rw [h55]
    cases clr
    · rw [if_neg (by decide), ku_eq]
    · rw [if_pos rfl, ku_eq]
  have ff : ∀ i, (12 ≤ i ∧ i ≠ 24 ∧ i ≠ 55 ∧ i ≠ 57) → N i = M i := fun i a => f i (by omega) (by omega) (by omega) (by omega) (by omega)
  refine IV_1 hh ⟨fun i hi => ff i (by omega), ff 23 (by omega), by rw [f0, ku_ne (by decide)], ff 58 (by omega), ff 59 (by omega), ff 74 (by omega), f5 43 (by decide) (by decide), f5 44 (by decide) (by decide)⟩ (by rw [h57]; exact hs) (by rw [h57]; exact hi) ?_ ?_ ?_ ?_ (fun t _ => by rw [f11]) (by rw [h57]; exact hk 78 (by decide) (by decide)) (fun i a _ _ _ => by rw [h57]; exact hk i (by omega) (by omega)) ?_
  · intro i hi; rw [ff 54 (by omega), ff 56 (by omega)]; exact g4 i hi
  · unfold SCI
    rw [f0, f5 14 (by decide) (by decide), f5 6 (by decide) (by decide), f5 35 (by decide) (by decide), f50, ku_ne (by decide), ku_ne (by decide), ku_ne (by decide), ku_eq]
    exact ⟨g5.1, g5.2.1, g5.2.2.1, rfl⟩
  · obtain ⟨t1, t2, t3, t4, t5⟩ := g6
    refine ⟨?_, ?_, ?_, ?_, ?_⟩
    · rw [ff 30 (by omega), f5 13 (by decide) (by decide)]; exact t1
    · rw [f5 13 (by decide) (by decide)]; exact t2
    · rw [ff 31 (by omega), ff 62 (by omega)]; exact t3
    · unfold tbI; rw [ff 62 (by omega)]; exact t4
    · unfold wdI; rw [ff 61 (by omega)]; exact t5
  · cases clr
    · rw [if_neg (by decide)] at f24 h55
      exact LGI_fr g7 f24 (ff 25 (by omega)) (ff 26 (by omega)) (ff 69 (by omega)) (by rw [h55, ku_ne (by decide)]) (fun e he => by rw [h57]; exact hm rfl e he)
    · rw [if_pos rfl] at f24 h55
      exact LGI_clr g7 (by rw [f24, ku_eq]) (by rw [f24, ku_ne (by decide)]) (by rw [h55, ku_ne (by decide), ku_eq])
  · exact XTI_fr g11 (by unfold v42; rw [ff 42 (by omega)]; exact g11.1) (ff 48 (by omega)) (ff 52 (by omega)) (ff 50 (by omega)) (ff 72 (by omega))
theorem iv_cOK1 {c : Int} {S : zSh} {sz : Nat} {M M1 : zMem} {k' : Nat → Int} (h : IV c S sz M) (h1 : cOK true M M1 k') (hi : KI k') (hk : ∀ i, 78 ≤ i → i ≠ 79 → k' i = M 57 i) : IV c S sz (zSet M1 k') := by
  obtain ⟨a1, a2, a3, a4, a5⟩ := h1
  unfold zSet
  refine iv_set h true (k' := k') (fun i b1 b2 b3 b4 b5 => by rw [z_up_ne b4, z_up_ne b4, z_mup_ne b5]; exact a1 i b1 b2 b3) (by rw [z_up_ne (by decide), z_up_ne (by decide), z_mup_ne (by decide)]; exact a2) (by rw [z_up_ne (by decide), z_up_ne (by decide), z_mup_ne (by decide)]; exact a3) (by rw [z_up_ne (by decide), z_up_ne (by decide), z_mup_ne (by decide)]; exact a4) (SR_frame a5 (fun i b1 b2 => by rw [z_up_ne (by omega), z_up_ne (by omega), z_mup_ne (by omega)])) (by rw [z_up_ne (by decide), z_up_ne (by decide), z_mup_eq]) ?_ hi hk (fun h => by cases h)
  rw [if_pos rfl, ← a1 55 (by decide) (by decide) (by decide)]
  funext j; simp [z_up, z_mup, ku]
theorem iv_cOK2 {c : Int} {S : zSh} {sz : Nat} {M M1 : zMem} {k' : Nat → Int} (h : IV c S sz M) (h1 : cOK false M M1 k') (hi : KI k') (hk : ∀ i, 78 ≤ i → i ≠ 79 → k' i = M 57 i) (hm : ∀ e, KI (kMoved (M 57) e) → KI (kMoved k' e)) : IV c S sz (z_up (z_mup M1 57 k') 55 0 0) := by
  obtain ⟨a1, a2, a3, a4, a5⟩ := h1
  refine iv_set h false (k' := k') (fun i b1 b2 b3 b4 b5 => by rw [z_up_ne b4, z_mup_ne b5]; exact a1 i b1 b2 b3) (by rw [z_up_ne (by decide), z_mup_ne (by decide)]; exact a2) (by rw [z_up_ne (by decide), z_mup_ne (by decide)]; exact a3) (by rw [z_up_ne (by decide), z_mup_ne (by decide)]; exact a4) (SR_frame a5 (fun i b1 b2 => by rw [z_up_ne (by omega), z_mup_ne (by omega)])) (by rw [z_up_ne (by decide), z_mup_eq]) ?_ hi hk (fun _ => hm)
  rw [if_neg (by decide), ← a1 55 (by decide) (by decide) (by decide)]
  funext j; simp [z_up, z_mup, ku]
