/-! THE LAW'S LOOP: the simple steps -/
/-- the reference's cells are as they were -/
def rS (M M1 : zMem) : Prop := ∀ i, 55 ≤ i → i < 75 → M1 i = M i
theorem rS_eq {M M1 : zMem} (h : M1 = M) : rS M M1 := fun i _ _ => by rw [h]
theorem rS_ref {M M1 : zMem} {x : Int} (h : M1 = cRef M x) : rS M M1 := fun i a b => by rw [h]; unfold cRef; rw [z_up_ne (by omega), z_up_ne (by omega)]
theorem rS_ok {clr : Bool} {M M1 : zMem} {k : Nat → Int} (h : cOK clr M M1 k) : rS M M1 := fun i a b => h.1 i (by omega) (by omega) (by omega)
theorem rS_jF {M M1 : zMem} (h : jF M M1) : rS M M1 := fun i a b => h.1 i (by omega) (by omega)
theorem rS_pF {M M1 : zMem} (h : pF M M1) : rS M M1 := fun i a b => h.1 i (by omega)
theorem rS_qF {M M1 : zMem} (h : qF M M1) : rS M M1 := fun i a b => h.1 i (by omega) (by omega) (by omega) (by omega) (by omega)
theorem rS_oF {M M1 : zMem} (h : oF M M1) : rS M M1 := fun i a b => h.1 i (by omega) (by omega) (by omega)
theorem rS_act {Lw : List gC} {M M1 : zMem} {l : Nat → Nat → Int} {n : Nat} {K x y r : Int} (h : clA Lw M l n K x y r M1) : rS M M1 := fun i a b => by
  obtain ⟨k', N, -, -, -, -, -, h6, -, h8⟩ := h
  rw [h8]; unfold cFin cRef
  have e := h6 i (by omega) (by omega) (by omega) (by omega) (by omega) (by omega) (by omega) (by omega) (by omega) (by omega)
  split
  · rw [z_up_ne (by omega), z_up_ne (by omega)]; exact e
  · rw [z_up_ne (by omega)]; exact e
/-- what the reference asks of its own cells -/
theorem IV_rd {c : Int} {S : zSh} {sz : Nat} {M M1 : zMem} (h : IV c S sz M) (hc : c ≤ 1000) (e : rS M M1) : KI (M1 57) ∧ (∀ i, i < 7 → 0 ≤ M1 56 i ∧ M1 56 i ≤ 1000000) ∧ (0 ≤ M1 55 32 ∧ M1 55 32 ≤ 16) ∧ (0 ≤ M1 55 13 ∧ M1 55 13 ≤ 400) ∧ (∀ g, g < 4 → 0 ≤ M1 72 g ∧ M1 72 g ≤ 99) ∧ (∀ j, j < 2 → M1 59 j = 0 ∨ M1 59 j = 1) ∧ (-1 ≤ M1 55 43 ∧ M1 55 43 ≤ 8) ∧ (0 ≤ M1 55 44 ∧ M1 55 44 ≤ 4) := by
  obtain ⟨g1, g2, g3, g4, g5, g6, g7, g8, g9, g10, g11⟩ := h
  rw [e 57 (by decide) (by decide), e 56 (by decide) (by decide), e 55 (by decide) (by decide), e 72 (by decide) (by decide), e 59 (by decide) (by decide)]
  refine ⟨g3, fun i hi => by have := g4 i hi; omega, ?_, g6.2.1, g11.2.2.2.2, (OBI_lt g10).2.2, ?_⟩
  · obtain ⟨l, n, p1, p2, p3, -⟩ := g7
    have := p2.1; omega
  · rcases g10.2.2.1 with ⟨p1, -, p3⟩ | ⟨a, kd, -, -, -, -, p1, p2, p3, -⟩
    · omega
    · have := p1.1; omega
theorem IV_54 {c : Int} {S : zSh} {sz : Nat} {M : zMem} (h : IV c S sz M) (hc : c ≤ 1000) : ∀ i, i < 7 → 0 ≤ M 54 i ∧ M 54 i ≤ 1000000 := fun i hi => by have := h.2.2.2.1 i hi; omega
/-- the class has kept what counts -/
def cK (M M1 : zMem) : Prop := (∀ i, (i ≤ 31 ∨ i = 48 ∨ i = 54 ∨ 55 ≤ i) → M1 i = M i) ∧ v42 M1 ∧ (∀ g, g < 4 → 0 ≤ M1 52 g ∧ M1 52 g ≤ 99) ∧ zfB (M1 50) 999
def rK (M1 M2 : zMem) : Prop := (∀ i, (i ≤ 54 ∨ i = 56 ∨ i = 57 ∨ i = 58 ∨ i = 59 ∨ i = 61 ∨ i = 62 ∨ i = 69 ∨ 74 ≤ i) → M2 i = M1 i) ∧ (∀ j, (j < 22 ∨ j = 32 ∨ j = 35 ∨ j = 43 ∨ j = 44) → M2 55 j = M1 55 j) ∧ (∀ g, g < 4 → 0 ≤ M2 72 g ∧ M2 72 g ≤ 99)
theorem iv_pure {c : Int} {S : zSh} {sz : Nat} {M M1 M2 : zMem} (h : IV c S sz M) (h1 : cK M M1) (h2 : rK M1 M2) : IV (c + 1) S sz M2 := by
  have hx := h.2.2.2.2.2.2.2.2.2.2
  refine IV_mono (IV_p h (fun i hi => ?_) (fun j hj => ?_) ⟨?_, ?_, ?_, ?_, h2.2.2⟩) (by omega)
  · rw [h2.1 i (by omega)]; exact h1.1 i (by omega)
  · rw [h2.2.1 j hj, h1.1 55 (by omega)]
  · unfold v42; rw [h2.1 42 (by omega)]; exact h1.2.1
  · unfold v48; rw [h2.1 48 (by omega), h1.1 48 (by omega)]; exact hx.2.1
  · rw [h2.1 52 (by omega)]; exact h1.2.2.1
  · rw [h2.1 50 (by omega)]; exact h1.2.2.2
theorem cK_eq {c : Int} {S : zSh} {sz : Nat} {M M1 : zMem} (h : IV c S sz M) (e : M1 = M) : cK M M1 := by
  have hx := h.2.2.2.2.2.2.2.2.2.2
  rw [e]; exact ⟨fun _ _ => rfl, hx.1, hx.2.2.1, hx.2.2.2.1⟩
theorem cK_jF {c : Int} {S : zSh} {sz : Nat} {M M1 : zMem} (h : IV c S sz M) (e : jF M M1) : cK M M1 := by
  have hx := h.2.2.2.2.2.2.2.2.2.2
  refine ⟨fun i hi => e.1 i (by omega) (by omega), e.2, ?_, ?_⟩
  · rw [e.1 52 (by decide) (by decide)]; exact hx.2.2.1
  · rw [e.1 50 (by decide) (by decide)]; exact hx.2.2.2.1
theorem cK_pF {c : Int} {S : zSh} {sz : Nat} {M M1 : zMem} (h : IV c S sz M) (e : pF M M1) : cK M M1 := by
  have hx := h.2.2.2.2.2.2.2.2.2.2
  refine ⟨fun i hi => e.1 i (by omega), ?_, ?_, ?_⟩
  · unfold v42; rw [e.1 42 (by decide)]; exact hx.1
  · rw [e.1 52 (by decide)]; exact hx.2.2.1
  · rw [e.1 50 (by decide)]; exact hx.2.2.2.1
theorem cK_qF {M M1 : zMem} (e : qF M M1) (h52 : ∀ g, g < 4 → 0 ≤ M1 52 g ∧ M1 52 g ≤ 99) (h50 : zfB (M1 50) 999) : cK M M1 := ⟨fun i hi => e.1 i (by omega) (by omega) (by omega) (by omega) (by omega), e.2, h52, h50⟩
theorem cK_oF {c : Int} {S : zSh} {sz : Nat} {M M1 : zMem} (h : IV c S sz M) (e : oF M M1) : cK M M1 := by
  have hx := h.2.2.2.2.2.2.2.2.2.2
  refine ⟨fun i hi => e.1 i (by omega) (by omega) (by omega), e.2, ?_, ?_⟩
  · rw [e.1 52 (by decide) (by decide) (by decide)]; exact hx.2.2.1
  · rw [e.1 50 (by decide) (by decide) (by decide)]; exact hx.2.2.2.1
theorem rK_eq {M1 M2 : zMem} (h72 : ∀ g, g < 4 → 0 ≤ M1 72 g ∧ M1 72 g ≤ 99) (e : M2 = M1) : rK M1 M2 := by rw [e]; exact ⟨fun _ _ => rfl, fun _ _ => rfl, h72⟩
theorem rK_mF {M1 M2 : zMem} (h72 : ∀ g, g < 4 → 0 ≤ M1 72 g ∧ M1 72 g ≤ 99) (e : mF M1 M2) : rK M1 M2 := ⟨fun i hi => e.1 i (by omega) (by omega), fun j hj => e.2 j (by omega) (by omega) (by omega) (by omega), by rw [e.1 72 (by decide) (by decide)]; exact h72⟩
theorem rK_bF {M1 M2 : zMem} (e : bF M1 M2) (h72 : ∀ g, g < 4 → 0 ≤ M2 72 g ∧ M2 72 g ≤ 99) : rK M1 M2 := ⟨fun i hi => e.1 i (by omega) (by omega) (by omega) (by omega), fun j hj => e.2 j (by omega) (by omega) (by omega) (by omega), h72⟩
theorem ref_ref {M M1 M2 : zMem} {x : Int} (h1 : M1 = cRef M x) (h2 : M2 = zRef M1 x) : rfR M M2 x := by rw [h2, h1]; exact rfR_0
theorem iv_sign {c : Int} {S : zSh} {sz : Nat} {M M1 M2 : zMem} {x y r r2 : Int} (h : IV c S sz M) (h1 : (¬ ((1 ≤ x ∧ x ≤ 999) ∧ 0 ≤ y ∧ y ≤ 9999) ∧ r = -1 ∧ M1 = cRef M (-1)) ∨ (((1 ≤ x ∧ x ≤ 999) ∧ 0 ≤ y ∧ y ≤ 9999) ∧ M 57 75 = 8 ∧ r = -5 ∧ M1 = cRef M (-5)) ∨ (((1 ≤ x ∧ x ≤ 999) ∧ 0 ≤ y ∧ y ≤ 9999) ∧ M 57 75 < 8 ∧ r = M 57 75 ∧ cOK true M M1 (kSign (M 57) x y))) (e : M1 57 = M 57) (h2 : (¬ ((1 ≤ x ∧ x ≤ 999) ∧ 0 ≤ y ∧ y ≤ 9999) ∧ r2 = -1 ∧ M2 = zRef M1 (-1)) ∨ (((1 ≤ x ∧ x ≤ 999) ∧ 0 ≤ y ∧ y ≤ 9999) ∧ M1 57 75 = 8 ∧ r2 = -5 ∧ M2 = zRef M1 (-5)) ∨ (((1 ≤ x ∧ x ≤ 999) ∧ 0 ≤ y ∧ y ≤ 9999) ∧ M1 57 75 < 8 ∧ r2 = M1 57 75 ∧ M2 = zSet M1 (kSign (M1 57) x y))) : r = r2 ∧ IV (c + 1) S sz M2 := by
  rw [e] at h2
  have hi := h.2.2.1
  have i1 := hi.1
  rcases h1 with ⟨a1, a2, a3⟩ | ⟨a1, a0, a2, a3⟩ | ⟨a1, a0, a2, a3⟩ <;> rcases h2 with ⟨b1, b2, b3⟩ | ⟨b1, b0, b2, b3⟩ | ⟨b1, b0, b2, b3⟩
  all_goals first
    | exact absurd b1 a1
    | exact absurd a1 b1
    | (exfalso; omega)
    | exact ⟨by omega, iv_ref h (by decide) (ref_ref a3 b3)⟩
    | exact ⟨by omega, by rw [b3]; exact IV_mono (iv_cOK1 h a3 (kSign_KI hi a0 a1.1 a1.2) (fun i p _ => kSign_hi ⟨by omega, a0⟩ p)) (by omega)⟩
theorem iv_ground {c : Int} {S : zSh} {sz : Nat} {M M1 M2 : zMem} {x y z u r r2 : Int} (h : IV c S sz M) (h1 : (¬ ((0 ≤ x ∧ x ≤ 99) ∧ (0 ≤ y ∧ y ≤ 10) ∧ (0 ≤ z ∧ z ≤ 10) ∧ (0 ≤ u ∧ u ≤ 10) ∧ y + z + u ≤ 10) ∧ r = -1 ∧ M1 = cRef M (-1)) ∨ (((0 ≤ x ∧ x ≤ 99) ∧ (0 ≤ y ∧ y ≤ 10) ∧ (0 ≤ z ∧ z ≤ 10) ∧ (0 ≤ u ∧ u ≤ 10) ∧ y + z + u ≤ 10) ∧ M 57 76 = 4 ∧ r = -5 ∧ M1 = cRef M (-5)) ∨ (((0 ≤ x ∧ x ≤ 99) ∧ (0 ≤ y ∧ y ≤ 10) ∧ (0 ≤ z ∧ z ≤ 10) ∧ (0 ≤ u ∧ u ≤ 10) ∧ y + z + u ≤ 10) ∧ M 57 76 < 4 ∧ r = M 57 76 ∧ cOK true M M1 (kGround (M 57) x y z u))) (e : M1 57 = M 57) (h2 : (¬ ((0 ≤ x ∧ x ≤ 99) ∧ (0 ≤ y ∧ y ≤ 10) ∧ (0 ≤ z ∧ z ≤ 10) ∧ (0 ≤ u ∧ u ≤ 10) ∧ y + z + u ≤ 10) ∧ r2 = -1 ∧ M2 = zRef M1 (-1)) ∨ (((0 ≤ x ∧ x ≤ 99) ∧ (0 ≤ y ∧ y ≤ 10) ∧ (0 ≤ z ∧ z ≤ 10) ∧ (0 ≤ u ∧ u ≤ 10) ∧ y + z + u ≤ 10) ∧ M1 57 76 = 4 ∧ r2 = -5 ∧ M2 = zRef M1 (-5)) ∨ (((0 ≤ x ∧ x ≤ 99) ∧ (0 ≤ y ∧ y ≤ 10) ∧ (0 ≤ z ∧ z ≤ 10) ∧ (0 ≤ u ∧ u ≤ 10) ∧ y + z + u ≤ 10) ∧ M1 57 76 < 4 ∧ r2 = M1 57 76 ∧ M2 = zSet M1 (kGround (M1 57) x y z u))) : r = r2 ∧ IV (c + 1) S sz M2 := by
  rw [e] at h2
  have hi := h.2.2.1
  have i1 := hi.1
  rcases h1 with ⟨a1, a2, a3⟩ | ⟨a1, a0, a2, a3⟩ | ⟨a1, a0, a2, a3⟩ <;> rcases h2 with ⟨b1, b2, b3⟩ | ⟨b1, b0, b2, b3⟩ | ⟨b1, b0, b2, b3⟩
  all_goals first
    | exact absurd b1 a1
    | exact absurd a1 b1
    | (exfalso; omega)
    | exact ⟨by omega, iv_ref h (by decide) (ref_ref a3 b3)⟩
    | exact ⟨by omega, by rw [b3]; exact IV_mono (iv_cOK1 h a3 (kGround_KI hi ⟨a0, a1⟩) (fun i p _ => kGround_hi ⟨by omega, a0⟩ p)) (by omega)⟩
theorem iv_terms {c : Int} {S : zSh} {sz : Nat} {M M1 M2 : zMem} {x y r r2 : Int} (h : IV c S sz M) (h1 : (¬ ((x = 0 ∧ 0 ≤ y ∧ y ≤ 71) ∨ (x = 1 ∧ 1 ≤ y ∧ M 57 0 ≤ y ∧ y ≤ 999) ∨ (x = 2 ∧ 0 ≤ y ∧ y ≤ 9)) ∧ r = -1 ∧ M1 = cRef M (-1)) ∨ (((x = 0 ∧ 0 ≤ y ∧ y ≤ 71) ∨ (x = 1 ∧ 1 ≤ y ∧ M 57 0 ≤ y ∧ y ≤ 999) ∨ (x = 2 ∧ 0 ≤ y ∧ y ≤ 9)) ∧ r = M 57 (tix x) ∧ cOK true M M1 (ku (M 57) (tix x) y))) (e : M1 57 = M 57) (h2 : (¬ ((x = 0 ∧ 0 ≤ y ∧ y ≤ 71) ∨ (x = 1 ∧ 1 ≤ y ∧ M1 57 0 ≤ y ∧ y ≤ 999) ∨ (x = 2 ∧ 0 ≤ y ∧ y ≤ 9)) ∧ r2 = -1 ∧ M2 = zRef M1 (-1)) ∨ (((x = 0 ∧ 0 ≤ y ∧ y ≤ 71) ∨ (x = 1 ∧ 1 ≤ y ∧ M1 57 0 ≤ y ∧ y ≤ 999) ∨ (x = 2 ∧ 0 ≤ y ∧ y ≤ 9)) ∧ r2 = M1 57 (tix x) ∧ M2 = zSet M1 (ku (M1 57) (tix x) y))) : r = r2 ∧ IV (c + 1) S sz M2 := by
  rw [e] at h2
  have hi := h.2.2.1
  rcases h1 with ⟨a1, a2, a3⟩ | ⟨a1, a2, a3⟩ <;> rcases h2 with ⟨b1, b2, b3⟩ | ⟨b1, b2, b3⟩
  · exact ⟨by omega, iv_ref h (by decide) (ref_ref a3 b3)⟩
  · exact absurd b1 a1
  · exact absurd a1 b1
  · have ht := tix_lt (x := x) (by omega)
    exact ⟨by rw [a2, b2], by rw [b3]; exact IV_mono (iv_cOK1 h a3 (terms_KI hi a1) (fun i p _ => ku_ne (by omega))) (by omega)⟩
theorem iv_price {c : Int} {S : zSh} {sz : Nat} {M M1 M2 : zMem} {x y r r2 : Int} (h : IV c S sz M) (h1 : (¬ ((0 ≤ x ∧ x ≤ 5) ∧ 0 ≤ y ∧ y ≤ 99) ∧ r = -1 ∧ M1 = cRef M (-1)) ∨ (((0 ≤ x ∧ x ≤ 5) ∧ 0 ≤ y ∧ y ≤ 99) ∧ r = M 57 (51 + x.toNat) ∧ cOK false M M1 (ku (M 57) (51 + x.toNat) y))) (e : M1 57 = M 57) (h2 : (¬ ((0 ≤ x ∧ x ≤ 5) ∧ 0 ≤ y ∧ y ≤ 99) ∧ r2 = -1 ∧ M2 = zRef M1 (-1)) ∨ (((0 ≤ x ∧ x ≤ 5) ∧ 0 ≤ y ∧ y ≤ 99) ∧ r2 = M1 57 (51 + x.toNat) ∧ M2 = z_up (z_mup M1 57 (ku (M1 57) (51 + x.toNat) y)) 55 0 0)) : r = r2 ∧ IV (c + 1) S sz M2 := by
  rw [e] at h2
  have hi := h.2.2.1
  rcases h1 with ⟨a1, a2, a3⟩ | ⟨a1, a2, a3⟩ <;> rcases h2 with ⟨b1, b2, b3⟩ | ⟨b1, b2, b3⟩
  · exact ⟨by omega, iv_ref h (by decide) (ref_ref a3 b3)⟩
  · exact absurd b1 a1
  · exact absurd a1 b1
  · exact ⟨by rw [a2, b2], by rw [b3]; exact IV_mono (iv_cOK2 h a3 (price_KI hi (by omega) a1.2) (fun i p _ => ku_ne (by omega)) (fun q hq => by rw [kMoved_ku (by omega)]; exact price_KI hq (by omega) a1.2)) (by omega)⟩
theorem iv_force {c : Int} {S : zSh} {sz : Nat} {M M1 M2 : zMem} {x r r2 : Int} (h : IV c S sz M) (h1 : (¬ (-1 ≤ x ∧ x < M 57 78) ∧ r = -2 ∧ M1 = cRef M (-2)) ∨ ((-1 ≤ x ∧ x < M 57 78) ∧ r = M 57 79 ∧ cOK false M M1 (ku (M 57) 79 x))) (e : M1 57 = M 57) (h2 : (¬ (-1 ≤ x ∧ x < M1 57 78) ∧ r2 = -2 ∧ M2 = zRef M1 (-2)) ∨ ((-1 ≤ x ∧ x < M1 57 78) ∧ r2 = M1 57 79 ∧ M2 = z_up (z_mup M1 57 (ku (M1 57) 79 x)) 55 0 0)) : r = r2 ∧ IV (c + 1) S sz M2 := by
  rw [e] at h2
  have hi := h.2.2.1
  rcases h1 with ⟨a1, a2, a3⟩ | ⟨a1, a2, a3⟩ <;> rcases h2 with ⟨b1, b2, b3⟩ | ⟨b1, b2, b3⟩
  · exact ⟨by omega, iv_ref h (by decide) (ref_ref a3 b3)⟩
  · exact absurd b1 a1
  · exact absurd a1 b1
  · exact ⟨by rw [a2, b2], by rw [b3]; exact IV_mono (iv_cOK2 h a3 (force_KI hi a1) (fun i p q => ku_ne q) (fun q hq => by rw [kMoved_ku (by omega)]; exact force_KI hq (by rw [kMoved_at (by decide)]; exact a1))) (by omega)⟩
theorem iv_word {c : Int} {S : zSh} {sz : Nat} {M M1 M2 : zMem} {x y r r2 : Int} (h : IV c S sz M) (h1 : (¬ (0 ≤ y ∧ y ≤ 999999) ∧ r = -1 ∧ M1 = cRef M (-1)) ∨ ((0 ≤ y ∧ y ≤ 999999) ∧ ¬ (0 ≤ x ∧ x < M 57 75) ∧ r = -2 ∧ M1 = cRef M (-2)) ∨ ((0 ≤ y ∧ y ≤ 999999) ∧ (0 ≤ x ∧ x < M 57 75) ∧ M 57 77 = 8 ∧ r = -5 ∧ M1 = cRef M (-5)) ∨ ((0 ≤ y ∧ y ≤ 999999) ∧ (0 ≤ x ∧ x < M 57 75) ∧ M 57 77 < 8 ∧ r = M 57 77 + 1 ∧ cOK false M M1 (kWord (M 57) x y))) (e : M1 57 = M 57) (h2 : (¬ (0 ≤ y ∧ y ≤ 999999) ∧ r2 = -1 ∧ M2 = zRef M1 (-1)) ∨ ((0 ≤ y ∧ y ≤ 999999) ∧ ¬ (0 ≤ x ∧ x < M1 57 75) ∧ r2 = -2 ∧ M2 = zRef M1 (-2)) ∨ ((0 ≤ y ∧ y ≤ 999999) ∧ (0 ≤ x ∧ x < M1 57 75) ∧ M1 57 77 = 8 ∧ r2 = -5 ∧ M2 = zRef M1 (-5)) ∨ ((0 ≤ y ∧ y ≤ 999999) ∧ (0 ≤ x ∧ x < M1 57 75) ∧ M1 57 77 < 8 ∧ r2 = M1 57 77 + 1 ∧ M2 = z_up (z_mup M1 57 (kWord (M1 57) x y)) 55 0 0)) : r = r2 ∧ IV (c + 1) S sz M2 := by
  rw [e] at h2
  have hi := h.2.2.1
  have i1 := hi.1
  rcases h1 with ⟨a1, a2, a3⟩ | ⟨a1, a0, a2, a3⟩ | ⟨a1, a0, a4, a2, a3⟩ | ⟨a1, a0, a4, a2, a3⟩ <;> rcases h2 with ⟨b1, b2, b3⟩ | ⟨b1, b0, b2, b3⟩ | ⟨b1, b0, b4, b2, b3⟩ | ⟨b1, b0, b4, b2, b3⟩
  all_goals first
    | exact absurd b1 a1
    | exact absurd a1 b1
    | exact absurd b0 a0
    | exact absurd a0 b0
    | (exfalso; omega)
    | exact ⟨by omega, iv_ref h (by decide) (ref_ref a3 b3)⟩
    | exact ⟨by omega, by rw [b3]; exact IV_mono (iv_cOK2 h a3 (word_KI hi a1 a0 a4) (fun i p _ => kWord_hi ⟨by omega, a4⟩ p) (fun q hq => by rw [kMoved_word]; exact word_KI hq a1 (by rw [kMoved_at (by decide)]; exact a0) (by rw [kMoved_at (by decide)]; exact a4))) (by omega)⟩
