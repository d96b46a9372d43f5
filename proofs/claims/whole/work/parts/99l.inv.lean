/-! THE LAW'S LOOP: what holds between two calls -/
def LA (S : zSh) (sz : Nat) (M : zMem) (a : Nat) (k : Nat → Int) : Prop := ∀ t : Nat, (t : Int) < k 78 → ∃ (L : List gC) (T nh nc : Nat), LawK k t L ∧ M (a + 10) t = (T : Int) ∧ 75 ≤ T ∧ TX S sz T nh nc ∧ TXM M T nh nc false L
def kI (R : zMem) (j : Nat) : Nat → Int := fun i => R 58 (5687 * j + i)
def IM (S : zSh) (sz : Nat) (C R : zMem) (j : Nat) : Prop := (R 59 j = 0 ∧ C 23 j = -1) ∨ (R 59 j = 1 ∧ ∃ a : Nat, C 23 j = (a : Int) ∧ 75 ≤ a ∧ SH S sz a ∧ lwT S sz C a ∧ SR C a (kI R j) ∧ KI (kI R j) ∧ LA S sz C a (kI R j))
def LT (S : zSh) (sz : Nat) (C R : zMem) : Prop := (R 55 43 = -1 ∧ C 0 3 = -1 ∧ 0 ≤ R 55 44 ∧ R 55 44 ≤ 4) ∨ ∃ (a : Nat) (kd : Nat → Int), C 0 3 = (a : Int) ∧ 75 ≤ a ∧ SH S sz a ∧ SR C a kd ∧ KI kd ∧ R 55 43 = kd 75 ∧ R 55 44 = kd 76 ∧ ∀ j, j < 23 → R 74 j = kd j
def DS (C : zMem) : Prop := (C 23 0 = C 23 1 → C 23 0 = -1) ∧ ∀ j, j < 2 → C 23 j = C 0 3 → C 0 3 = -1
def LGI (C R : zMem) : Prop := ∃ (l : Nat → Nat → Int) (n : Nat), LR C 24 l n ∧ lR (R 69) l n ∧ R 55 32 = (n : Int) ∧ ∀ j, j < n → (0 ≤ l j 23 ∧ l j 23 ≤ 3) ∧ KI (kMoved (R 57) (l j))
def SCI (C R : zMem) : Prop := C 0 12 = R 55 14 ∧ C 0 13 = R 55 6 ∧ C 0 14 = R 55 35 ∧ C 0 15 = R 55 0
def TPI (C R : zMem) : Prop := C 30 1 = R 55 13 ∧ (0 ≤ R 55 13 ∧ R 55 13 ≤ 400) ∧ (∀ i, C 31 i = R 62 i % 256) ∧ tbI R ∧ wdI R
def RFI (c : Int) (C R : zMem) : Prop := ∀ i, i < 7 → C 54 i = R 56 i ∧ 0 ≤ R 56 i ∧ R 56 i ≤ c
def XTI (C R : zMem) : Prop := v42 C ∧ v48 C ∧ (∀ g, g < 4 → 0 ≤ C 52 g ∧ C 52 g ≤ 99) ∧ zfB (C 50) 999 ∧ (∀ g, g < 4 → 0 ≤ R 72 g ∧ R 72 g ≤ 99)
def OBI (S : zSh) (sz : Nat) (C R : zMem) : Prop := IM S sz C R 0 ∧ IM S sz C R 1 ∧ LT S sz C R ∧ DS C
def IV (c : Int) (S : zSh) (sz : Nat) (M : zMem) : Prop := LY S sz ∧ SR M 1 (M 57) ∧ KI (M 57) ∧ RFI c M M ∧ SCI M M ∧ TPI M M ∧ LGI M M ∧ LA S sz M 1 (M 57) ∧ lwT S sz M 1 ∧ OBI S sz M M ∧ XTI M M
theorem RFI_mono {c c' : Int} {C R : zMem} (h : RFI c C R) (hc : c ≤ c') : RFI c' C R := fun i hi => ⟨(h i hi).1, (h i hi).2.1, Int.le_trans (h i hi).2.2 hc⟩
theorem IV_mono {c c' : Int} {S : zSh} {sz : Nat} {M : zMem} (h : IV c S sz M) (hc : c ≤ c') : IV c' S sz M := by
  obtain ⟨h1, h2, h3, h4, h5⟩ := h
  exact ⟨h1, h2, h3, RFI_mono h4 hc, h5⟩
theorem KI_congr {k k' : Nat → Int} (h : KI k) (e : ∀ i, i < 87 → k' i = k i) : KI k' := by
  obtain ⟨h1, h2, h3, h4, h5, h6⟩ := h
  refine ⟨?_, fun q hq => ?_, fun q hq => ?_, fun q hq => ?_, fun q hq => ?_, fun t ht => ?_⟩
  · simp (disch := omega) only [e]; exact h1
  · simp (disch := omega) only [e]; exact h2 q hq
  · simp (disch := omega) only [e]; exact h3 q hq
  · simp (disch := omega) only [e]; exact h4 q hq
  · simp (disch := omega) only [e]; exact h5 q hq
  · rw [e _ (by omega)]; exact h6 t ht
theorem LawK_congr {k k' : Nat → Int} {t : Nat} {L : List gC} (ht : t < 6) (h : LawK k t L) (e : ∀ i, 80 ≤ i → (i < 86 ∨ 87 ≤ i) → (i < 2487 ∨ 2887 ≤ i) → i < 5287 → k' i = k i) : LawK k' t L := by
  obtain ⟨c, v, n, cd0, s', h1, h2, h3, h4, h5⟩ := h
  have hn := h2.1
  exact ⟨c, v, n, cd0, s', by rw [e _ (by omega) (by omega) (by omega) (by omega)]; exact h1, h2, fun i hi => by rw [e _ (by omega) (by omega) (by omega) (by omega)]; exact h3 i hi, fun i hi => by rw [e _ (by omega) (by omega) (by omega) (by omega)]; exact h4 i hi, h5⟩
/-- texts are kept -/
def tK (S : zSh) (sz : Nat) (S' : zSh) (sz' : Nat) (M M' : zMem) : Prop := ∀ T nh nc, 75 ≤ T → TX S sz T nh nc → TX S' sz' T nh nc ∧ M' T = M T ∧ M' (T + 1) = M (T + 1) ∧ M' (T + 2) = M (T + 2)
theorem LA_fr {S S' : zSh} {sz sz' a a' : Nat} {M M' : zMem} {k k' : Nat → Int} (hi : k 78 ≤ 6) (h : LA S sz M a k) (hT : tK S sz S' sz' M M') (h0 : ∀ t, t < 6 → M' (a' + 10) t = M (a + 10) t) (h78 : k' 78 = k 78) (e : ∀ i, 80 ≤ i → (i < 86 ∨ 87 ≤ i) → (i < 2487 ∨ 2887 ≤ i) → i < 5287 → k' i = k i) : LA S' sz' M' a' k' := by
  intro t ht
  rw [h78] at ht
  obtain ⟨L, T, nh, nc, g1, g2, g3, g4, g5⟩ := h t ht
  obtain ⟨t1, t2, t3, t4⟩ := hT T nh nc g3 g4
  exact ⟨L, T, nh, nc, LawK_congr (by omega) g1 e, by rw [h0 t (by omega)]; exact g2, g3, t1, TXM_frame g5 t2 t3 t4⟩
theorem LA_Lw {S : zSh} {sz a : Nat} {M : zMem} {k : Nat → Int} (hi : KI k) (h : LA S sz M a k) : ∃ Lw, LwC S sz M a k Lw ∧ LwI k Lw := by
  have i1 := hi.1
  by_cases h9 : 0 ≤ k 79
  · obtain ⟨L, T, nh, nc, g1, g2, g3, g4, g5⟩ := h (k 79).toNat (by omega)
    exact ⟨L, fun _ => ⟨T, nh, nc, g2, g3, g4, g5⟩, fun _ => g1⟩
  · exact ⟨[], fun h => absurd h h9, fun h => absurd h h9⟩
theorem tK_refl {S : zSh} {sz : Nat} {M M' : zMem} (h : ∀ i, 75 ≤ i → M' i = M i) : tK S sz S sz M M' := fun T nh nc hT h1 => ⟨h1, h T hT, h (T + 1) (by omega), h (T + 2) (by omega)⟩
theorem lwT_fr {S S' : zSh} {sz sz' a a' : Nat} {M M' : zMem} (h : lwT S sz M a) (hz : sz ≤ sz') (hS : ∀ i, i < sz → S' i = S i) (h0 : ∀ t, t < 6 → M' (a' + 10) t = M (a + 10) t) : lwT S' sz' M' a' := by
  intro t ht
  rcases h t ht with g | ⟨r, n2, f2, g1, g2, g3⟩
  · exact .inl (by rw [h0 t ht]; exact g)
  · exact .inr ⟨r, n2, f2, by rw [h0 t ht]; exact g1, by omega, by rw [hS r g2]; exact g3⟩
theorem SH_fr {S S' : zSh} {sz sz' a : Nat} (h : SH S sz a) (hz : sz ≤ sz') (hS : ∀ i, i < sz → S' i = S i) : SH S' sz' a := by
  obtain ⟨h0, h1, h2, h3, h4, h5, h6, h7, h8, h9, h10, h11⟩ := h
  refine ⟨by omega, ?_, ?_, ?_, ?_, ?_, ?_, ?_, ?_, ?_, ?_, ?_⟩ <;> rw [hS _ (by omega)] <;> assumption
theorem TX_fr {S S' : zSh} {sz sz' a nh nc : Nat} (h : TX S sz a nh nc) (hz : sz ≤ sz') (hS : ∀ i, i < sz → S' i = S i) : TX S' sz' a nh nc := by
  obtain ⟨h0, h1, h2, h3⟩ := h
  refine ⟨by omega, ?_, ?_, ?_⟩ <;> rw [hS _ (by omega)] <;> assumption
theorem SH_dis {S : zSh} {sz a b : Nat} (h : SH S sz a) (hb : SH S sz b) (hne : a ≠ b) : a + 11 ≤ b ∨ b + 11 ≤ a := by
  have key : ∀ {a b : Nat}, SH S sz a → SH S sz b → a < b → a + 11 ≤ b := by
    intro a b h hb hlt
    obtain ⟨h0, h1, h2, h3, h4, h5, h6, h7, h8, h9, h10, h11⟩ := h
    have hb1 := hb.2.1
    by_cases hh : a + 11 ≤ b
    · exact hh
    · exfalso
      have : b = a + 1 ∨ b = a + 2 ∨ b = a + 3 ∨ b = a + 4 ∨ b = a + 5 ∨ b = a + 6 ∨ b = a + 7 ∨ b = a + 8 ∨ b = a + 9 ∨ b = a + 10 := by omega
      rcases this with e | e | e | e | e | e | e | e | e | e
      · rw [e, h2] at hb1; exact absurd (congrArg Prod.fst hb1) (show ¬ ((20 : Nat) = 7) by decide)
      · rw [e, h3] at hb1; exact absurd (congrArg Prod.fst hb1) (show ¬ ((20 : Nat) = 7) by decide)
      · rw [e, h4] at hb1; exact absurd (congrArg Prod.fst hb1) (show ¬ ((20 : Nat) = 7) by decide)
      · rw [e, h5] at hb1; exact absurd (congrArg Prod.fst hb1) (show ¬ ((20 : Nat) = 7) by decide)
      · rw [e, h6] at hb1; exact absurd (congrArg Prod.fst hb1) (show ¬ ((20 : Nat) = 7) by decide)
      · rw [e, h7] at hb1; exact absurd (congrArg Prod.fst hb1) (show ¬ ((20 : Nat) = 7) by decide)
      · rw [e, h8] at hb1; exact absurd (congrArg Prod.fst hb1) (show ¬ ((20 : Nat) = 7) by decide)
      · rw [e, h9] at hb1; exact absurd (congrArg Prod.fst hb1) (show ¬ ((20 : Nat) = 7) by decide)
      · rw [e, h10] at hb1; exact absurd (congrArg Prod.fst hb1) (show ¬ ((20 : Nat) = 7) by decide)
      · rw [e, h11] at hb1; exact absurd (congrArg Prod.fst hb1) (show ¬ ((25 : Nat) = 7) by decide)
  rcases Nat.lt_or_ge a b with g | g
  · exact .inl (key h hb g)
  · exact .inr (key hb h (by omega))
/-- all that was made is kept, but the ship b -/
def obK (S : zSh) (sz : Nat) (S' : zSh) (sz' : Nat) (M M' : zMem) (b : Nat) : Prop := sz ≤ sz' ∧ (∀ i, i < sz → S' i = S i) ∧ (SH S sz b ∨ b = sz) ∧ ∀ i, 75 ≤ i → i < sz → ¬ (b ≤ i ∧ i < b + 11) → M' i = M i
theorem obK_T {S S' : zSh} {sz sz' b : Nat} {M M' : zMem} (h : obK S sz S' sz' M M' b) : tK S sz S' sz' M M' := by
  obtain ⟨h1, h2, h3, h4⟩ := h
  intro T nh nc hT hX
  have h0 := hX.1
  have hd : T + 2 < b ∨ b + 11 ≤ T := by
    rcases h3 with h3 | h3
    · exact TX_SH h3 hX
    · left; omega
  exact ⟨TX_fr hX h1 h2, h4 T hT (by omega) (by omega), h4 _ (by omega) (by omega) (by omega), h4 _ (by omega) (by omega) (by omega)⟩
theorem obK_S {S S' : zSh} {sz sz' a b : Nat} {M M' : zMem} (h : obK S sz S' sz' M M' b) (ha : 75 ≤ a) (hS : SH S sz a) (hne : a ≠ b) : SH S' sz' a ∧ ∀ i, a ≤ i → i < a + 11 → M' i = M i := by
  obtain ⟨h1, h2, h3, h4⟩ := h
  have h0 := hS.1
  have hd : a + 11 ≤ b ∨ b + 11 ≤ a := by
    rcases h3 with h3 | h3
    · exact SH_dis hS h3 hne
    · left; omega
  exact ⟨SH_fr hS h1 h2, fun i g1 g2 => h4 i (by omega) (by omega) (by omega)⟩
theorem IM_fr {S S' : zSh} {sz sz' b : Nat} {C R C' R' : zMem} {j : Nat} (hK : obK S sz S' sz' C C' b) (h : IM S sz C R j) (hb : C 23 j ≠ (b : Int)) (h23 : C' 23 j = C 23 j) (h59 : R' 59 j = R 59 j) (h58 : ∀ i, i < 5687 → kI R' j i = kI R j i) : IM S' sz' C' R' j := by
  rcases h with ⟨g1, g2⟩ | ⟨g1, a, g2, g3, g4, g5, g6, g7, g8⟩
  · exact .inl ⟨by rw [h59]; exact g1, by rw [h23]; exact g2⟩
  · have hne : a ≠ b := fun e => hb (by rw [g2, e])
    obtain ⟨m1, m2⟩ := obK_S hK g3 g4 hne
    refine .inr ⟨by rw [h59]; exact g1, a, by rw [h23]; exact g2, g3, m1, lwT_fr g5 hK.1 hK.2.1 (fun t _ => by rw [m2 (a + 10) (by omega) (by omega)]), ?_, KI_congr g7 (fun i hi => h58 i (by omega)), ?_⟩
    · exact SR_congr (SR_frame g6 (fun i a1 a2 => m2 i a1 (by omega))) (fun i hi => h58 i (by omega))
    · exact LA_fr (by have := g7.1; omega) g8 (obK_T hK) (fun t _ => by rw [m2 (a + 10) (by omega) (by omega)]) (h58 78 (by omega)) (fun i _ _ _ hi => h58 i (by omega))
theorem LT_fr {S S' : zSh} {sz sz' b : Nat} {C R C' R' : zMem} (hK : obK S sz S' sz' C C' b) (h : LT S sz C R) (hb : C 0 3 ≠ (b : Int)) (h3 : C' 0 3 = C 0 3) (h43 : R' 55 43 = R 55 43) (h44 : R' 55 44 = R 55 44) (h74 : ∀ j, j < 23 → R' 74 j = R 74 j) : LT S' sz' C' R' := by
  rcases h with ⟨g1, g2, g3⟩ | ⟨a, kd, g1, g2, g3, g4, g5, g6, g7, g8⟩
  · exact .inl ⟨by rw [h43]; exact g1, by rw [h3]; exact g2, by rw [h44]; exact g3⟩
  · have hne : a ≠ b := fun e => hb (by rw [g1, e])
    obtain ⟨m1, m2⟩ := obK_S hK g2 g3 hne
    exact .inr ⟨a, kd, by rw [h3]; exact g1, g2, m1, SR_frame g4 (fun i a1 a2 => m2 i a1 (by omega)), g5, by rw [h43]; exact g6, by rw [h44]; exact g7, fun j hj => by rw [h74 j hj]; exact g8 j hj⟩
theorem OBI_lt {S : zSh} {sz : Nat} {C R : zMem} (h : OBI S sz C R) : (∀ j, j < 2 → C 23 j < (sz : Int)) ∧ C 0 3 < (sz : Int) ∧ (∀ j, j < 2 → R 59 j = 0 ∨ R 59 j = 1) := by
  obtain ⟨h1, h2, h3, h4⟩ := h
  have key : ∀ j, IM S sz C R j → C 23 j < (sz : Int) ∧ (R 59 j = 0 ∨ R 59 j = 1) := by
    intro j h
    rcases h with ⟨g1, g2⟩ | ⟨g1, a, g2, g3, g4, -⟩
    · omega
    · have := g4.1; omega
  refine ⟨fun j hj => ?_, ?_, fun j hj => ?_⟩
  · have : j = 0 ∨ j = 1 := by omega
    rcases this with rfl | rfl
    · exact (key _ h1).1
    · exact (key _ h2).1
  · rcases h3 with ⟨g1, g2, g3⟩ | ⟨a, kd, g1, g2, g3, -⟩
    · omega
    · have := g3.1; omega
  · have : j = 0 ∨ j = 1 := by omega
    rcases this with rfl | rfl
    · exact (key _ h1).2
    · exact (key _ h2).2
/-- nothing of the images and of what was drawn has changed -/
def obF0 (M N : zMem) : Prop := (∀ i, 75 ≤ i → N i = M i) ∧ N 23 = M 23 ∧ N 0 3 = M 0 3 ∧ N 58 = M 58 ∧ N 59 = M 59 ∧ N 74 = M 74 ∧ N 55 43 = M 55 43 ∧ N 55 44 = M 55 44
theorem OBI_0 {S : zSh} {sz : Nat} {M N : zMem} (h : OBI S sz M M) (hF : obF0 M N) : OBI S sz N N := by
  obtain ⟨f1, f2, f3, f4, f5, f6, f7, f8⟩ := hF
  have hl := OBI_lt h
  obtain ⟨h1, h2, h3, h4⟩ := h
  have hK : obK S sz S sz M N sz := ⟨Nat.le_refl _, fun _ _ => rfl, .inr rfl, fun i a _ _ => f1 i a⟩
  have e : ∀ j, kI N j = kI M j := fun j => by funext i; show N 58 _ = M 58 _; rw [f4]
  have n0 := hl.1 0 (by omega)
  have n1 := hl.1 1 (by omega)
  have n2 := hl.2.1
  refine ⟨IM_fr hK h1 (by omega) (by rw [f2]) (by rw [f5]) (fun i _ => by rw [e 0]), IM_fr hK h2 (by omega) (by rw [f2]) (by rw [f5]) (fun i _ => by rw [e 1]), LT_fr hK h3 (by omega) f3 f7 f8 (fun j _ => by rw [f6]), ?_⟩
  unfold DS
  rw [f2, f3]
  exact h4
