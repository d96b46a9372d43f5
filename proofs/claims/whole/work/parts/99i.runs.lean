/-! reference: a clause of orders is run -/
def lR (L : Nat → Int) (l : Nat → Nat → Int) (n : Nat) : Prop := n ≤ 16 ∧ ∀ j, j < n → ∀ i, i < 24 → L (24 * j + i) = l j i
theorem lR_keep {L k : Nat → Int} {l : Nat → Nat → Int} {n : Nat} {x : Int} (h : lR L l n) : lR (zKeep L k n x) (lpush l n k x) (min (n + 1) 16) := by
  obtain ⟨h1, h2⟩ := h
  refine ⟨by omega, fun j hj i hi => ?_⟩
  unfold zKeep lpush
  by_cases hn : n = 16
  · rw [if_pos hn, if_neg (by omega)]
    by_cases hj5 : j = 15
    · subst hj5
      rw [if_pos rfl]
      by_cases h23 : i = 23
      · subst h23; simp [ku]
      · simp only [ku, zblk]
        rw [if_neg (by omega), if_pos (by omega), if_neg h23]
        rw [show 24 * 15 + i - 360 = i by omega]
    · rw [if_neg hj5]
      simp only [ku, zblk, zshift]
      rw [if_neg (by omega), if_neg (by omega), if_pos (by omega), ← h2 (j + 1) (by omega) i hi]
      congr 1; omega
  · rw [if_neg hn, if_pos (by omega)]
    by_cases hjn : j = n
    · subst hjn
      rw [if_pos rfl]
      by_cases h23 : i = 23
      · subst h23; simp [ku]
      · simp only [ku, zblk]
        rw [if_neg (by omega), if_pos (by omega), if_neg h23]
        congr 1; omega
    · rw [if_neg hjn]
      simp only [ku, zblk]
      rw [if_neg (by omega), if_neg (by omega)]
      exact h2 j (by omega) i hi
theorem zactF_R {Lw : List gC} {k : Nat → Int} (hi : KI k) {K x y : Int} : actR Lw k K x y (zactF Lw k K x y).1 (zactF Lw k K x y).2 := by
  have i1 := hi.1
  refine ⟨fun e => ?_, fun e => ?_, fun e => ?_, fun e => ?_⟩
  · unfold zactF aHunt
    rw [if_pos e]
    by_cases h1 : 0 ≤ y ∧ y ≤ 3
    · rw [if_neg (fun q => q h1)]
      by_cases h2 : 0 ≤ x ∧ x < k 76
      · rw [if_neg (fun q => q h2)]
        by_cases h3 : 0 < zcrew k ∧ k 2 < 71 ∧ y ≤ k (19 + x.toNat)
        · rw [if_neg (fun q => q h3)]; exact .inr (.inr (.inr ⟨h1, h2, h3, rfl, rfl⟩))
        · rw [if_pos h3]; exact .inr (.inr (.inl ⟨h1, h2, h3, rfl, rfl⟩))
      · rw [if_pos h2]; exact .inr (.inl ⟨h1, h2, rfl, rfl⟩)
    · rw [if_pos h1]; exact .inl ⟨h1, rfl, rfl⟩
  · unfold zactF aSell
    rw [if_neg (by omega), if_pos e]
    by_cases h1 : 1 ≤ x ∧ x ≤ 999
    · rw [if_neg (fun q => q h1)]
      by_cases h2 : k 0 < x
      · rw [if_pos h2]; exact .inr (.inl ⟨h1, h2, rfl, rfl⟩)
      · rw [if_neg h2]; exact .inr (.inr ⟨h1, by omega, rfl, rfl⟩)
    · rw [if_pos h1]; exact .inl ⟨h1, rfl, rfl⟩
  · unfold zactF aAdv
    rw [if_neg (by omega), if_neg (by omega), if_pos e]
    by_cases h1 : 1 ≤ y ∧ y ≤ 9999
    · rw [if_neg (fun q => q h1)]
      by_cases h2 : 0 ≤ x ∧ x < k 75
      · rw [if_neg (fun q => q h2)]
        by_cases h3 : k (11 + x.toNat) = 0 ∨ k 1 < y
        · rw [if_pos h3]; exact .inr (.inr (.inl ⟨h1, h2, h3, rfl, rfl⟩))
        · rw [if_neg h3]
          have h4 := (hi.2.1 x.toNat (by omega)).2.1
          exact .inr (.inr (.inr ⟨h1, h2, by omega, by omega, rfl, rfl⟩))
      · rw [if_pos h2]; exact .inr (.inl ⟨h1, h2, rfl, rfl⟩)
    · rw [if_pos h1]; exact .inl ⟨h1, rfl, rfl⟩
  · unfold zactF aLeave
    rw [if_neg (by omega), if_neg (by omega), if_neg (by omega)]
    by_cases h2 : 0 ≤ x ∧ x < k 75
    · rw [if_neg (fun q => q h2)]
      by_cases h3 : k (11 + x.toNat) = 0
      · rw [if_pos h3]; exact .inr (.inl ⟨h2, h3, rfl, rfl⟩)
      · rw [if_neg h3]
        have h4 := (hi.2.1 x.toNat (by omega)).2.1
        exact .inr (.inr ⟨h2, by omega, rfl, rfl⟩)
    · rw [if_pos h2]; exact .inl ⟨h2, rfl, rfl⟩
theorem zactF_hi {Lw : List gC} {k : Nat → Int} (hi : KI k) {K x y : Int} {i : Nat} (h : 23 ≤ i) : (zactF Lw k K x y).2 i = k i := by
  have i1 := hi.1
  unfold zactF
  repeat' split
  all_goals first
    | rfl
    | (show kH2 Lw (kH1 Lw k x.toNat y) i = k i; unfold kH2 kOff; rw [if_neg (by omega)]; exact kH1_o (by omega) (by omega))
    | (show kSell k x i = k i; simp only [kSell, ku]; rw [if_neg (by omega), if_neg (by omega)])
    | (show kAdv k x.toNat y i = k i; simp only [kAdv, ku]; rw [if_neg (by omega), if_neg (by omega)])
    | (show kLeave k x.toNat i = k i; simp only [kLeave, ku]; rw [if_neg (by omega)])
theorem zactF_b {Lw : List gC} {k : Nat → Int} {K x y y' : Int} (h : K = 17 ∨ K = 19) : zactF Lw k K x y = zactF Lw k K x y' := by
  unfold zactF
  rcases h with rfl | rfl <;> simp
theorem oE_b {k : Nat → Int} (hi : KI k) {dn gn : Int} (hd : 0 ≤ dn ∧ dn ≤ 1000000) (hg : -1 ≤ gn ∧ gn ≤ 1000000) (c j : Int) : -1000000000 ≤ oE k dn gn c j ∧ oE k dn gn c j ≤ 1000000000 := by
  have i1 := hi.1
  unfold oE
  by_cases h1 : c = 14
  · rw [if_pos h1]
    by_cases h2 : 0 ≤ j ∧ j < k 75
    · rw [if_pos h2]; have := (hi.2.1 j.toNat (by omega)).1; omega
    · rw [if_neg h2]; omega
  rw [if_neg h1]
  by_cases h1 : c = 15
  · rw [if_pos h1]
    by_cases h2 : 0 ≤ j ∧ j < k 76
    · rw [if_pos h2]; have := (hi.2.2.1 j.toNat (by omega)).1; omega
    · rw [if_neg h2]; omega
  rw [if_neg h1]
  repeat' split
  all_goals omega
theorem LwI_hi {k k' : Nat → Int} {Lw : List gC} (h : LwI k Lw) (he : ∀ i, 23 ≤ i → k' i = k i) : LwI k' Lw := by
  intro h79
  rw [he 79 (by decide)] at h79 ⊢
  obtain ⟨c, v, n, cd0, s', h1, h2, h3, h4, h5⟩ := h h79
  exact ⟨c, v, n, cd0, s', by rw [he _ (by omega)]; exact h1, h2, fun i hi => by rw [he _ (by omega)]; exact h3 i hi, fun i hi => by rw [he _ (by omega)]; exact h4 i hi, h5⟩
theorem g_tail_hd {o : Bool} {c v : Nat → Int} {s s' : gS} {mk : Int → gV → gC} {x : gC} {z : Int} (h : g_tail c v o s mk = .inr (s', x)) (hz : ∀ q w, (mk q w).1.1 = z) : x.1.1 = z := by
  rcases g_tail_inv h with ⟨-, s1, w, -, -, rfl⟩ | ⟨-, -, rfl⟩ <;> exact hz _ _
theorem g_rest_hd {c v : Nat → Int} {s s' : gS} {mk : Int → Int → gV → gC} {x : gC} {z : Int} (h : g_rest c v s mk = .inr (s', x)) (hz : ∀ t q w, (mk t q w).1.1 = z) : x.1.1 = z := by
  rcases g_rest_inv h with ⟨-, -, -, h1⟩ | ⟨-, h1⟩
  · exact g_tail_hd h1 (hz _)
  · exact g_tail_hd h1 (hz _)
theorem g_ord_hd {c v : Nat → Int} {s s' : gS} {x : gC} (h : g_ord c v s = .inr (s', x)) : x.1.1 = kap (c s.1) ∧ (c s.1 = 21 ∨ c s.1 = 24 ∨ c s.1 = 23 ∨ c s.1 = 26) := by
  rcases g_ord_inv h with ⟨h1, s1, w, s2, w2, -, -, -, h5⟩ | ⟨h1, s1, w, -, h5⟩
  · exact ⟨g_rest_hd h5 (fun _ _ _ => rfl), by omega⟩
  · exact ⟨g_rest_hd h5 (fun _ _ _ => rfl), by omega⟩
def ruF (M M' : zMem) : Prop := (∀ i, i ≠ 55 → i ≠ 57 → i ≠ 67 → i ≠ 68 → i ≠ 69 → i ≠ 73 → M' i = M i) ∧ (∀ j, (j < 22 ∨ j = 26 ∨ (29 ≤ j ∧ j < 32) ∨ (33 ≤ j ∧ j < 36) ∨ 41 ≤ j) → M' 55 j = M 55 j) ∧ ∀ i, 23 ≤ i → M' 57 i = M 57 i
def ruI (M : zMem) (at36 dm : Int) (st : oS) (M1 : zMem) : Prop := ruF M M1 ∧ M1 57 = st.1 ∧ KI st.1 ∧ lR (M1 69) st.2.1 st.2.2.1 ∧ M1 55 32 = (st.2.2.1 : Int) ∧ M1 55 27 = st.2.2.2.1 ∧ M1 55 28 = st.2.2.2.2 ∧ M1 55 36 = at36 ∧ (0 ≤ st.2.2.2.1 ∧ st.2.2.2.1 ≤ dm) ∧ (-1 ≤ st.2.2.2.2 ∧ st.2.2.2.2 ≤ 1000000)
def ruQ (M : zMem) (at36 dm : Int) (res : Option oS) (r : Int) (M' : zMem) : Prop := ruF M M' ∧ match res with
  | none => r = 0
  | some st => r = 1 ∧ ruI M at36 dm st M'
theorem ruF_refl {M : zMem} : ruF M M := ⟨fun _ _ _ _ _ _ _ => rfl, fun _ _ => rfl, fun _ _ => rfl⟩
theorem ruF_go {M M1 M2 : zMem} (h : ruF M M1) (h1 : goF M1 M2) : ruF M M2 :=
  ⟨fun i a b c d e f => (h1.1 i a f).trans (h.1 i a b c d e f), fun j a => (h1.2 j (by omega) (by omega) (by omega) (by omega) (by omega) (by omega) (by omega) (by omega)).trans (h.2.1 j a), fun i a => by rw [h1.1 57 (by decide) (by decide)]; exact h.2.2 i a⟩
theorem ruI_go {M M1 M2 : zMem} {a d : Int} {st : oS} (h : ruI M a d st M1) (h1 : goF M1 M2) : ruI M a d st M2 := by
  obtain ⟨g1, g2, g3, g4, g5, g6, g7, g8, g9, g10⟩ := h
  exact ⟨ruF_go g1 h1, (h1.1 57 (by decide) (by decide)).trans g2, g3, by rw [h1.1 69 (by decide) (by decide)]; exact g4, (h1.2 32 (by decide) (by decide) (by decide) (by decide) (by decide) (by decide) (by decide) (by decide)).trans g5, (h1.2 27 (by decide) (by decide) (by decide) (by decide) (by decide) (by decide) (by decide) (by decide)).trans g6, (h1.2 28 (by decide) (by decide) (by decide) (by decide) (by decide) (by decide) (by decide) (by decide)).trans g7, (h1.2 36 (by decide) (by decide) (by decide) (by decide) (by decide) (by decide) (by decide) (by decide)).trans g8, g9, g10⟩
theorem ruF_ob {M M1 M2 : zMem} (h : ruF M M1) (h1 : obF M1 M2) (h2 : ∀ i, 23 ≤ i → M2 57 i = M1 57 i) : ruF M M2 :=
  ⟨fun i a b c d e f => (h1.1 i a b c d e).trans (h.1 i a b c d e f), fun j a => (h1.2 j (by omega) (by omega) (by omega) (by omega) (by omega) (by omega)).trans (h.2.1 j a), fun i a => (h2 i a).trans (h.2.2 i a)⟩
theorem ruF_up {M M1 : zMem} {j : Nat} {x : Int} (h : ruF M M1) (hj : j = 27 ∨ j = 36) : ruF M (z_up M1 55 j x) :=
  ⟨fun i a b c d e f => by rw [z_up_ne a]; exact h.1 i a b c d e f, fun q a => by rw [z_up_nk (by omega)]; exact h.2.1 q a, fun i a => by rw [z_up_ne (by decide)]; exact h.2.2 i a⟩
theorem ruI_ob {Lw : List gC} {M M1 M3 : zMem} {a d r a0 b0 hd y : Int} {x : gC} {st : oS} (h : ruI M a d st M1) (hd4 : hd = 21 ∨ hd = 24 ∨ hd = 23 ∨ hd = 26) (hx : x.1.1 = kap hd) (hO : obQ Lw M1 a0 b0 hd r M3) (hr : 0 ≤ r) (h1 : x.2.2.2 (oE st.1 st.2.2.2.1 st.2.2.2.2) = some 1) (h2 : x.2.1 (oE st.1 st.2.2.2.1 st.2.2.2.2) = some a0) (h3 : x.2.2.1 (oE st.1 st.2.2.2.1 st.2.2.2.2) = some y) (h4 : (hd = 21 ∨ hd = 24) → b0 = y) : ∃ st', zo1 Lw x st = some st' ∧ ruI M a (d + 1) st' (z_up M3 55 27 (M3 55 27 + 1)) := by
  obtain ⟨g1, g2, g3, g4, g5, g6, g7, g8, g9, g10⟩ := h
  obtain ⟨o1, o2, -, o4⟩ := hO
  obtain ⟨p1, p2, p3, p4⟩ := o4 hr
  rw [g2] at o1 p1 p2
  have hF : zactF Lw st.1 (kap hd) a0 b0 = zactF Lw st.1 (kap hd) a0 y := by
    rcases hd4 with e | e | e | e
    · rw [h4 (by omega)]
    · rw [h4 (by omega)]
    · exact zactF_b (by rw [e]; decide)
    · exact zactF_b (by rw [e]; decide)
  rw [hF] at o1 p1
  have hR := zactF_R (Lw := Lw) g3 (K := kap hd) (x := a0) (y := y)
  have hI := actR_in g3 (kap_or hd4) hR
  have hq : zo1 Lw x st = some ((zactF Lw st.1 (kap hd) a0 y).2, lpush st.2.1 st.2.2.1 st.1 (kap hd - 16), min (st.2.2.1 + 1) 16, st.2.2.2.1 + 1, if kap hd = 16 then (zactF Lw st.1 (kap hd) a0 y).1 else st.2.2.2.2) := by
    unfold zo1
    rw [if_pos h1, h2, h3]
    simp only
    rw [hx, if_neg (by omega)]
  refine ⟨_, hq, ?_, ?_, hI.2, ?_, ?_, ?_, ?_, ?_, ?_, ?_⟩
  · exact ruF_up (ruF_ob g1 o2 (fun i hi => by rw [p1, zactF_hi g3 hi, g2])) (by omega)
  · rw [z_up_ne (by decide)]; exact p1
  · rw [z_up_ne (by decide), p2, g5, Int.toNat_natCast]; exact lR_keep g4
  · rw [z_up_nk (by decide), p3, g5]; show min ((st.2.2.1 : Int) + 1) 16 = ((min (st.2.2.1 + 1) 16 : Nat) : Int); omega
  · rw [z_up_eq, o2.2 27 (by decide) (by decide) (by decide) (by decide) (by decide) (by decide), g6]
  · rw [z_up_nk (by decide), p4, g7]
    show (if hd = 21 then r else st.2.2.2.2) = if kap hd = 16 then (zactF Lw st.1 (kap hd) a0 y).1 else st.2.2.2.2
    rcases hd4 with e | e | e | e
    · rw [if_pos e, if_pos (by rw [e]; decide), o1]
    · rw [if_neg (by omega), if_neg (by rw [e]; decide)]
    · rw [if_neg (by omega), if_neg (by rw [e]; decide)]
    · rw [if_neg (by omega), if_neg (by rw [e]; decide)]
  · rw [z_up_nk (by decide), o2.2 36 (by decide) (by decide) (by decide) (by decide) (by decide) (by decide)]; exact g8
  · show 0 ≤ st.2.2.2.1 + 1 ∧ st.2.2.2.1 + 1 ≤ d + 1; omega
  · show -1 ≤ (if kap hd = 16 then (zactF Lw st.1 (kap hd) a0 y).1 else st.2.2.2.2) ∧ (if kap hd = 16 then (zactF Lw st.1 (kap hd) a0 y).1 else st.2.2.2.2) ≤ 1000000
    split <;> omega
theorem ru_no {Lw : List gC} {M M1 M3 : zMem} {a d r a0 b0 hd y : Int} {x : gC} {st : oS} (h : ruI M a d st M1) (hd4 : hd = 21 ∨ hd = 24 ∨ hd = 23 ∨ hd = 26) (hx : x.1.1 = kap hd) (hO : obQ Lw M1 a0 b0 hd r M3) (hr : r < 0) (h1 : x.2.2.2 (oE st.1 st.2.2.2.1 st.2.2.2.2) = some 1) (h2 : x.2.1 (oE st.1 st.2.2.2.1 st.2.2.2.2) = some a0) (h3 : x.2.2.1 (oE st.1 st.2.2.2.1 st.2.2.2.2) = some y) (h4 : (hd = 21 ∨ hd = 24) → b0 = y) : zo1 Lw x st = none ∧ ruF M M3 := by
  obtain ⟨g1, g2, g3, g4, g5, g6, g7, g8, g9, g10⟩ := h
  obtain ⟨o1, o2, o3, -⟩ := hO
  obtain ⟨p1, p2, p3, p4⟩ := o3 hr
  rw [g2] at o1
  have hF : zactF Lw st.1 (kap hd) a0 b0 = zactF Lw st.1 (kap hd) a0 y := by
    rcases hd4 with e | e | e | e
    · rw [h4 (by omega)]
    · rw [h4 (by omega)]
    · exact zactF_b (by rw [e]; decide)
    · exact zactF_b (by rw [e]; decide)
  rw [hF] at o1
  refine ⟨?_, ruF_ob g1 o2 (fun i hi => by rw [p1])⟩
  unfold zo1
  rw [if_pos h1, h2, h3]
  simp only
  rw [hx, if_pos (by omega)]
theorem zo1_skip2 {Lw : List gC} {x : gC} {st : oS} (h : x.2.2.2 (oE st.1 st.2.2.2.1 st.2.2.2.2) ≠ some 1) : zo1 Lw x st = some st := by unfold zo1; rw [if_neg h]
theorem zo1_bk2 {Lw : List gC} {x : gC} {st : oS} (h : x.2.2.2 (oE st.1 st.2.2.2.1 st.2.2.2.2) = some 1) (h1 : x.2.1 (oE st.1 st.2.2.2.1 st.2.2.2.2) = none ∨ x.2.2.1 (oE st.1 st.2.2.2.1 st.2.2.2.2) = none) : zo1 Lw x st = none := by
  unfold zo1
  rw [if_pos h]
  rcases h1 with e | e
  · rw [e]
  · rw [e]; cases x.2.1 (oE st.1 st.2.2.2.1 st.2.2.2.2) <;> rfl
theorem zoT_some {Lw : List gC} {x : gC} {st st' : oS} {m : Nat} (h : zo1 Lw x st = some st') : zoT Lw x (m + 1) st = zoT Lw x m st' := by
  show (zo1 Lw x st).bind (zoT Lw x m) = _
  rw [h]; rfl
theorem zoT_none {Lw : List gC} {x : gC} {st : oS} {m : Nat} (h : zo1 Lw x st = none) : zoT Lw x (m + 1) st = none := by
  show (zo1 Lw x st).bind (zoT Lw x m) = _
  rw [h]; rfl
theorem ruI_mE {M M1 : zMem} {a d : Int} {st : oS} (h : ruI M a d st M1) : mE M1 true = oE st.1 st.2.2.2.1 st.2.2.2.2 := by
  rw [oE_mE, h.2.1, h.2.2.2.2.2.1, h.2.2.2.2.2.2.1]
theorem ruI_mono {M M1 : zMem} {a d d' : Int} {st : oS} (h : ruI M a d st M1) (hd : d ≤ d') : ruI M a d' st M1 := by
  obtain ⟨g1, g2, g3, g4, g5, g6, g7, g8, g9, g10⟩ := h
  exact ⟨g1, g2, g3, g4, g5, g6, g7, g8, ⟨g9.1, by omega⟩, g10⟩
theorem ruI_36 {M M1 : zMem} {a a' d : Int} {st : oS} (h : ruI M a d st M1) : ruI M a' d st (z_up M1 55 36 a') := by
  obtain ⟨g1, g2, g3, g4, g5, g6, g7, g8, g9, g10⟩ := h
  exact ⟨ruF_up g1 (by omega), by rw [z_up_ne (by decide)]; exact g2, g3, by rw [z_up_ne (by decide)]; exact g4, by rw [z_up_nk (by decide)]; exact g5, by rw [z_up_nk (by decide)]; exact g6, by rw [z_up_nk (by decide)]; exact g7, z_up_eq, g9, g10⟩

set_option maxRecDepth 100000 in
set_option maxHeartbeats 4000000 in
theorem c_X11_runs {d sz : Nat} {S : zSh} {M : zMem} (hL : LY S sz) (hi : KI (M 57)) {Lw : List gC} (hLw : LwI (M 57) Lw) {B n : Nat} {c v : Nat → Int} (hB : B + n ≤ 2800) (htc : ∀ i, i < n → M 57 (87 + (B + i)) = c i) (htv : ∀ i, i < n → M 57 (2887 + (B + i)) = v i) (hT : TK c v n) {s s' : gS} {x : gC} (hA : gA n s) (hq : g_ord c v s = .inr (s', x)) {D : Int} {st0 : oS} (hI0 : ruI M ((B + s.1 : Nat) : Int) D st0 M) (hD : D ≤ 1000) : zX (d + 48) 0 0 mX11_runs [zn 55, zi ((B + n : Nat) : Int)] sz S M (zI sz S (fun r M' => ruQ M (((B + s'.1 : Nat) : Int) + 1) (D + 20) (zoT Lw x x.1.2.2.2.2.toNat st0) r M')) := by
  have hok := ((g_ord_ok hT hA).2 s' x hq).2.1.2.1
  have hs9 := (gW_A hA ((g_ord_ok hT hA).2 s' x hq).1).1
  obtain ⟨hx, hd4⟩ := g_ord_hd hq
  have hn := hT.1
  have hD0 := hI0.2.2.2.2.2.2.2.2.1
  have hE0 : mEb M true := by intro a b; rw [ruI_mE hI0]; exact oE_b hI0.2.2.1 (by omega) hI0.2.2.2.2.2.2.2.2.2 a b
  have loop : ∀ (m : Nat) (kk : Int) (st : oS) (M1 : zMem), kk + (m : Int) = x.1.2.2.2.2 → 0 ≤ kk → ruI M ((B + s.1 : Nat) : Int) (D + kk) st M1 → zoT Lw x m st = zoT Lw x x.1.2.2.2.2.toNat st0 → zW mX11_runs (d + 48) 0 0 [] (zI sz S (fun r M' => ruQ M (((B + s'.1 : Nat) : Int) + 1) (D + 20) (zoT Lw x x.1.2.2.2.2.toNat st0) r M')) 19 [some (zn 55), some (zi ((B + n : Nat) : Int)), some (zi x.1.2.2.2.2), some (zi (((B + s'.1 : Nat) : Int) + 1)), some (zi kk)] [] sz S M1 := by
    intro m
    induction m with
    | zero =>
      intro kk st M1 hm hk hI hres
      refine x_iload 21 rfl dX11_runs_19 rfl ?_
      refine x_iload_n 22 rfl dX11_runs_21 2 rfl rfl ?_
      refine x_icmp_ge 25 73 rfl dX11_runs_22 (by decide) (fun c22 => ?_) (fun c22 => ?_)
      · refine x_aload_n 74 rfl dX11_runs_73 0 rfl rfl ?_
        refine x_iload_n 75 rfl dX11_runs_74 3 rfl rfl ?_
        refine x_puti 78 rfl fX11_419 dX11_runs_75 (lyl55 hL) (lys55 hL) (by decide) ?_
        refine x_iconst 79 rfl dX11_runs_78 (by decide) ?_
        refine x_retz dX11_runs_79 rfl (by omega) ?_
        rw [← hres]
        exact ⟨ruF_up hI.1 (by omega), rfl, ruI_36 (ruI_mono hI (by omega))⟩
      · exfalso; omega
    | succ m ih =>
      intro kk st M1 hm hk hI hres
      have hc := hI.2.2.2.2.2.2.2.2.1
      have hme := ruI_mE hI
      have hE1 : mEb M1 true := by intro a b; rw [hme]; exact oE_b hI.2.2.1 (by omega) hI.2.2.2.2.2.2.2.2.2 a b
      have hi1 : KI (M1 57) := by rw [hI.2.1]; exact hI.2.2.1
      have htc1 : ∀ i, i < n → M1 57 (87 + (B + i)) = c i := fun i hi => by rw [hI.1.2.2 _ (by omega)]; exact htc i hi
      have htv1 : ∀ i, i < n → M1 57 (2887 + (B + i)) = v i := fun i hi => by rw [hI.1.2.2 _ (by omega)]; exact htv i hi
      refine x_iload 21 rfl dX11_runs_19 rfl ?_
      refine x_iload_n 22 rfl dX11_runs_21 2 rfl rfl ?_
      refine x_icmp_ge 25 73 rfl dX11_runs_22 (by decide) (fun c22 => ?_) (fun c22 => ?_)
      · exfalso; omega
      · refine x_aload_n 26 rfl dX11_runs_25 0 rfl rfl ?_
        refine x_iload_n 27 rfl dX11_runs_26 1 rfl rfl ?_
        refine x_iconst 28 rfl dX11_runs_27 (by decide) ?_
        refine x_cVu 31 rfl lX11_444 dX11_runs_28 (lyl55 hL) (lys55 hL) (c_X11_goesAlong hL hi1 hE1 hB htc1 htv1 hT hA hq hI.2.2.2.2.2.2.2.1 (Or.inr rfl)) rfl rfl (Nat.le_of_ble_eq_true rfl) (fun M2 hr2 => ?_)
        rw [gaQ, hme] at hr2
        obtain ⟨q1, -, q3, -, q5, q6, q7⟩ := hr2
        have q6 := q6 rfl
        have q7 := q7.2 rfl
        have hI2 := ruI_go hI q1
        refine x_aload_n 32 rfl dX11_runs_31 0 rfl rfl ?_
        refine x_getz 35 rfl fX11_437 dX11_runs_32 (lyl55 hL) (lys55 hL) (by decide) ?_
        refine x_if_ne 38 41 rfl dX11_runs_35 (by decide) (fun c35 => ?_) (fun c35 => ?_)
        · have ht := q6.mp (by clear q7; omega)
          refine x_aload_n 42 rfl dX11_runs_41 0 rfl rfl ?_
          refine x_getz 45 rfl fX11_431 dX11_runs_42 (lyl55 hL) (lys55 hL) (by decide) ?_
          refine x_if_eq 48 55 rfl dX11_runs_45 (by decide) (fun c45 => ?_) (fun c45 => ?_)
          · refine x_iconst 56 rfl dX11_runs_55 (by decide) ?_
            refine x_retz dX11_runs_56 rfl (by omega) ?_
            have hz : zo1 Lw x st = none := by
              rcases q7 with ⟨a, -⟩ | ⟨-, a⟩
              · exfalso; omega
              · exact zo1_bk2 ht a
            rw [zoT_none hz] at hres
            rw [← hres]
            exact ⟨hI2.1, rfl⟩
          · obtain ⟨q8, y, q9, q10⟩ : x.2.1 (oE st.1 st.2.2.2.1 st.2.2.2.2) = some (M2 73 0) ∧ ∃ y, x.2.2.1 (oE st.1 st.2.2.2.1 st.2.2.2.2) = some y ∧ ((c s.1 = 21 ∨ c s.1 = 24) → M2 73 1 = y) := by
              rcases q7 with ⟨-, a⟩ | ⟨a, -⟩
              · exact a
              · exfalso; omega
            clear q7
            have hn2 : 0 ≤ M2 55 32 ∧ M2 55 32 ≤ 16 := by have := hI2.2.2.2.2.1; have := hI2.2.2.2.1.1; omega
            have hi2 : KI (M2 57) := by rw [hI2.2.1]; exact hI2.2.2.1
            have hLw2 : LwI (M2 57) Lw := LwI_hi hLw hI2.1.2.2
            refine x_aload_n 49 rfl dX11_runs_48 0 rfl rfl ?_
            refine x_cVi 52 rfl lX11_448 dX11_runs_49 (lyl55 hL) (lys55 hL) (c_X11_obeys hL hi2 hLw2 hn2 q3 hd4) rfl rfl (Nat.le_of_ble_eq_true rfl) (fun r3 M3 hr3 => ?_)
            refine x_if_ge 55 57 rfl dX11_runs_52 (by decide) (fun c52 => ?_) (fun c52 => ?_)
            · obtain ⟨st2, hz, hI3⟩ := ruI_ob hI2 hd4 hx hr3 (by omega) ht q8 q9 q10
              have h27 : M3 55 27 = st.2.2.2.1 := by rw [hr3.2.1.2 27 (by decide) (by decide) (by decide) (by decide) (by decide) (by decide)]; exact hI2.2.2.2.2.2.1
              refine x_aload_n 58 rfl dX11_runs_57 0 rfl rfl ?_
              refine x_dupr 59 rfl dX11_runs_58 ?_
              refine x_geti 62 rfl fX11_285 dX11_runs_59 (lyl55 hL) (lys55 hL) (by decide) ?_
              refine x_iconst 63 rfl dX11_runs_62 (by decide) ?_
              refine y_iadd 64 rfl dX11_runs_63 (by omega) ?_
              refine x_puti 67 rfl fX11_285 dX11_runs_64 (lyl55 hL) (lys55 hL) (by decide) ?_
              refine w_iinc 70 rfl dX11_runs_67 rfl (by decide) (by omega) rfl (ls' := [_, _, _, _, _]) rfl (by decide) ?_
              refine x_goto 19 dX11_runs_70 (by decide) ?_
              exact ih (kk + 1) st2 _ (by omega) (by omega) (ruI_mono hI3 (by omega)) (by rw [← zoT_some hz]; exact hres)
            · refine x_iconst 56 rfl dX11_runs_55 (by decide) ?_
              refine x_retz dX11_runs_56 rfl (by omega) ?_
              obtain ⟨hz, hf⟩ := ru_no hI2 hd4 hx hr3 (by omega) ht q8 q9 q10
              rw [zoT_none hz] at hres
              rw [← hres]
              exact ⟨hf, rfl⟩
        · refine x_goto 67 dX11_runs_38 (by decide) ?_
          refine w_iinc 70 rfl dX11_runs_67 rfl (by decide) (by omega) rfl (ls' := [_, _, _, _, _]) rfl (by decide) ?_
          refine x_goto 19 dX11_runs_70 (by decide) ?_
          exact ih (kk + 1) st M2 (by omega) (by omega) (ruI_mono hI2 (by omega)) (by rw [← zoT_some (zo1_skip2 (fun h => by have := q6.mpr h; clear q7; omega))]; exact hres)
  refine zX_of pl_RX11 [some (zn 55), some (zi ((B + n : Nat) : Int)), none, none, none] 3 rfl rfl ?_
  refine x_aload_n 1 rfl dX11_runs_0 0 rfl rfl ?_
  refine x_iload_n 2 rfl dX11_runs_1 1 rfl rfl ?_
  refine x_iconst 3 rfl dX11_runs_2 (by decide) ?_
  refine x_cVu 6 rfl lX11_444 dX11_runs_3 (lyl55 hL) (lys55 hL) (c_X11_goesAlong hL hi hE0 hB htc htv hT hA hq hI0.2.2.2.2.2.2.2.1 (Or.inl rfl)) rfl rfl (Nat.le_of_ble_eq_true rfl) (fun M2 hr2 => ?_)
  obtain ⟨q1, q2, -, q4, -⟩ := hr2
  refine x_aload_n 7 rfl dX11_runs_6 0 rfl rfl ?_
  refine x_geti 10 rfl fX11_434 dX11_runs_7 (lyl55 hL) (lys55 hL) (by decide) ?_
  rw [q4]
  refine y_istore_n 11 rfl dX11_runs_10 rfl rfl (ls' := [_, _, _, _, _]) rfl (by decide) ?_
  refine x_aload_n 12 rfl dX11_runs_11 0 rfl rfl ?_
  refine x_geti 15 rfl fX11_249 dX11_runs_12 (lyl55 hL) (lys55 hL) (by decide) ?_
  rw [q2]
  refine y_istore_n 16 rfl dX11_runs_15 rfl rfl (ls' := [_, _, _, _, _]) rfl (by decide) ?_
  refine x_iconst 17 rfl dX11_runs_16 (by decide) ?_
  refine y_istore 19 rfl dX11_runs_17 rfl (ls' := [_, _, _, _, _]) rfl (by decide) ?_
  exact loop x.1.2.2.2.2.toNat 0 st0 M2 (by omega) (by omega) (ruI_mono (ruI_go hI0 q1) (by omega)) rfl
