/-! orders as they were read -/
theorem g_rest_inv {c v : Nat → Int} {s s' : gS} {mk : Int → Int → gV → gC} {x : gC} (h : g_rest c v s mk = .inr (s', x)) : (c s.1 = 27 ∧ c (s.1 + 1) = 50 ∧ (1 ≤ v (s.1 + 1) ∧ v (s.1 + 1) ≤ 20) ∧ g_tail c v true (g_ad (g_ad s)) (mk (v (s.1 + 1))) = .inr (s', x)) ∨ (c s.1 ≠ 27 ∧ g_tail c v true s (mk 1) = .inr (s', x)) := by
  unfold g_rest at h
  by_cases h1 : c s.1 = 27
  · rw [if_pos h1] at h
    by_cases h2 : c (s.1 + 1) = 50 ∧ 1 ≤ v (s.1 + 1) ∧ v (s.1 + 1) ≤ 20
    · rw [if_pos h2] at h; exact Or.inl ⟨h1, h2.1, h2.2, h⟩
    · rw [if_neg h2] at h; cases h
  · rw [if_neg h1] at h; exact Or.inr ⟨h1, h⟩
theorem g_ord_inv {c v : Nat → Int} {s s' : gS} {x : gC} (h : g_ord c v s = .inr (s', x)) : ((c s.1 = 21 ∨ c s.1 = 24) ∧ ∃ s1 w s2 w2, g_sumD c v true 8 (g_ad s) = .inr (s1, w) ∧ c s1.1 = (if c s.1 = 21 then 22 else 25) ∧ g_sumD c v true 8 (g_ad (g_em s1 0)) = .inr (s2, w2) ∧ g_rest c v (g_em s2 0) (fun tm q wt => ((kap (c s.1), (s.2.2.1 : Int), ((s1.2.2.1 : Int) + 1), q, tm), w, w2, wt)) = .inr (s', x)) ∨ ((c s.1 = 23 ∨ c s.1 = 26) ∧ ∃ s1 w, g_sumD c v true 8 (g_ad s) = .inr (s1, w) ∧ g_rest c v (g_em s1 0) (fun tm q wt => ((kap (c s.1), (s.2.2.1 : Int), -1, q, tm), w, v_k 0, wt)) = .inr (s', x)) := by
  unfold g_ord at h
  by_cases h1 : c s.1 = 21 ∨ c s.1 = 24
  · rw [if_pos h1] at h
    obtain ⟨s1, w, h2, h3⟩ := g_bc_r h
    by_cases h7 : c s1.1 = (if c s.1 = 21 then 22 else 25)
    · rw [if_pos h7] at h3
      obtain ⟨s2, w2, h8, h9⟩ := g_bc_r h3
      exact Or.inl ⟨h1, s1, w, s2, w2, h2, h7, h8, h9⟩
    · rw [if_neg h7] at h3; cases h3
  · rw [if_neg h1] at h
    by_cases h3 : c s.1 = 23 ∨ c s.1 = 26
    · rw [if_pos h3] at h
      obtain ⟨s1, w, h2, h4⟩ := g_bc_r h
      exact Or.inr ⟨h3, s1, w, h2, h4⟩
    · rw [if_neg h3] at h; cases h
theorem g_ord_nb {c v : Nat → Int} {n : Nat} (hT : TK c v n) {s s' : gS} {x : gC} (hA : gA n s) (h : g_ord c v s = .inr (s', x)) : clNB x ∧ 0 ≤ x.1.2.1 := by
  have hG := gG_sumD (o := true) hT 8
  rcases g_ord_inv h with ⟨h1, s1, w, s2, w2, h5, h7, h8, h9⟩ | ⟨h1, s1, w, h5, h9⟩
  · have hc : c s.1 ≠ 0 := by omega
    have hB := gW_A hA (gW_ad hA (hT.lt hA.1 hc))
    have hw := gW_step hT hG hA hc h5 (x := 0) (by decide)
    have hA3 := gW_A hA hw
    have hc2 : c (g_em s1 0).1 ≠ 0 := by
      show c s1.1 ≠ 0
      rw [h7]; split <;> decide
    have hB2 := gW_A hA3 (gW_ad hA3 (hT.lt hA3.1 hc2))
    have hw2 := gW_step hT hG hA3 hc2 h8 (x := 0) (by decide)
    obtain ⟨k1, tm, q, wt, k2, -⟩ := (g_rest_ok hT (gW_A hA3 hw2)).2 s' x h9
    subst k2
    exact ⟨fun e he => ⟨gNB_sumD (o := true) hT he 8 _ _ _ hB h5, gNB_sumD (o := true) hT he 8 _ _ _ hB2 h8⟩, Int.natCast_nonneg _⟩
  · have hc : c s.1 ≠ 0 := by omega
    have hB := gW_A hA (gW_ad hA (hT.lt hA.1 hc))
    have hw := gW_step hT hG hA hc h5 (x := 0) (by decide)
    obtain ⟨k1, tm, q, wt, k2, -⟩ := (g_rest_ok hT (gW_A hA hw)).2 s' x h9
    subst k2
    exact ⟨fun e he => ⟨gNB_sumD (o := true) hT he 8 _ _ _ hB h5, v_k_nb (e := e) (by decide)⟩, Int.natCast_nonneg _⟩
theorem g_otext_nb {c v : Nat → Int} {n : Nat} (hT : TK c v n) : ∀ (f : Nat) (s s' : gS) (L L' : List gC), gA n s → (∀ x ∈ L, clNB x ∧ 0 ≤ x.1.2.1) → g_text true c v n f s L = .inr (s', L') → ∀ x ∈ L', clNB x ∧ 0 ≤ x.1.2.1
  | 0, s, s', L, L', hA, hx, h => by cases h
  | f + 1, s, s', L, L', hA, hx, h => by
    obtain ⟨s1, y, h1, h2⟩ := g_text_inv h
    have h1' : g_ord c v s = .inr (s1, y) := h1
    have hy := g_ord_nb hT hA h1'
    have hA1 := gW_A hA ((g_ord_ok hT hA).2 s1 y h1').1
    have hall : ∀ x ∈ L ++ [y], clNB x ∧ 0 ≤ x.1.2.1 := fun x hm => by
      rcases List.mem_append.mp hm with h3 | h3
      · exact hx x h3
      · have : x = y := by simpa using h3
        subst this; exact hy
    rcases g_more_inv h2 with ⟨h3, h4⟩ | ⟨h3, h4⟩
    · exact g_otext_nb hT f _ _ _ _ (gW_A hA1 (gW_ad hA1 (hT.lt hA1.1 (by omega)))) hall h4
    · subst h4; exact hall
theorem OT_of {c v : Nat → Int} {n : Nat} {cd0 hd0 : Nat → Int} {s' : gS} {L : List gC} (hT : TK c v n) (hq : g_text true c v n 12 (gz cd0) [] = .inr (s', L)) {M : zMem} (h36 : M 36 0 = (L.length : Int)) (h37 : M 37 = hdLs hd0 0 L) (h38 : M 38 = s'.2.2.2) : OT M L := by
  obtain ⟨⟨w1, w2, w3, w4, w5, w6, w7, w8⟩, h1, h2, h3, h4⟩ := (g_text_ok (o := true) hT 12 (gz cd0) [] gz_A rfl (fun x hx => by simp at hx)).2 s' L hq
  have hnb := g_otext_nb hT 12 (gz cd0) s' [] L gz_A (fun x hx => by simp at hx) hq
  have hn := hT.1
  have w6 : s'.2.2.1 + 0 ≤ 0 + s'.1 := w6
  have w8 : ∀ i, 0 ≤ i → i < s'.2.2.1 → 0 ≤ s'.2.2.2 i ∧ s'.2.2.2 i ≤ 100000 := w8
  refine ⟨h36, h2, fun i x hx => ?_, fun x hx => ⟨(h4 x hx).1, (h4 x hx).2 _ _ (fun i hi => ?_) (by omega), (hnb x hx).1, (hnb x hx).2⟩⟩
  · have h5 := hdLs_at L hd0 0 i x hx
    rw [Nat.zero_add] at h5
    rw [h37]
    exact h5
  · rw [h38]
    show nrmC (s'.2.2.2 i) = _
    unfold nrmC
    rw [if_pos (w8 i (by omega) hi).1]
