/-! CLAUSES AND WHOLE TEXTS: heads (kind, first, second, test, times), what they tell (first, second, test) -/
abbrev gC : Type := (Int × Int × Int × Int × Int) × gV × gV × gV
abbrev gRC : Type := Nat ⊕ (gS × gC)
def g_bc (x : gR) (f : gS → gV → gRC) : gRC := match x with
  | .inl t => .inl t
  | .inr q => f q.1 q.2
def v_k (x : Int) : gV := fun _ => some x
def g_tail (c v : Nat → Int) (o : Bool) (s : gS) (mk : Int → gV → gC) : gRC := if c s.1 = 4 then g_bc (g_testD c v o 8 (g_ad s)) (fun s1 w => .inr (g_em s1 0, mk (s.2.2.1 : Int) w)) else .inr (s, mk (-1) (v_k 1))
def g_law (c v : Nat → Int) (s : gS) : gRC :=
  if c s.1 = 1 ∨ c s.1 = 2 then g_bc (g_sumD c v false 8 (g_ad s)) (fun s1 w => g_tail c v false (g_em s1 0) (fun q wt => ((kap (c s.1), (s.2.2.1 : Int), -1, q, 1), w, v_k 0, wt)))
  else if c s.1 = 3 then g_tail c v false (g_ad s) (fun q wt => ((15, -1, -1, q, 1), v_k 1, v_k 0, wt))
  else .inl s.1
def g_rest (c v : Nat → Int) (s : gS) (mk : Int → Int → gV → gC) : gRC := if c s.1 = 27 then (if c (s.1 + 1) = 50 ∧ 1 ≤ v (s.1 + 1) ∧ v (s.1 + 1) ≤ 20 then g_tail c v true (g_ad (g_ad s)) (mk (v (s.1 + 1))) else .inl (s.1 + 1)) else g_tail c v true s (mk 1)
def g_ord (c v : Nat → Int) (s : gS) : gRC :=
  if c s.1 = 21 ∨ c s.1 = 24 then g_bc (g_sumD c v true 8 (g_ad s)) (fun s1 w => if c s1.1 = (if c s.1 = 21 then 22 else 25) then g_bc (g_sumD c v true 8 (g_ad (g_em s1 0))) (fun s2 w2 => g_rest c v (g_em s2 0) (fun tm q wt => ((kap (c s.1), (s.2.2.1 : Int), ((s1.2.2.1 : Int) + 1), q, tm), w, w2, wt))) else .inl s1.1)
  else if c s.1 = 23 ∨ c s.1 = 26 then g_bc (g_sumD c v true 8 (g_ad s)) (fun s1 w => g_rest c v (g_em s1 0) (fun tm q wt => ((kap (c s.1), (s.2.2.1 : Int), -1, q, tm), w, v_k 0, wt)))
  else .inl s.1
def g_cl (o : Bool) (c v : Nat → Int) (s : gS) : gRC := if o = true then g_ord c v s else g_law c v s
def g_text (o : Bool) (c v : Nat → Int) (n : Nat) : Nat → gS → List gC → Nat ⊕ (gS × List gC)
  | 0, s, _ => .inl s.1
  | f + 1, s, L => match g_cl o c v s with
    | .inl t => .inl t
    | .inr q => if c q.1.1 = 159 then g_text o c v n f (g_ad q.1) (L ++ [q.2]) else if q.1.1 = n then .inr (q.1, L ++ [q.2]) else .inl q.1.1
def segM (o : Bool) (C : Nat → Int) (len : Nat) (p : Int) (w : gV) : Prop := 0 ≤ p ∧ p < 400 ∧ ∀ (V : Nat → Int) (e : Int → Int → Int) (stk : Nat → Int), EV o V e → mach C len V len 0 p.toNat stk = (w e).getD zBK
def clM (o : Bool) (C : Nat → Int) (len : Nat) (x : gC) : Prop := ((x.1.2.1 = -1 ∧ x.2.1 = v_k 1) ∨ segM o C len x.1.2.1 x.2.1) ∧ ((x.1.2.2.1 = -1 ∧ x.2.2.1 = v_k 0) ∨ segM o C len x.1.2.2.1 x.2.2.1) ∧ ((x.1.2.2.2.1 = -1 ∧ x.2.2.2 = v_k 1) ∨ segM o C len x.1.2.2.2.1 x.2.2.2)
/-- the head of a clause -/
def clH (o : Bool) (x : gC) : Prop := (if o = true then 16 ≤ x.1.1 ∧ x.1.1 ≤ 19 else 13 ≤ x.1.1 ∧ x.1.1 ≤ 15) ∧ (1 ≤ x.1.2.2.2.2 ∧ x.1.2.2.2.2 ≤ 20) ∧ (x.1.1 = 15 → x.1.2.1 = -1) ∧ (-1 ≤ x.1.2.1 ∧ x.1.2.1 ≤ 400) ∧ (-1 ≤ x.1.2.2.1 ∧ x.1.2.2.1 ≤ 400) ∧ (-1 ≤ x.1.2.2.2.1 ∧ x.1.2.2.2.1 ≤ 400)
def gAgr (C : Nat → Int) (s : gS) : Prop := ∀ i, i < s.2.2.1 → C i = s.2.2.2 i
theorem gAgr_back {C : Nat → Int} {n a b : Nat} {s s' : gS} (h : gAgr C s') (hw : gW n a b s s') : gAgr C s := fun i hi => by
  have := hw.2.2.2.2.1
  rw [h i (by omega)]
  exact hw.2.2.2.2.2.2.1 i hi
theorem g_bc_r {x : gR} {f : gS → gV → gRC} {q : gS × gC} (h : g_bc x f = .inr q) : ∃ s w, x = .inr (s, w) ∧ f s w = .inr q := by
  rcases x with t | ⟨s, w⟩
  · simp [g_bc] at h
  · exact ⟨s, w, rfl, h⟩
theorem g_bc_l {x : gR} {f : gS → gV → gRC} {t : Nat} (h : g_bc x f = .inl t) : x = .inl t ∨ ∃ s w, x = .inr (s, w) ∧ f s w = .inl t := by
  rcases x with t1 | ⟨s, w⟩
  · left; simpa [g_bc] using h
  · exact Or.inr ⟨s, w, rfl, h⟩
theorem seg_ok {o : Bool} {n : Nat} {G : gS → gR} (hG : gG n G) (hk : ∀ len V e, EV o V e → gK n len V e G) (hn : n ≤ 400) {s s1 : gS} {w : gV} (hA : gA n s) (hg : G s = .inr (s1, w)) {C : Nat → Int} {len : Nat} (hC : gAgr C (g_em s1 0)) (hl : s1.2.2.1 + 1 ≤ len) : segM o C len (s.2.2.1 : Int) w := by
  have hw := (hG s hA).2 s1 w hg
  have h1 := hA.1
  have h2 := hA.2.2
  refine ⟨by omega, ?_, fun V e stk hE => ?_⟩
  · have h3 := hw.1
    have h4 := hw.2.1
    omega
  · rw [Int.toNat_natCast]
    refine gK_run hG (hk len V e hE) hA hg (by omega) (fun i h3 h4 => ?_) ?_
    · rw [hC i (by simp only [g_em]; omega)]; simp only [g_em, ku]; rw [if_neg (by omega)]
    · rw [hC s1.2.2.1 (by simp only [g_em]; omega)]; simp [g_em, ku]
theorem g_tail_ok {o : Bool} {c v : Nat → Int} {n : Nat} (hT : TK c v n) {s : gS} {mk : Int → gV → gC} (hA : gA n s) : (∀ t, g_tail c v o s mk = .inl t → t ≤ n) ∧ ∀ s' x, g_tail c v o s mk = .inr (s', x) → gW n 0 0 s s' ∧ ∃ q wt, x = mk q wt ∧ (-1 ≤ q ∧ q ≤ 400) ∧ ∀ C len, gAgr C s' → s'.2.2.1 ≤ len → ((q = -1 ∧ wt = v_k 1) ∨ segM o C len q wt) := by
  have hG := gG_testD (o := o) hT 8
  have h1 := hA.1
  have h2 := hA.2.2
  have hn := hT.1
  unfold g_tail
  by_cases h4 : c s.1 = 4
  · rw [if_pos h4]
    have hA2 := gW_A hA (gW_ad hA (hT.lt hA.1 (by omega)))
    refine ⟨fun t h => ?_, fun s' x h => ?_⟩
    · rcases g_bc_l h with h | ⟨s1, w1, h5, h6⟩
      · exact (hG _ hA2).1 t h
      · cases h6
    · obtain ⟨s1, w1, h5, h6⟩ := g_bc_r h
      cases h6
      have hw := gW_step hT hG hA (show c s.1 ≠ 0 by omega) h5 (x := 0) (by decide)
      refine ⟨gW_mono hw (by omega) (by omega), _, _, rfl, by omega, fun C len hC hl => Or.inr ?_⟩
      exact seg_ok hG (fun len V e hE => gK_testD hT hE 8) hn (s := g_ad s) hA2 h5 hC hl
  · rw [if_neg h4]
    refine ⟨fun t h => (by cases h), fun s' x h => ?_⟩
    cases h
    exact ⟨gW_refl hA, _, _, rfl, by omega, fun C len _ _ => Or.inl ⟨rfl, rfl⟩⟩
theorem g_rest_ok {c v : Nat → Int} {n : Nat} (hT : TK c v n) {s : gS} {mk : Int → Int → gV → gC} (hA : gA n s) : (∀ t, g_rest c v s mk = .inl t → t ≤ n) ∧ ∀ s' x, g_rest c v s mk = .inr (s', x) → gW n 0 0 s s' ∧ ∃ tm q wt, x = mk tm q wt ∧ (1 ≤ tm ∧ tm ≤ 20) ∧ (-1 ≤ q ∧ q ≤ 400) ∧ ∀ C len, gAgr C s' → s'.2.2.1 ≤ len → ((q = -1 ∧ wt = v_k 1) ∨ segM true C len q wt) := by
  unfold g_rest
  by_cases h1 : c s.1 = 27
  · rw [if_pos h1]
    have ht := hT.lt hA.1 (show c s.1 ≠ 0 by omega)
    have w1 := gW_ad hA ht
    have hA1 := gW_A hA w1
    by_cases h2 : c (s.1 + 1) = 50 ∧ 1 ≤ v (s.1 + 1) ∧ v (s.1 + 1) ≤ 20
    · rw [if_pos h2]
      have w2 := gW_ad hA1 (hT.lt hA1.1 (show c (s.1 + 1) ≠ 0 by omega))
      have h3 := g_tail_ok (o := true) hT (mk := mk (v (s.1 + 1))) (gW_A hA1 w2)
      refine ⟨h3.1, fun s' x h => ?_⟩
      obtain ⟨k1, q, wt, k2, k3, k4⟩ := h3.2 s' x h
      exact ⟨gW_mono (gW_trans (gW_trans w1 w2) k1) (by omega) (by omega), _, q, wt, k2, h2.2, k3, k4⟩
    · rw [if_neg h2]
      exact ⟨fun t h => (by cases h; exact ht), fun s' x h => (by cases h)⟩
  · rw [if_neg h1]
    have h3 := g_tail_ok (o := true) hT (mk := mk 1) hA
    refine ⟨h3.1, fun s' x h => ?_⟩
    obtain ⟨k1, q, wt, k2, k3, k4⟩ := h3.2 s' x h
    exact ⟨k1, 1, q, wt, k2, by omega, k3, k4⟩
theorem kap_12 {x : Int} (h : x = 1 ∨ x = 2) : kap x = 12 + x := by rcases h with rfl | rfl <;> decide
theorem kap_or {x : Int} (h : x = 21 ∨ x = 24 ∨ x = 23 ∨ x = 26) : 16 ≤ kap x ∧ kap x ≤ 19 := by rcases h with rfl | rfl | rfl | rfl <;> decide
theorem g_law_ok {c v : Nat → Int} {n : Nat} (hT : TK c v n) {s : gS} (hA : gA n s) : (∀ t, g_law c v s = .inl t → t ≤ n) ∧ ∀ s' x, g_law c v s = .inr (s', x) → gW n 1 0 s s' ∧ clH false x ∧ ∀ C len, gAgr C s' → s'.2.2.1 ≤ len → clM false C len x := by
  have hG := gG_sumD (o := false) hT 8
  have hn := hT.1
  have hA1 := hA.1
  have hA2 := hA.2.2
  unfold g_law
  by_cases h1 : c s.1 = 1 ∨ c s.1 = 2
  · rw [if_pos h1]
    have hc : c s.1 ≠ 0 := by omega
    have hB := gW_A hA (gW_ad hA (hT.lt hA.1 hc))
    have hk := kap_12 h1
    refine ⟨fun t h => ?_, fun s' x h => ?_⟩
    · rcases g_bc_l h with h | ⟨s1, w1, h5, h6⟩
      · exact (hG _ hB).1 t h
      · exact (g_tail_ok hT (gW_A hA (gW_step hT hG hA hc h5 (x := 0) (by decide)))).1 t h6
    · obtain ⟨s1, w1, h5, h6⟩ := g_bc_r h
      have hw := gW_step hT hG hA hc h5 (x := 0) (by decide)
      obtain ⟨k1, q, wt, k2, k3, k4⟩ := (g_tail_ok hT (gW_A hA hw)).2 s' x h6
      subst k2
      refine ⟨gW_mono (gW_trans hw k1) (by omega) (by omega), ⟨?_, by simp, ?_, ?_, by simp, k3⟩, fun C len hC hl => ⟨Or.inr ?_, Or.inl ⟨rfl, rfl⟩, k4 C len hC hl⟩⟩
      · rw [if_neg (by decide)]; show 13 ≤ kap (c s.1) ∧ kap (c s.1) ≤ 15; omega
      · show kap (c s.1) = 15 → _; omega
      · show -1 ≤ (s.2.2.1 : Int) ∧ (s.2.2.1 : Int) ≤ 400; omega
      · have k5 : s1.2.2.1 + 1 + 0 ≤ s'.2.2.1 := k1.2.2.2.2.1
        exact seg_ok hG (fun len V e hE => gK_sumD hT hE 8) hn (s := g_ad s) hB h5 (gAgr_back hC k1) (by omega)
  · rw [if_neg h1]
    by_cases h3 : c s.1 = 3
    · rw [if_pos h3]
      have w1 := gW_ad hA (hT.lt hA.1 (show c s.1 ≠ 0 by omega))
      have h4 := g_tail_ok (o := false) hT (mk := fun q wt => ((15, -1, -1, q, 1), v_k 1, v_k 0, wt)) (gW_A hA w1)
      refine ⟨h4.1, fun s' x h => ?_⟩
      obtain ⟨k1, q, wt, k2, k3, k4⟩ := h4.2 s' x h
      subst k2
      exact ⟨gW_trans w1 k1, ⟨by simp, by simp, fun _ => rfl, by simp, by simp, k3⟩, fun C len hC hl => ⟨Or.inl ⟨rfl, rfl⟩, Or.inl ⟨rfl, rfl⟩, k4 C len hC hl⟩⟩
    · rw [if_neg h3]
      exact ⟨fun t h => (by cases h; exact hA.1), fun s' x h => (by cases h)⟩
theorem g_ord_ok {c v : Nat → Int} {n : Nat} (hT : TK c v n) {s : gS} (hA : gA n s) : (∀ t, g_ord c v s = .inl t → t ≤ n) ∧ ∀ s' x, g_ord c v s = .inr (s', x) → gW n 1 0 s s' ∧ clH true x ∧ ∀ C len, gAgr C s' → s'.2.2.1 ≤ len → clM true C len x := by
  have hG := gG_sumD (o := true) hT 8
  have hn := hT.1
  have hA1 := hA.1
  have hA2 := hA.2.2
  unfold g_ord
  by_cases h1 : c s.1 = 21 ∨ c s.1 = 24
  · rw [if_pos h1]
    have hc : c s.1 ≠ 0 := by omega
    have hB := gW_A hA (gW_ad hA (hT.lt hA.1 hc))
    have hk := kap_or (x := c s.1) (by omega)
    have fw : (if c s.1 = 21 then (22 : Int) else 25) ≠ 0 := by split <;> decide
    refine ⟨fun t h => ?_, fun s' x h => ?_⟩
    · rcases g_bc_l h with h | ⟨s1, w1, h5, h6⟩
      · exact (hG _ hB).1 t h
      · have hw := gW_step hT hG hA hc h5 (x := 0) (by decide)
        have hA3 := gW_A hA hw
        by_cases h7 : c s1.1 = (if c s.1 = 21 then 22 else 25)
        · rw [if_pos h7] at h6
          have hc2 : c (g_em s1 0).1 ≠ 0 := by show c s1.1 ≠ 0; rw [h7]; exact fw
          have hB2 := gW_A hA3 (gW_ad hA3 (hT.lt hA3.1 hc2))
          rcases g_bc_l h6 with h8 | ⟨s2, w2, h8, h9⟩
          · exact (hG _ hB2).1 t h8
          · exact (g_rest_ok hT (gW_A hA3 (gW_step hT hG hA3 hc2 h8 (x := 0) (by decide)))).1 t h9
        · rw [if_neg h7] at h6; cases h6; exact hA3.1
    · obtain ⟨s1, w1, h5, h6⟩ := g_bc_r h
      have hw := gW_step hT hG hA hc h5 (x := 0) (by decide)
      have hA3 := gW_A hA hw
      by_cases h7 : c s1.1 = (if c s.1 = 21 then 22 else 25)
      · rw [if_pos h7] at h6
        have hc2 : c (g_em s1 0).1 ≠ 0 := by show c s1.1 ≠ 0; rw [h7]; exact fw
        have hB2 := gW_A hA3 (gW_ad hA3 (hT.lt hA3.1 hc2))
        obtain ⟨s2, w2, h8, h9⟩ := g_bc_r h6
        have hw2 := gW_step hT hG hA3 hc2 h8 (x := 0) (by decide)
        obtain ⟨k1, tm, q, wt, k2, k0, k3, k4⟩ := (g_rest_ok hT (gW_A hA3 hw2)).2 s' x h9
        subst k2
        have u3 : s1.2.2.1 + 1 ≤ s1.1 := hA3.2.2
        have u4 : s1.1 ≤ n := hA3.1
        have k5 : s2.2.2.1 + 1 + 0 ≤ s'.2.2.1 := k1.2.2.2.2.1
        have k6 : s1.2.2.1 + 1 + 1 ≤ s2.2.2.1 + 1 := hw2.2.2.2.2.1
        refine ⟨gW_mono (gW_trans (gW_trans hw hw2) k1) (by omega) (by omega), ⟨?_, k0, ?_, ?_, ?_, k3⟩, fun C len hC hl => ⟨Or.inr ?_, Or.inr ?_, k4 C len hC hl⟩⟩
        · rw [if_pos rfl]; exact hk
        · show kap (c s.1) = 15 → _; omega
        · show -1 ≤ (s.2.2.1 : Int) ∧ (s.2.2.1 : Int) ≤ 400; omega
        · show -1 ≤ (s1.2.2.1 : Int) + 1 ∧ (s1.2.2.1 : Int) + 1 ≤ 400; omega
        · exact seg_ok hG (fun len V e hE => gK_sumD hT hE 8) hn (s := g_ad s) hB h5 (gAgr_back hC (gW_trans hw2 k1)) (by omega)
        · have h10 := seg_ok hG (fun len V e hE => gK_sumD (o := true) hT hE 8) hn (s := g_ad (g_em s1 0)) hB2 h8 (C := C) (len := len) (gAgr_back hC k1) (by omega)
          have e : ((g_ad (g_em s1 0)).2.2.1 : Int) = (s1.2.2.1 : Int) + 1 := by simp [g_ad, g_em]
          rw [e] at h10
          exact h10
      · rw [if_neg h7] at h6; cases h6
  · rw [if_neg h1]
    by_cases h3 : c s.1 = 23 ∨ c s.1 = 26
    · rw [if_pos h3]
      have hc : c s.1 ≠ 0 := by omega
      have hB := gW_A hA (gW_ad hA (hT.lt hA.1 hc))
      have hk := kap_or (x := c s.1) (by omega)
      refine ⟨fun t h => ?_, fun s' x h => ?_⟩
      · rcases g_bc_l h with h | ⟨s1, w1, h5, h6⟩
        · exact (hG _ hB).1 t h
        · exact (g_rest_ok hT (gW_A hA (gW_step hT hG hA hc h5 (x := 0) (by decide)))).1 t h6
      · obtain ⟨s1, w1, h5, h6⟩ := g_bc_r h
        have hw := gW_step hT hG hA hc h5 (x := 0) (by decide)
        obtain ⟨k1, tm, q, wt, k2, k0, k3, k4⟩ := (g_rest_ok hT (gW_A hA hw)).2 s' x h6
        subst k2
        refine ⟨gW_mono (gW_trans hw k1) (by omega) (by omega), ⟨?_, k0, ?_, ?_, by simp, k3⟩, fun C len hC hl => ⟨Or.inr ?_, Or.inl ⟨rfl, rfl⟩, k4 C len hC hl⟩⟩
        · rw [if_pos rfl]; exact hk
        · show kap (c s.1) = 15 → _; omega
        · show -1 ≤ (s.2.2.1 : Int) ∧ (s.2.2.1 : Int) ≤ 400; omega
        · have k5 : s1.2.2.1 + 1 + 0 ≤ s'.2.2.1 := k1.2.2.2.2.1
          exact seg_ok hG (fun len V e hE => gK_sumD hT hE 8) hn (s := g_ad s) hB h5 (gAgr_back hC k1) (by omega)
    · rw [if_neg h3]
      exact ⟨fun t h => (by cases h; exact hA.1), fun s' x h => (by cases h)⟩
theorem g_cl_ok {o : Bool} {c v : Nat → Int} {n : Nat} (hT : TK c v n) {s : gS} (hA : gA n s) : (∀ t, g_cl o c v s = .inl t → t ≤ n) ∧ ∀ s' x, g_cl o c v s = .inr (s', x) → gW n 1 0 s s' ∧ clH o x ∧ ∀ C len, gAgr C s' → s'.2.2.1 ≤ len → clM o C len x := by
  unfold g_cl
  cases o with
  | true => exact g_ord_ok hT hA
  | false => exact g_law_ok hT hA
theorem g_text_ok {o : Bool} {c v : Nat → Int} {n : Nat} (hT : TK c v n) : ∀ (f : Nat) (s : gS) (L : List gC), gA n s → L.length + f = 12 → (∀ x ∈ L, clH o x ∧ ∀ C len, gAgr C s → s.2.2.1 ≤ len → clM o C len x) → (∀ t, g_text o c v n f s L = .inl t → t ≤ n) ∧ ∀ s' L', g_text o c v n f s L = .inr (s', L') → gW n 0 0 s s' ∧ s'.1 = n ∧ L'.length ≤ 12 ∧ 1 ≤ L'.length ∧ ∀ x ∈ L', clH o x ∧ ∀ C len, gAgr C s' → s'.2.2.1 ≤ len → clM o C len x
  | 0, s, L, hA, hl, hx => ⟨fun t h => (by cases h; exact hA.1), fun s' L' h => (by cases h)⟩
  | f + 1, s, L, hA, hl, hx => by
    have hc := g_cl_ok (o := o) hT hA
    unfold g_text
    rcases hq : g_cl o c v s with t | ⟨s1, y⟩
    · exact ⟨fun t1 h => (by cases h; exact hc.1 t hq), fun s' L' h => (by cases h)⟩
    · obtain ⟨w1, h1, h2⟩ := hc.2 s1 y hq
      have hA1 := gW_A hA w1
      have hall : ∀ (s2 : gS) (a b : Nat), gW n a b s1 s2 → ∀ x ∈ L ++ [y], clH o x ∧ ∀ C len, gAgr C s2 → s2.2.2.1 ≤ len → clM o C len x := by
        intro s2 a b w2 x hm
        have hu := w2.2.2.2.2.1
        have hu1 := w1.2.2.2.2.1
        rcases List.mem_append.mp hm with h3 | h3
        · exact ⟨(hx x h3).1, fun C len hC hle => (hx x h3).2 C len (gAgr_back (gAgr_back hC w2) w1) (by omega)⟩
        · have : x = y := by simpa using h3
          subst this
          exact ⟨h1, fun C len hC hle => h2 C len (gAgr_back hC w2) (by omega)⟩
      simp only
      by_cases h3 : c s1.1 = 159
      · rw [if_pos h3]
        have w2 := gW_ad hA1 (hT.lt hA1.1 (show c s1.1 ≠ 0 by omega))
        have ih := g_text_ok hT f (g_ad s1) (L ++ [y]) (gW_A hA1 w2) (by simp; omega) (hall _ _ _ w2)
        refine ⟨ih.1, fun s' L' h => ?_⟩
        obtain ⟨k1, k2, k3, k4, k5⟩ := ih.2 s' L' h
        exact ⟨gW_mono (gW_trans (gW_trans w1 w2) k1) (by omega) (by omega), k2, k3, k4, k5⟩
      · rw [if_neg h3]
        by_cases h4 : s1.1 = n
        · rw [if_pos h4]
          refine ⟨fun t h => (by cases h), fun s' L' h => ?_⟩
          cases h
          exact ⟨gW_mono w1 (by omega) (by omega), h4, by simp; omega, by simp, hall _ 0 0 (gW_refl hA1)⟩
        · rw [if_neg h4]
          exact ⟨fun t h => (by cases h; exact hA1.1), fun s' L' h => (by cases h)⟩
