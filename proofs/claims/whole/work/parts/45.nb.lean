/-! no value is the class's sign for BROKEN -/
def gNB (n : Nat) (e : Int → Int → Int) (f : gS → gR) : Prop := ∀ s s' w, gA n s → f s = .inr (s', w) → w e ≠ some zBK
def eNB (e : Int → Int → Int) : Prop := ∀ c k, e c k ≠ zBK
theorem gNB_part {c v : Nat → Int} {n : Nat} {e : Int → Int → Int} {o : Bool} {inner : Option (gS → gR)} (hT : TK c v n) (he : eNB e) (hi : ∀ f, inner = some f → gG n f ∧ gNB n e f) : gNB n e (g_part c v o inner) := by
  intro s s' w hA h
  rcases g_part_inv h with ⟨h1, f, s1, h2, h3, h4, rfl⟩ | ⟨h1, h2, h3, rfl⟩ | ⟨h1, h2, h3, h4, h5, rfl⟩ | ⟨h1, h2, h3, rfl⟩
  · exact (hi f h2).2 _ _ _ (gW_A hA (gW_ad hA (hT.lt hA.1 (by omega)))) h3
  · intro hh
    have := hT.2.2.2 s.1 hA.1
    have h5 : v s.1 = zBK := Option.some.inj hh
    unfold zBK at h5
    omega
  · intro hh; exact he _ _ (Option.some.inj hh)
  · intro hh; exact he _ _ (Option.some.inj hh)
theorem v_join_nb {op : Int} {a b : gV} {e : Int → Int → Int} : v_join op a b e ≠ some zBK := by
  unfold v_join
  split
  · split
    · intro h; cases h
    · rename_i h; intro h2; exact h (Option.some.inj h2)
  · intro h; cases h
theorem gNB_loop {c : Nat → Int} {e : Int → Int → Int} {ops : Int → Int} {el : gS → gR} : ∀ (f : Nat) (s s' : gS) (w w' : gV), w e ≠ some zBK → g_loop c ops el f s w = .inr (s', w') → w' e ≠ some zBK
  | 0, s, s', w, w', hw, h => by cases h; exact hw
  | f + 1, s, s', w, w', hw, h => by
    unfold g_loop at h
    split at h
    · cases h; exact hw
    · obtain ⟨s1, w1, h2, h3⟩ := g_bd_r h
      exact gNB_loop f _ _ _ _ v_join_nb h3
theorem gNB_term {c v : Nat → Int} {n : Nat} {e : Int → Int → Int} {o : Bool} {inner : Option (gS → gR)} (hT : TK c v n) (he : eNB e) (hi : ∀ f, inner = some f → gG n f ∧ gNB n e f) : gNB n e (g_term c v o inner) := by
  intro s s' w hA h
  obtain ⟨s1, w1, h2, h3⟩ := g_bd_r (show g_bd _ _ = _ from h)
  exact gNB_loop 401 _ _ _ _ (gNB_part hT he hi _ _ _ hA h2) h3
theorem gNB_sum {c v : Nat → Int} {n : Nat} {e : Int → Int → Int} {o : Bool} {inner : Option (gS → gR)} (hT : TK c v n) (he : eNB e) (hi : ∀ f, inner = some f → gG n f ∧ gNB n e f) : gNB n e (g_sum c v o inner) := by
  intro s s' w hA h
  obtain ⟨s1, w1, h2, h3⟩ := g_bd_r (show g_bd _ _ = _ from h)
  exact gNB_loop 401 _ _ _ _ (gNB_term hT he hi _ _ _ hA h2) h3
theorem gNB_sumD {c v : Nat → Int} {n : Nat} {e : Int → Int → Int} {o : Bool} (hT : TK c v n) (he : eNB e) : ∀ d, gNB n e (g_sumD c v o d)
  | 0 => gNB_sum hT he (fun f h => by cases h)
  | d + 1 => gNB_sum hT he (fun f h => by cases h; exact ⟨gG_sumD hT d, gNB_sumD hT he d⟩)
def clNB (x : gC) : Prop := ∀ e, eNB e → x.2.1 e ≠ some zBK ∧ x.2.2.1 e ≠ some zBK
theorem v_k_nb {x : Int} (h : x ≠ zBK) {e : Int → Int → Int} : v_k x e ≠ some zBK := fun h2 => h (Option.some.inj h2)
theorem g_law_nb {c v : Nat → Int} {n : Nat} (hT : TK c v n) {s s' : gS} {x : gC} (hA : gA n s) (h : g_law c v s = .inr (s', x)) : clNB x := by
  intro e he
  rcases g_law_inv h with ⟨h1, s1, w, h2, h3⟩ | ⟨h1, h3⟩
  · have h4 := gNB_sumD (o := false) hT he 8 _ _ _ (gW_A hA (gW_ad hA (hT.lt hA.1 (by omega)))) h2
    rcases g_tail_inv h3 with ⟨-, s4, wt, -, -, rfl⟩ | ⟨-, -, rfl⟩
    · exact ⟨h4, v_k_nb (e := e) (by decide)⟩
    · exact ⟨h4, v_k_nb (e := e) (by decide)⟩
  · rcases g_tail_inv h3 with ⟨-, s4, wt, -, -, rfl⟩ | ⟨-, -, rfl⟩
    · exact ⟨v_k_nb (e := e) (by decide), v_k_nb (e := e) (by decide)⟩
    · exact ⟨v_k_nb (e := e) (by decide), v_k_nb (e := e) (by decide)⟩
theorem g_ltext_nb {c v : Nat → Int} {n : Nat} (hT : TK c v n) : ∀ (f : Nat) (s s' : gS) (L L' : List gC), gA n s → (∀ x ∈ L, clNB x) → g_text false c v n f s L = .inr (s', L') → ∀ x ∈ L', clNB x
  | 0, s, s', L, L', hA, hx, h => by cases h
  | f + 1, s, s', L, L', hA, hx, h => by
    obtain ⟨s1, y, h1, h2⟩ := g_text_inv h
    have h1' : g_law c v s = .inr (s1, y) := h1
    have hy := g_law_nb hT hA h1'
    have hA1 := gW_A hA ((g_law_ok hT hA).2 s1 y h1').1
    have hall : ∀ x ∈ L ++ [y], clNB x := fun x hm => by
      rcases List.mem_append.mp hm with h3 | h3
      · exact hx x h3
      · have : x = y := by simpa using h3
        subst this; exact hy
    rcases g_more_inv h2 with ⟨h3, h4⟩ | ⟨h3, h4⟩
    · exact g_ltext_nb hT f _ _ _ _ (gW_A hA1 (gW_ad hA1 (hT.lt hA1.1 (by omega)))) hall h4
    · subst h4; exact hall
