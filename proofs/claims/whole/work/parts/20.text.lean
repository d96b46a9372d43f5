/-! TEXTS, as numbers: how one is read, what code comes of it, what it tells. A state of reading: token, leaves, code used, code. -/
abbrev gS : Type := Nat × Nat × Nat × (Nat → Int)
abbrev gV : Type := (Int → Int → Int) → Option Int
abbrev gR : Type := Nat ⊕ (gS × gV)
def g_bd (x : gR) (f : gS → gV → gR) : gR := match x with
  | .inl t => .inl t
  | .inr q => f q.1 q.2
def g_ad (s : gS) : gS := (s.1 + 1, s.2)
def g_lf (s : gS) : gS := (s.1 + 1, s.2.1 + 1, s.2.2)
def g_em (s : gS) (x : Int) : gS := (s.1, s.2.1, s.2.2.1 + 1, ku s.2.2.2 s.2.2.1 x)
def g_aim (s : gS) (q : Nat) (op : Int) : gS := (s.1, s.2.1, s.2.2.1, ku s.2.2.2 q (op + 16 * (s.2.2.1 : Int)))
def kapL : List Int := [30, 13, 14, 15, 23, 24, 25, 26, 0, 1, 3, 4, 7, 9, 2, 5, 6, 8, 10, 11, 12, 16, 20, 17, 18, 21, 19, 22]
def kap (c : Int) : Int := if 100 ≤ c then c else if c = 50 then 31 else kapL.getD c.toNat 30
def v_join (op : Int) (a b : gV) : gV := fun e => match a e, b e with
  | some x, some y => if zjoin op x y = zBK then none else some (zjoin op x y)
  | _, _ => none
def v_not (a : gV) : gV := fun e => match a e with
  | some x => some (1 - x)
  | none => none
def v_short (op : Int) (a b : gV) : gV := fun e => match a e with
  | some x => if x = (if op = 12 then 1 else 0) then some x else b e
  | none => none
def gop_t (x : Int) : Int := if x = 142 then 5 else if x = 147 then 6 else if x = 137 then 7 else 0
def gop_s (x : Int) : Int := if x = 143 then 3 else if x = 145 then 4 else 0
def gop_c (x : Int) : Int := if x = 160 then 8 else if x = 162 then 9 else if x = 161 then 10 else 0
def g_part (c v : Nat → Int) (o : Bool) (inner : Option (gS → gR)) (s : gS) : gR :=
  if c s.1 = 191 then (match inner with
    | none => .inl s.1
    | some f => g_bd (f (g_ad s)) (fun s1 w => if c s1.1 = 193 then .inr (g_ad s1, w) else .inl s1.1))
  else if s.2.1 = 50 then .inl s.1
  else if c s.1 = 50 ∧ v s.1 ≤ 1000 then .inr (g_em (g_lf s) (1 + 16 * v s.1), fun _ => some (v s.1))
  else if o = true ∧ (c s.1 = 14 ∨ c s.1 = 15) then
    (if c (s.1 + 1) = 50 ∧ v (s.1 + 1) ≤ (if c s.1 = 14 then 7 else 3) then .inr (g_em (g_ad (g_lf s)) (2 + 16 * ((if c s.1 = 14 then 13 else 21) + v (s.1 + 1))), fun e => some (e (c s.1) (v (s.1 + 1)))) else .inl (s.1 + 1))
  else if (if o = true then 14 else 8) ≤ c s.1 ∧ c s.1 ≤ (if o = true then 20 else 17) then .inr (g_em (g_lf s) (2 + 16 * kap (c s.1)), fun e => some (e (c s.1) 0))
  else .inl s.1
def g_loop (c : Nat → Int) (ops : Int → Int) (el : gS → gR) : Nat → gS → gV → gR
  | 0, s, w => .inr (s, w)
  | f + 1, s, w => if ops (c s.1) = 0 then .inr (s, w) else g_bd (el (g_ad s)) (fun s1 w1 => g_loop c ops el f (g_em s1 (ops (c s.1))) (v_join (ops (c s.1)) w w1))
def g_term (c v : Nat → Int) (o : Bool) (inner : Option (gS → gR)) (s : gS) : gR := g_bd (g_part c v o inner s) (g_loop c gop_t (g_part c v o inner) 401)
def g_sum (c v : Nat → Int) (o : Bool) (inner : Option (gS → gR)) (s : gS) : gR := g_bd (g_term c v o inner s) (g_loop c gop_s (g_term c v o inner) 401)
def g_sumD (c v : Nat → Int) (o : Bool) : Nat → gS → gR
  | 0 => g_sum c v o none
  | d + 1 => g_sum c v o (some (g_sumD c v o d))
def g_nots (c : Nat → Int) : Nat → Nat → Bool → Nat × Bool
  | 0, t, b => (t, b)
  | f + 1, t, b => if c t = 7 then g_nots c f (t + 1) (!b) else (t, b)
def g_pos (c v : Nat → Int) (o : Bool) (d : Nat) (inner : Option (gS → gR)) (s : gS) : gR :=
  if c s.1 = 140 then (match inner with
    | none => .inl s.1
    | some f => g_bd (f (g_ad s)) (fun s1 w => if c s1.1 = 141 then .inr (g_ad s1, w) else .inl s1.1))
  else g_bd (g_sumD c v o d s) (fun s1 a => if gop_c (c s1.1) = 0 then .inl s1.1 else g_bd (g_sumD c v o d (g_ad s1)) (fun s2 b => .inr (g_em s2 (gop_c (c s1.1)), v_join (gop_c (c s1.1)) a b)))
def g_neg (b : Bool) (r : gR) : gR := g_bd r (fun s w => if b = true then .inr (g_em s 11, v_not w) else .inr (s, w))
def g_plain (c v : Nat → Int) (o : Bool) (d : Nat) (inner : Option (gS → gR)) (s : gS) : gR :=
  g_neg (g_nots c 401 s.1 false).2 (g_pos c v o d inner ((g_nots c 401 s.1 false).1, s.2))
def g_chain (c : Nat → Int) (tok op : Int) (el : gS → gR) : Nat → gS → gV → gR
  | 0, s, w => .inr (s, w)
  | f + 1, s, w => if c s.1 = tok then g_bd (el (g_em (g_ad s) op)) (fun s1 w1 => g_chain c tok op el f (g_aim s1 s.2.2.1 op) (v_short op w w1)) else .inr (s, w)
def g_both (c v : Nat → Int) (o : Bool) (d : Nat) (inner : Option (gS → gR)) (s : gS) : gR := g_bd (g_plain c v o d inner s) (g_chain c 6 13 (g_plain c v o d inner) 401)
def g_test (c v : Nat → Int) (o : Bool) (d : Nat) (inner : Option (gS → gR)) (s : gS) : gR := g_bd (g_both c v o d inner s) (g_chain c 5 12 (g_both c v o d inner) 401)
def g_testD (c v : Nat → Int) (o : Bool) : Nat → gS → gR
  | 0 => g_test c v o 0 none
  | d + 1 => g_test c v o (d + 1) (some (g_testD c v o d))
/-- tokens that can be -/
def TK (c v : Nat → Int) (n : Nat) : Prop := n ≤ 400 ∧ c n = 0 ∧ (∀ i, i ≤ n → 0 ≤ c i ∧ c i ≤ 355) ∧ (∀ i, i ≤ n → 0 ≤ v i)
theorem TK.lt {c v : Nat → Int} {n t : Nat} (h : TK c v n) (ht : t ≤ n) (hc : c t ≠ 0) : t < n := by
  rcases Nat.lt_or_ge t n with h1 | h1
  · exact h1
  · have : t = n := by omega
    subst this
    exact absurd h.2.1 hc
theorem g_bd_r {x : gR} {f : gS → gV → gR} {q : gS × gV} (h : g_bd x f = .inr q) : ∃ s w, x = .inr (s, w) ∧ f s w = .inr q := by
  rcases x with t | ⟨s, w⟩
  · simp [g_bd] at h
  · exact ⟨s, w, rfl, h⟩
theorem g_bd_l {x : gR} {f : gS → gV → gR} {t : Nat} (h : g_bd x f = .inl t) : x = .inl t ∨ ∃ s w, x = .inr (s, w) ∧ f s w = .inl t := by
  rcases x with t1 | ⟨s, w⟩
  · left; simpa [g_bd] using h
  · exact Or.inr ⟨s, w, rfl, h⟩
def gA (n : Nat) (s : gS) : Prop := s.1 ≤ n ∧ s.2.1 ≤ 50 ∧ s.2.2.1 ≤ s.1
/-- from s to s': what was read, what was laid -/
def gW (n a b : Nat) (s s' : gS) : Prop := s.1 + a ≤ s'.1 ∧ s'.1 ≤ n ∧ s.2.1 + b ≤ s'.2.1 ∧ s'.2.1 ≤ 50 ∧ s.2.2.1 + b ≤ s'.2.2.1 ∧ s'.2.2.1 + s.1 ≤ s.2.2.1 + s'.1 ∧ (∀ i, i < s.2.2.1 → s'.2.2.2 i = s.2.2.2 i) ∧ (∀ i, s.2.2.1 ≤ i → i < s'.2.2.1 → 0 ≤ s'.2.2.2 i ∧ s'.2.2.2 i ≤ 100000)
def gG (n : Nat) (f : gS → gR) : Prop := ∀ s, gA n s → (∀ t, f s = .inl t → t ≤ n) ∧ ∀ s' w, f s = .inr (s', w) → gW n 1 1 s s'
theorem gW_refl {n : Nat} {s : gS} (h : gA n s) : gW n 0 0 s s := ⟨by omega, h.1, by omega, h.2.1, by omega, by omega, fun _ _ => rfl, fun i h1 h2 => by omega⟩
theorem gW_trans {n a b a' b' : Nat} {s s1 s2 : gS} (h : gW n a b s s1) (h' : gW n a' b' s1 s2) : gW n (a + a') (b + b') s s2 := by
  obtain ⟨h1, h2, h3, h4, h5, h6, h7, h8⟩ := h
  obtain ⟨k1, k2, k3, k4, k5, k6, k7, k8⟩ := h'
  refine ⟨by omega, k2, by omega, k4, by omega, by omega, fun i hi => by rw [k7 i (by omega), h7 i hi], fun i h9 h10 => ?_⟩
  by_cases h11 : i < s1.2.2.1
  · rw [k7 i h11]; exact h8 i h9 h11
  · exact k8 i (by omega) h10
theorem gW_mono {n a b a' b' : Nat} {s s1 : gS} (h : gW n a b s s1) (ha : a' ≤ a) (hb : b' ≤ b) : gW n a' b' s s1 := by
  obtain ⟨h1, h2, h3, h4, h5, h6, h7, h8⟩ := h
  exact ⟨by omega, h2, by omega, h4, by omega, h6, h7, h8⟩
theorem gW_A {n a b : Nat} {s s1 : gS} (h : gA n s) (h1 : gW n a b s s1) : gA n s1 := by
  obtain ⟨k1, k2, k3, k4, k5, k6, k7, k8⟩ := h1
  exact ⟨k2, k4, by have := h.2.2; omega⟩
theorem gW_ad {n : Nat} {s : gS} (h : gA n s) (ht : s.1 < n) : gW n 1 0 s (g_ad s) := ⟨Nat.le_refl _, ht, Nat.le_refl _, h.2.1, Nat.le_refl _, by show s.2.2.1 + s.1 ≤ s.2.2.1 + (s.1 + 1); omega, fun _ _ => rfl, fun i h1 h2 => by have h2 : i < s.2.2.1 := h2; omega⟩
/-- a token read and code laid for it -/
theorem gW_em {n a b : Nat} {s s1 : gS} {x : Int} (h : gW n a b s s1) (hx : 0 ≤ x ∧ x ≤ 100000) (hu : s1.2.2.1 + 1 + s.1 ≤ s.2.2.1 + s1.1) : gW n a b s (g_em s1 x) := by
  obtain ⟨h1, h2, h3, h4, h5, h6, h7, h8⟩ := h
  refine ⟨h1, h2, h3, h4, by simp [g_em]; omega, by simp [g_em]; omega, fun i hi => ?_, fun i h9 h10 => ?_⟩
  · simp only [g_em, ku]; rw [if_neg (by omega)]; exact h7 i hi
  · simp only [g_em, ku] at h10 ⊢
    by_cases e : i = s1.2.2.1
    · rw [if_pos e]; exact hx
    · rw [if_neg e]; exact h8 i h9 (by omega)
theorem gW_lf {n : Nat} {s : gS} {x : Int} (h : gA n s) (ht : s.1 < n) (hl : s.2.1 ≠ 50) (hx : 0 ≤ x ∧ x ≤ 100000) : gW n 1 1 s (g_em (g_lf s) x) := by
  have := h.2.1
  refine ⟨by simp [g_em, g_lf], by simp [g_em, g_lf]; omega, by simp [g_em, g_lf], by simp [g_em, g_lf]; omega, by simp [g_em, g_lf], by simp [g_em, g_lf]; omega, fun i hi => ?_, fun i h9 h10 => ?_⟩
  · simp only [g_em, g_lf, ku]; rw [if_neg (by omega)]
  · simp only [g_em, g_lf, ku] at h10 ⊢; rw [if_pos (by omega)]; exact hx
theorem kap_in : ∀ c : Nat, c < 356 → 0 ≤ kap c ∧ kap c ≤ 355 := by decide +kernel
theorem kap_in' {c : Int} (h : 0 ≤ c ∧ c ≤ 355) : 0 ≤ kap c ∧ kap c ≤ 355 := by
  have h1 := kap_in c.toNat (by omega)
  rw [Int.toNat_of_nonneg h.1] at h1
  exact h1
theorem gop_t_in (x : Int) : gop_t x = 0 ∨ ((5 ≤ gop_t x ∧ gop_t x ≤ 7) ∧ x ≠ 0) := by
  unfold gop_t
  repeat' split
  all_goals omega
theorem gop_s_in (x : Int) : gop_s x = 0 ∨ ((3 ≤ gop_s x ∧ gop_s x ≤ 7) ∧ x ≠ 0) := by
  unfold gop_s
  repeat' split
  all_goals omega
theorem gop_c_in (x : Int) : gop_c x = 0 ∨ ((8 ≤ gop_c x ∧ gop_c x ≤ 10) ∧ x ≠ 0) := by
  unfold gop_c
  repeat' split
  all_goals omega
theorem gG_part {c v : Nat → Int} {n : Nat} {o : Bool} {inner : Option (gS → gR)} (hT : TK c v n) (hi : ∀ f, inner = some f → gG n f) : gG n (g_part c v o inner) := by
  intro s hA
  have hc := hT.2.2.1 s.1 hA.1
  have hv := hT.2.2.2
  unfold g_part
  by_cases h1 : c s.1 = 191
  · rw [if_pos h1]
    have ht := hT.lt hA.1 (by omega)
    rcases inner with _ | f
    · exact ⟨fun t h => by cases h; omega, fun s' w h => by cases h⟩
    · have ha := gW_ad hA ht
      have hf := hi f rfl (g_ad s) (gW_A hA ha)
      refine ⟨fun t h => ?_, fun s' w h => ?_⟩
      · rcases g_bd_l h with h | ⟨s1, w1, h2, h3⟩
        · exact hf.1 t h
        · have hw := hf.2 s1 w1 h2
          split at h3
          · cases h3
          · cases h3; exact hw.2.1
      · obtain ⟨s1, w1, h2, h3⟩ := g_bd_r h
        have hw := hf.2 s1 w1 h2
        split at h3
        · rename_i h4
          cases h3
          have h5 := gW_trans ha hw
          exact gW_mono (gW_trans h5 (gW_ad (gW_A hA h5) (hT.lt hw.2.1 (by omega)))) (by omega) (by omega)
        · cases h3
  · rw [if_neg h1]
    by_cases h2 : s.2.1 = 50
    · rw [if_pos h2]; exact ⟨fun t h => by cases h; exact hA.1, fun s' w h => by cases h⟩
    · rw [if_neg h2]
      by_cases h3 : c s.1 = 50 ∧ v s.1 ≤ 1000
      · rw [if_pos h3]
        have := hv s.1 hA.1
        exact ⟨fun t h => (by cases h), fun s' w h => by cases h; exact gW_lf hA (hT.lt hA.1 (by omega)) h2 (by omega)⟩
      · rw [if_neg h3]
        by_cases h4 : o = true ∧ (c s.1 = 14 ∨ c s.1 = 15)
        · rw [if_pos h4]
          have h6 := h4.2
          have ht := hT.lt hA.1 (show c s.1 ≠ 0 by omega)
          by_cases h5 : c (s.1 + 1) = 50 ∧ v (s.1 + 1) ≤ (if c s.1 = 14 then 7 else 3)
          · rw [if_pos h5]
            have h7 := hv (s.1 + 1) ht
            have h8 : v (s.1 + 1) ≤ 7 := by have := h5.2; split at this <;> omega
            have h9 := hT.lt (t := s.1 + 1) ht (by omega)
            refine ⟨fun t h => (by cases h), fun s' w h => ?_⟩
            cases h
            have := hA.2.1
            refine ⟨by simp [g_em, g_lf, g_ad], by simp [g_em, g_lf, g_ad]; omega, by simp [g_em, g_lf, g_ad], by simp [g_em, g_lf, g_ad]; omega, by simp [g_em, g_lf, g_ad], by simp [g_em, g_lf, g_ad]; omega, fun i hi => ?_, fun i h10 h11 => ?_⟩
            · simp only [g_em, g_lf, g_ad, ku]; rw [if_neg (by omega)]
            · simp only [g_em, g_lf, g_ad, ku] at h11 ⊢; rw [if_pos (by omega)]; split <;> omega
          · rw [if_neg h5]; exact ⟨fun t h => by cases h; exact ht, fun s' w h => by cases h⟩
        · rw [if_neg h4]
          by_cases h5 : (if o = true then 14 else 8) ≤ c s.1 ∧ c s.1 ≤ (if o = true then 20 else 17)
          · rw [if_pos h5]
            have h6 := kap_in' hc
            exact ⟨fun t h => (by cases h), fun s' w h => by cases h; exact gW_lf hA (hT.lt hA.1 (by have := h5.1; split at this <;> omega)) h2 (by omega)⟩
          · rw [if_neg h5]; exact ⟨fun t h => by cases h; exact hA.1, fun s' w h => by cases h⟩
theorem gG_loop {c v : Nat → Int} {n : Nat} {ops : Int → Int} {el : gS → gR} (hT : TK c v n) (ho : ∀ x, ops x = 0 ∨ ((3 ≤ ops x ∧ ops x ≤ 7) ∧ x ≠ 0)) (he : gG n el) : ∀ (f : Nat) (s : gS) (w : gV), gA n s → (∀ t, g_loop c ops el f s w = .inl t → t ≤ n) ∧ ∀ s' w', g_loop c ops el f s w = .inr (s', w') → gW n 0 0 s s'
  | 0, s, w, hA => ⟨fun t h => (by cases h), fun s' w' h => by cases h; exact gW_refl hA⟩
  | f + 1, s, w, hA => by
    unfold g_loop
    rcases ho (c s.1) with h0 | ⟨h0, h1⟩
    · rw [if_pos h0]; exact ⟨fun t h => (by cases h), fun s' w' h => by cases h; exact gW_refl hA⟩
    · rw [if_neg (by omega)]
      have ha := gW_ad hA (hT.lt hA.1 h1)
      have hA1 := gW_A hA ha
      have hf := he (g_ad s) hA1
      have key : ∀ s1 w1, el (g_ad s) = .inr (s1, w1) → gW n 2 1 s (g_em s1 (ops (c s.1))) := fun s1 w1 h2 => by
        have hw := gW_trans ha (hf.2 s1 w1 h2)
        have h3 := (hf.2 s1 w1 h2).2.2.2.2.2.1
        exact gW_em hw (by omega) (by simp only [g_ad] at h3; omega)
      refine ⟨fun t h => ?_, fun s' w' h => ?_⟩
      · rcases g_bd_l h with h | ⟨s1, w1, h2, h3⟩
        · exact hf.1 t h
        · exact (gG_loop hT ho he f _ _ (gW_A hA (key s1 w1 h2))).1 t h3
      · obtain ⟨s1, w1, h2, h3⟩ := g_bd_r h
        have k := key s1 w1 h2
        exact gW_mono (gW_trans k ((gG_loop hT ho he f _ _ (gW_A hA k)).2 s' w' h3)) (by omega) (by omega)
theorem gG_bd {n : Nat} {f : gS → gR} {g : gS → gV → gR} (hf : gG n f) (hg : ∀ s w, gA n s → (∀ t, g s w = .inl t → t ≤ n) ∧ ∀ s' w', g s w = .inr (s', w') → gW n 0 0 s s') : gG n (fun s => g_bd (f s) g) := by
  intro s hA
  refine ⟨fun t h => ?_, fun s' w' h => ?_⟩
  · rcases g_bd_l h with h | ⟨s1, w1, h2, h3⟩
    · exact (hf s hA).1 t h
    · exact (hg s1 w1 (gW_A hA ((hf s hA).2 s1 w1 h2))).1 t h3
  · obtain ⟨s1, w1, h2, h3⟩ := g_bd_r h
    have k := (hf s hA).2 s1 w1 h2
    exact gW_mono (gW_trans k ((hg s1 w1 (gW_A hA k)).2 s' w' h3)) (by omega) (by omega)
theorem gop_t_in' (x : Int) : gop_t x = 0 ∨ ((3 ≤ gop_t x ∧ gop_t x ≤ 7) ∧ x ≠ 0) := by rcases gop_t_in x with h | h <;> omega
theorem gG_term {c v : Nat → Int} {n : Nat} {o : Bool} {inner : Option (gS → gR)} (hT : TK c v n) (hi : ∀ f, inner = some f → gG n f) : gG n (g_term c v o inner) :=
  gG_bd (gG_part hT hi) (fun s w hA => gG_loop hT gop_t_in' (gG_part hT hi) 401 s w hA)
theorem gG_sum {c v : Nat → Int} {n : Nat} {o : Bool} {inner : Option (gS → gR)} (hT : TK c v n) (hi : ∀ f, inner = some f → gG n f) : gG n (g_sum c v o inner) :=
  gG_bd (gG_term hT hi) (fun s w hA => gG_loop hT gop_s_in (gG_term hT hi) 401 s w hA)
theorem gG_sumD {c v : Nat → Int} {n : Nat} {o : Bool} (hT : TK c v n) : ∀ d, gG n (g_sumD c v o d)
  | 0 => gG_sum hT (fun f h => by cases h)
  | d + 1 => gG_sum hT (fun f h => by cases h; exact gG_sumD hT d)
theorem g_nots_in {c v : Nat → Int} {n : Nat} (hT : TK c v n) : ∀ (f t : Nat) (b : Bool), t ≤ n → t ≤ (g_nots c f t b).1 ∧ (g_nots c f t b).1 ≤ n ∧ ((g_nots c f t b).2 ≠ b → t < (g_nots c f t b).1)
  | 0, t, b, h => ⟨by simp [g_nots], by simp [g_nots]; exact h, by simp [g_nots]⟩
  | f + 1, t, b, h => by
    unfold g_nots
    by_cases h7 : c t = 7
    · rw [if_pos h7]
      have := g_nots_in hT f (t + 1) (!b) (hT.lt h (by omega))
      exact ⟨by omega, this.2.1, fun _ => by omega⟩
    · rw [if_neg h7]; exact ⟨Nat.le_refl _, h, fun h => absurd rfl h⟩
theorem gG_pos {c v : Nat → Int} {n : Nat} {o : Bool} {d : Nat} {inner : Option (gS → gR)} (hT : TK c v n) (hi : ∀ f, inner = some f → gG n f) : gG n (g_pos c v o d inner) := by
  intro s hA
  have hS := gG_sumD (o := o) hT d
  unfold g_pos
  by_cases h1 : c s.1 = 140
  · rw [if_pos h1]
    have ht := hT.lt hA.1 (by omega)
    rcases inner with _ | f
    · exact ⟨fun t h => by cases h; omega, fun s' w h => by cases h⟩
    · have ha := gW_ad hA ht
      have hf := hi f rfl (g_ad s) (gW_A hA ha)
      refine ⟨fun t h => ?_, fun s' w h => ?_⟩
      · rcases g_bd_l h with h | ⟨s1, w1, h2, h3⟩
        · exact hf.1 t h
        · have hw := hf.2 s1 w1 h2
          split at h3
          · cases h3
          · cases h3; exact hw.2.1
      · obtain ⟨s1, w1, h2, h3⟩ := g_bd_r h
        have hw := hf.2 s1 w1 h2
        split at h3
        · rename_i h4
          cases h3
          have h5 := gW_trans ha hw
          exact gW_mono (gW_trans h5 (gW_ad (gW_A hA h5) (hT.lt hw.2.1 (by omega)))) (by omega) (by omega)
        · cases h3
  · rw [if_neg h1]
    refine ⟨fun t h => ?_, fun s' w h => ?_⟩
    · rcases g_bd_l h with h | ⟨s1, w1, h2, h3⟩
      · exact (hS s hA).1 t h
      · have hw := (hS s hA).2 s1 w1 h2
        rcases gop_c_in (c s1.1) with h4 | h4
        · rw [if_pos h4] at h3; cases h3; exact hw.2.1
        · rw [if_neg (by omega)] at h3
          have ha := gW_ad (gW_A hA hw) (hT.lt hw.2.1 h4.2)
          rcases g_bd_l h3 with h5 | ⟨s2, w2, h5, h6⟩
          · exact (hS _ (gW_A (gW_A hA hw) ha)).1 t h5
          · cases h6
    · obtain ⟨s1, w1, h2, h3⟩ := g_bd_r h
      have hw := (hS s hA).2 s1 w1 h2
      rcases gop_c_in (c s1.1) with h4 | h4
      · rw [if_pos h4] at h3; cases h3
      · rw [if_neg (by omega)] at h3
        have ha := gW_ad (gW_A hA hw) (hT.lt hw.2.1 h4.2)
        obtain ⟨s2, w2, h5, h6⟩ := g_bd_r h3
        have hw2 := (hS _ (gW_A (gW_A hA hw) ha)).2 s2 w2 h5
        have h9 := gW_trans (gW_trans hw ha) hw2
        have e1 := hw.2.2.2.2.2.1
        have e2 := hw2.2.2.2.2.2.1
        simp only [g_ad] at e2
        cases h6
        exact gW_mono (gW_em h9 (by omega) (by omega)) (by omega) (by omega)
theorem gG_plain {c v : Nat → Int} {n : Nat} {o : Bool} {d : Nat} {inner : Option (gS → gR)} (hT : TK c v n) (hi : ∀ f, inner = some f → gG n f) : gG n (g_plain c v o d inner) := by
  intro s hA
  have hn := g_nots_in hT 401 s.1 false hA.1
  have hA1 : gA n ((g_nots c 401 s.1 false).1, s.2) := ⟨hn.2.1, hA.2.1, by have := hA.2.2; show s.2.2.1 ≤ _; omega⟩
  have hp := gG_pos (o := o) (d := d) hT hi _ hA1
  unfold g_plain g_neg
  refine ⟨fun t h => ?_, fun s' w h => ?_⟩
  · rcases g_bd_l h with h | ⟨s1, w1, h2, h3⟩
    · exact hp.1 t h
    · split at h3 <;> cases h3
  · obtain ⟨s1, w1, h2, h3⟩ := g_bd_r h
    have hw := hp.2 s1 w1 h2
    obtain ⟨k1, k2, k3, k4, k5, k6, k7, k8⟩ := hw
    have hw' : gW n 1 1 s s1 := ⟨by show s.1 + 1 ≤ s1.1; simp only at k1; omega, k2, k3, k4, k5, by simp only at k6; omega, k7, k8⟩
    split at h3
    · rename_i h4
      cases h3
      have h5 := hn.2.2 (by rw [h4]; decide)
      exact gW_em hw' (by omega) (by simp only at k6; omega)
    · cases h3; exact hw'
theorem gG_chain {c v : Nat → Int} {n : Nat} {tok op : Int} {el : gS → gR} (hT : TK c v n) (ht : tok ≠ 0) (hop : 0 ≤ op ∧ op < 16) (he : gG n el) : ∀ (f : Nat) (s : gS) (w : gV), gA n s → (∀ t, g_chain c tok op el f s w = .inl t → t ≤ n) ∧ ∀ s' w', g_chain c tok op el f s w = .inr (s', w') → gW n 0 0 s s'
  | 0, s, w, hA => ⟨fun t h => (by cases h), fun s' w' h => by cases h; exact gW_refl hA⟩
  | f + 1, s, w, hA => by
    unfold g_chain
    by_cases h0 : c s.1 = tok
    · rw [if_pos h0]
      have ha := gW_ad hA (hT.lt hA.1 (by rw [h0]; exact ht))
      have ha2 : gW n 1 0 s (g_em (g_ad s) op) := gW_em ha (by omega) (by simp only [g_ad]; omega)
      have hA1 := gW_A hA ha2
      have hf := he _ hA1
      have key : ∀ s1 w1, el (g_em (g_ad s) op) = .inr (s1, w1) → gW n 2 1 s (g_aim s1 s.2.2.1 op) := fun s1 w1 h2 => by
        have hw := gW_trans ha2 (hf.2 s1 w1 h2)
        have h9 := (gW_A hA hw)
        obtain ⟨k1, k2, k3, k4, k5, k6, k7, k8⟩ := hw
        refine ⟨k1, k2, k3, k4, k5, k6, fun i hi => ?_, fun i h3 h4 => ?_⟩
        · simp only [g_aim, ku]; rw [if_neg (by omega)]; exact k7 i hi
        · simp only [g_aim, ku] at h4 ⊢
          by_cases e : i = s.2.2.1
          · rw [if_pos e]
            have := h9.2.2
            have := h9.1
            have := hT.1
            omega
          · rw [if_neg e]; exact k8 i h3 h4
      refine ⟨fun t h => ?_, fun s' w' h => ?_⟩
      · rcases g_bd_l h with h | ⟨s1, w1, h2, h3⟩
        · exact hf.1 t h
        · exact (gG_chain hT ht hop he f _ _ (gW_A hA (key s1 w1 h2))).1 t h3
      · obtain ⟨s1, w1, h2, h3⟩ := g_bd_r h
        have k := key s1 w1 h2
        exact gW_mono (gW_trans k ((gG_chain hT ht hop he f _ _ (gW_A hA k)).2 s' w' h3)) (by omega) (by omega)
    · rw [if_neg h0]; exact ⟨fun t h => (by cases h), fun s' w' h => by cases h; exact gW_refl hA⟩
theorem gG_both {c v : Nat → Int} {n : Nat} {o : Bool} {d : Nat} {inner : Option (gS → gR)} (hT : TK c v n) (hi : ∀ f, inner = some f → gG n f) : gG n (g_both c v o d inner) :=
  gG_bd (gG_plain hT hi) (fun s w hA => gG_chain hT (by decide) (by decide) (gG_plain hT hi) 401 s w hA)
theorem gG_test {c v : Nat → Int} {n : Nat} {o : Bool} {d : Nat} {inner : Option (gS → gR)} (hT : TK c v n) (hi : ∀ f, inner = some f → gG n f) : gG n (g_test c v o d inner) :=
  gG_bd (gG_both hT hi) (fun s w hA => gG_chain hT (by decide) (by decide) (gG_both hT hi) 401 s w hA)
theorem gG_testD {c v : Nat → Int} {n : Nat} {o : Bool} (hT : TK c v n) : ∀ d, gG n (g_testD c v o d)
  | 0 => gG_test hT (fun f h => by cases h)
  | d + 1 => gG_test hT (fun f h => by cases h; exact gG_testD hT d)
