/-! TOKENS: bytes b (0 .. 255), words, numbers -/
def WM : List (List Int) := [[99, 97, 115, 107, 115], [101, 97, 116, 115], [100, 101, 115, 101, 114, 116, 115], [105, 102], [111, 114], [97, 110, 100], [110, 111, 116], [104, 97, 110, 100], [108, 97, 121], [115, 101, 114, 118, 101, 100], [103, 114, 111, 117, 110, 100], [99, 114, 101, 119], [109, 111, 111, 100], [100, 101, 98, 116], [119, 104, 97, 108, 101, 115], [111, 105, 108], [109, 111, 110, 116, 104], [100, 111, 110, 101], [103, 111, 110, 101], [112, 117, 114, 115, 101], [104, 117, 110, 116], [102, 111, 114], [115, 101, 108, 108], [97, 100, 118, 97, 110, 99, 101], [98, 121], [108, 101, 97, 118, 101], [116, 105, 109, 101, 115]]
def WC : List (List Int) := [[104, 97, 110, 100], [108, 97, 121], [100, 101, 98, 116], [115, 101, 114, 118, 101, 100], [103, 114, 111, 117, 110, 100], [119, 104, 97, 108, 101, 115], [111, 105, 108], [99, 114, 101, 119], [109, 111, 110, 116, 104], [109, 111, 111, 100], [100, 111, 110, 101], [103, 111, 110, 101], [112, 117, 114, 115, 101], [99, 97, 115, 107, 115], [101, 97, 116, 115], [100, 101, 115, 101, 114, 116, 115], [104, 117, 110, 116], [115, 101, 108, 108], [97, 100, 118, 97, 110, 99, 101], [108, 101, 97, 118, 101], [102, 111, 114], [98, 121], [116, 105, 109, 101, 115], [105, 102], [111, 114], [97, 110, 100], [110, 111, 116]]
def wfl : List (List Int) → List Int
  | [] => []
  | x :: t => x ++ 32 :: wfl t
def wlN (d : Int) : List (List Int) → Int → List Int → Int
  | [], _, _ => d
  | x :: t, w, sg => if sg = x then w else wlN d t (w + 1) sg
theorem wlN_not {d : Int} : ∀ (L : List (List Int)) (w : Int) (sg : List Int), ¬ sg ∈ L → wlN d L w sg = d
  | [], _, _, _ => rfl
  | x :: t, w, sg, h => by
    simp only [List.mem_cons, not_or] at h
    simp only [wlN]
    rw [if_neg h.1]
    exact wlN_not t (w + 1) sg h.2
theorem w_all : ∀ x ∈ WM, kap (wlN 0 WM 1 x) = wlN 30 WC 0 x := by decide +kernel
theorem w_sub : ∀ x ∈ WC, x ∈ WM := by decide +kernel
theorem w_tie (sg : List Int) : kap (wlN 0 WM 1 sg) = wlN 30 WC 0 sg := by
  by_cases h : sg ∈ WM
  · exact w_all sg h
  · rw [wlN_not WM 1 sg h, wlN_not WC 0 sg (fun h2 => h (w_sub sg h2))]
    decide
theorem wlN_in {d : Int} : ∀ (L : List (List Int)) (w : Int) (sg : List Int), wlN d L w sg = d ∨ (w ≤ wlN d L w sg ∧ wlN d L w sg < w + L.length)
  | [], _, _ => Or.inl rfl
  | x :: t, w, sg => by
    simp only [wlN]
    by_cases h : sg = x
    · rw [if_pos h]; right; simp only [List.length_cons]; omega
    · rw [if_neg h]
      rcases wlN_in t (w + 1) sg with h1 | h1
      · exact Or.inl h1
      · right; simp only [List.length_cons]; omega
def wsg (b : Nat → Int) (k m : Nat) : List Int := (List.range m).map (fun i => b (k + i))
theorem wsg_eq {b : Nat → Int} {k m : Nat} {x : List Int} : wsg b k m = x ↔ m = x.length ∧ ∀ i, i < x.length → b (k + i) = x.getD i 0 := by
  constructor
  · intro h
    subst h
    refine ⟨by simp [wsg], fun i hi => ?_⟩
    have hi' : i < m := by simpa [wsg] using hi
    simp [wsg, hi']
  · rintro ⟨h1, h2⟩
    subst h1
    apply List.ext_getElem
    · simp [wsg]
    · intro i h3 h4
      have := h2 i h4
      simp only [wsg, List.getElem_map, List.getElem_range]
      rw [this, List.getD_eq_getElem?_getD, List.getElem?_eq_getElem h4]
      rfl
def rnL (b : Nat → Int) (size : Nat) : Nat → Nat → Nat
  | 0, k => k
  | f + 1, k => if k < size ∧ 97 ≤ b k ∧ b k ≤ 122 then rnL b size f (k + 1) else k
def rnD (b : Nat → Int) (size : Nat) : Nat → Nat → Nat
  | 0, k => k
  | f + 1, k => if k < size ∧ 48 ≤ b k ∧ b k ≤ 57 then rnD b size f (k + 1) else k
theorem rnL_in (b : Nat → Int) (size : Nat) : ∀ f k, k ≤ size → k ≤ rnL b size f k ∧ rnL b size f k ≤ size ∧ ∀ i, k ≤ i → i < rnL b size f k → 97 ≤ b i ∧ b i ≤ 122
  | 0, k, h => ⟨Nat.le_refl _, h, fun i h1 h2 => by simp only [rnL] at h2; omega⟩
  | f + 1, k, h => by
    unfold rnL
    by_cases h1 : k < size ∧ 97 ≤ b k ∧ b k ≤ 122
    · rw [if_pos h1]
      obtain ⟨a, c, d⟩ := rnL_in b size f (k + 1) h1.1
      refine ⟨by omega, c, fun i h2 h3 => ?_⟩
      by_cases e : i = k
      · subst e; exact h1.2
      · exact d i (by omega) h3
    · rw [if_neg h1]; exact ⟨Nat.le_refl _, h, fun i h2 h3 => by omega⟩
theorem rnD_in (b : Nat → Int) (size : Nat) : ∀ f k, k ≤ size → k ≤ rnD b size f k ∧ rnD b size f k ≤ size ∧ ∀ i, k ≤ i → i < rnD b size f k → 48 ≤ b i ∧ b i ≤ 57
  | 0, k, h => ⟨Nat.le_refl _, h, fun i h1 h2 => by simp only [rnD] at h2; omega⟩
  | f + 1, k, h => by
    unfold rnD
    by_cases h1 : k < size ∧ 48 ≤ b k ∧ b k ≤ 57
    · rw [if_pos h1]
      obtain ⟨a, c, d⟩ := rnD_in b size f (k + 1) h1.1
      refine ⟨by omega, c, fun i h2 h3 => ?_⟩
      by_cases e : i = k
      · subst e; exact h1.2
      · exact d i (by omega) h3
    · rw [if_neg h1]; exact ⟨Nat.le_refl _, h, fun i h2 h3 => by omega⟩
def isL (b : Nat → Int) (k : Nat) : Prop := 97 ≤ b k ∧ b k ≤ 122
def isD (b : Nat → Int) (k : Nat) : Prop := 48 ≤ b k ∧ b k ≤ 57
def tkTo (b : Nat → Int) (size k : Nat) : Nat := if 97 ≤ b k ∧ b k ≤ 122 then rnL b size 401 (k + 1) else if 48 ≤ b k ∧ b k ≤ 57 then rnD b size 401 (k + 1) else k + 1
def vM (b : Nat → Int) : Nat → Nat → Int → Int
  | 0, _, v => v
  | m + 1, k, v => vM b m (k + 1) (if 1000000 < v then v else 10 * v + b k - 48)
def vC (b : Nat → Int) : Nat → Nat → Int → Int
  | 0, _, v => v
  | m + 1, k, v => vC b m (k + 1) (min 1001 (v * 10 + b k - 48))
theorem vM_in {b : Nat → Int} : ∀ (m k : Nat) (v : Int), (∀ i, k ≤ i → i < k + m → 48 ≤ b i ∧ b i ≤ 57) → 0 ≤ v ∧ v ≤ 20000000 → 0 ≤ vM b m k v ∧ vM b m k v ≤ 20000000
  | 0, k, v, _, hv => hv
  | m + 1, k, v, h, hv => by
    have h0 := h k (Nat.le_refl _) (by omega)
    simp only [vM]
    exact vM_in m (k + 1) _ (fun i h1 h2 => h i (by omega) (by omega)) (by split <;> omega)
theorem vCM {b : Nat → Int} : ∀ (m k : Nat) (v : Int), (∀ i, k ≤ i → i < k + m → 48 ≤ b i ∧ b i ≤ 57) → 0 ≤ v → vC b m k (min 1001 v) = min 1001 (vM b m k v)
  | 0, k, v, _, _ => rfl
  | m + 1, k, v, h, hv => by
    have h0 := h k (Nat.le_refl _) (by omega)
    simp only [vM, vC]
    rw [← vCM m (k + 1) _ (fun i h1 h2 => h i (by omega) (by omega)) (by split <;> omega)]
    congr 1
    split <;> omega
theorem vC_in {b : Nat → Int} : ∀ (m k : Nat) (v : Int), (∀ i, k ≤ i → i < k + m → 48 ≤ b i ∧ b i ≤ 57) → 0 ≤ v ∧ v ≤ 1001 → 0 ≤ vC b m k v ∧ vC b m k v ≤ 1001
  | 0, k, v, _, hv => hv
  | m + 1, k, v, h, hv => by
    have h0 := h k (Nat.le_refl _) (by omega)
    simp only [vC]
    exact vC_in m (k + 1) _ (fun i h1 h2 => h i (by omega) (by omega)) (by omega)
/-- a token's number, as both sides have it -/
def mC (b : Nat → Int) (k to : Nat) : Int := if 97 ≤ b k ∧ b k ≤ 122 then wlN 0 WM 1 (wsg b k (to - k)) else if 48 ≤ b k ∧ b k ≤ 57 then 50 else 100 + b k
def mV (b : Nat → Int) (k to : Nat) : Int := if 48 ≤ b k ∧ b k ≤ 57 then vM b (to - k) k 0 else 0
def cC (b : Nat → Int) (k to : Nat) : Int := if 97 ≤ b k ∧ b k ≤ 122 then wlN 30 WC 0 (wsg b k (to - k)) else if 48 ≤ b k ∧ b k ≤ 57 then 31 else 100 + b k
def cV (b : Nat → Int) (k to : Nat) : Int := if 48 ≤ b k ∧ b k ≤ 57 then vC b (to - (k + 1)) (k + 1) (b k - 48) else 0
abbrev tS : Type := Nat × (Nat → Int) × (Nat → Int) × (Nat → Int)
def tkG (cod val : Nat → Nat → Int) (b : Nat → Int) (size : Nat) : Nat → Nat → tS → tS
  | 0, _, s => s
  | f + 1, k, s => if size ≤ k then s else if b k = 32 then tkG cod val b size f (k + 1) s else tkG cod val b size f (tkTo b size k) (s.1 + 1, ku s.2.1 s.1 (cod k (tkTo b size k)), ku s.2.2.1 s.1 (val k (tkTo b size k)), ku s.2.2.2 s.1 (k : Int))
theorem tkTo_in {b : Nat → Int} {size k : Nat} (hk : k < size) : k < tkTo b size k ∧ tkTo b size k ≤ size := by
  unfold tkTo
  split
  · have := rnL_in b size 401 (k + 1) hk; omega
  · split
    · have := rnD_in b size 401 (k + 1) hk; omega
    · omega
/-- what holds of every token that is made holds of all -/
theorem tkG_P {cod1 val1 cod2 val2 : Nat → Nat → Int} {b : Nat → Int} {size : Nat} (Pr : Int → Int → Int → Int → Int → Int → Prop) (hP : ∀ k, k < size → Pr (cod1 k (tkTo b size k)) (val1 k (tkTo b size k)) k (cod2 k (tkTo b size k)) (val2 k (tkTo b size k)) k) : ∀ (f k : Nat) (s1 s2 : tS), k ≤ size → s1.1 ≤ k → s1.1 = s2.1 → (∀ i, i < s1.1 → Pr (s1.2.1 i) (s1.2.2.1 i) (s1.2.2.2 i) (s2.2.1 i) (s2.2.2.1 i) (s2.2.2.2 i)) →
    (tkG cod1 val1 b size f k s1).1 ≤ size ∧ (tkG cod1 val1 b size f k s1).1 = (tkG cod2 val2 b size f k s2).1 ∧ ∀ i, i < (tkG cod1 val1 b size f k s1).1 → Pr ((tkG cod1 val1 b size f k s1).2.1 i) ((tkG cod1 val1 b size f k s1).2.2.1 i) ((tkG cod1 val1 b size f k s1).2.2.2 i) ((tkG cod2 val2 b size f k s2).2.1 i) ((tkG cod2 val2 b size f k s2).2.2.1 i) ((tkG cod2 val2 b size f k s2).2.2.2 i)
  | 0, k, s1, s2, hk, hn, he, h => ⟨by simp only [tkG]; omega, he, h⟩
  | f + 1, k, s1, s2, hk, hn, he, h => by
    unfold tkG
    by_cases h1 : size ≤ k
    · rw [if_pos h1, if_pos h1]; exact ⟨by omega, he, h⟩
    · rw [if_neg h1, if_neg h1]
      by_cases h2 : b k = 32
      · rw [if_pos h2, if_pos h2]
        exact tkG_P Pr hP f (k + 1) s1 s2 (by omega) (by omega) he h
      · rw [if_neg h2, if_neg h2]
        have h3 := tkTo_in (b := b) (show k < size by omega)
        refine tkG_P Pr hP f _ _ _ h3.2 (by show s1.1 + 1 ≤ _; omega) (by show s1.1 + 1 = s2.1 + 1; omega) (fun i hi => ?_)
        have hi : i < s1.1 + 1 := hi
        simp only [ku]
        rw [← he]
        by_cases e : i = s1.1
        · rw [if_pos e, if_pos e, if_pos e, if_pos e, if_pos e, if_pos e]; exact hP k (by omega)
        · rw [if_neg e, if_neg e, if_neg e, if_neg e, if_neg e, if_neg e]; exact h i (by omega)
theorem tok_P {b : Nat → Int} {size k : Nat} (hb : ∀ i, i < size → 0 ≤ b i ∧ b i ≤ 255) (hk : k < size) : (0 ≤ mC b k (tkTo b size k) ∧ mC b k (tkTo b size k) ≤ 355) ∧ 0 ≤ mV b k (tkTo b size k) ∧ cC b k (tkTo b size k) = kap (mC b k (tkTo b size k)) ∧ cV b k (tkTo b size k) = min 1001 (mV b k (tkTo b size k)) := by
  have hbk := hb k hk
  have h3 := tkTo_in (b := b) hk
  by_cases h1 : 97 ≤ b k ∧ b k ≤ 122
  · have h2 : ¬ (48 ≤ b k ∧ b k ≤ 57) := by omega
    unfold mC mV cC cV
    rw [if_pos h1, if_neg h2, if_pos h1, if_neg h2]
    have h4 := wlN_in (d := 0) WM 1 (wsg b k (tkTo b size k - k))
    have h5 : (WM.length : Int) = 27 := by decide
    exact ⟨by omega, by omega, (w_tie _).symm, by decide⟩
  · by_cases h2 : 48 ≤ b k ∧ b k ≤ 57
    · have ht : tkTo b size k = rnD b size 401 (k + 1) := by unfold tkTo; rw [if_neg h1, if_pos h2]
      have hr := rnD_in b size 401 (k + 1) hk
      have hdig : ∀ i, k ≤ i → i < k + (tkTo b size k - k) → 48 ≤ b i ∧ b i ≤ 57 := fun i h4 h5 => by
        by_cases e : i = k
        · subst e; exact h2
        · exact hr.2.2 i (by omega) (by omega)
      unfold mC mV cC cV
      rw [if_neg h1, if_pos h2, if_pos h2, if_neg h1, if_pos h2, if_pos h2]
      have h6 := vM_in (tkTo b size k - k) k 0 hdig (by omega)
      refine ⟨by decide, h6.1, by decide, ?_⟩
      rw [show tkTo b size k - k = (tkTo b size k - (k + 1)) + 1 by omega]
      simp only [vM]
      rw [if_neg (by decide), show (10 : Int) * 0 + b k - 48 = b k - 48 by omega, ← vCM _ _ _ (fun i h4 h5 => hdig i (by omega) (by omega)) (by omega)]
      congr 1
      omega
    · unfold mC mV cC cV
      rw [if_neg h1, if_neg h2, if_neg h2, if_neg h1, if_neg h2, if_neg h2]
      refine ⟨by omega, by decide, ?_, by decide⟩
      unfold kap
      rw [if_pos (by omega)]
