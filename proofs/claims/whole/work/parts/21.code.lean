/-! WHAT THE CLASS'S MACHINE MAKES OF THE CODE -/
section MS
variable {C V : Nat → Int} {len n size p : Nat} {stk : Nat → Int}
theorem mach_num {w : Int} (hp : p < len) (hs : size < 64) (hC : C p = 1 + 16 * w) : mach C len V (n + 1) size p stk = mach C len V n (size + 1) (p + 1) (ku stk size w) := by
  simp only [mach]
  rw [if_neg (by omega), if_neg (by omega), if_neg (by omega), if_pos (by omega), if_pos (by omega), show C p / 16 = w by omega]
theorem mach_val {w : Int} (hp : p < len) (hs : size < 64) (hC : C p = 2 + 16 * w) (hw : w < 25) : mach C len V (n + 1) size p stk = mach C len V n (size + 1) (p + 1) (ku stk size (V w.toNat)) := by
  simp only [mach]
  rw [if_neg (by omega), if_neg (by omega), if_neg (by omega), if_pos (by omega), if_neg (by omega), show C p / 16 = w by omega]
theorem mach_bin {op : Int} (hp : p < len) (hs : size < 64) (h2 : 2 ≤ size) (hC : C p = op) (hop : 3 ≤ op ∧ op ≤ 10) : mach C len V (n + 1) size p stk = (if zjoin op (stk (size - 2)) (stk (size - 1)) = zBK then zBK else mach C len V n (size - 1) (p + 1) (ku stk (size - 2) (zjoin op (stk (size - 2)) (stk (size - 1))))) := by
  have e : C p % 16 = op := by omega
  simp only [mach]
  rw [if_neg (by omega), if_neg (by omega), if_neg (by omega), if_neg (by omega), if_neg (by omega), if_neg (by omega), if_neg (by omega), if_neg (by omega), e]
theorem mach_not (hp : p < len) (hs : size < 64) (h1 : 1 ≤ size) (hC : C p = 11) : mach C len V (n + 1) size p stk = mach C len V n size (p + 1) (ku stk (size - 1) (1 - stk (size - 1))) := by
  simp only [mach]
  rw [if_neg (by omega), if_neg (by omega), if_neg (by omega), if_neg (by omega), if_neg (by omega), if_pos (by omega)]
theorem mach_jmp {op w : Int} (hp : p < len) (hs : size < 64) (h1 : 1 ≤ size) (hop : op = 12 ∨ op = 13) (hC : C p = op + 16 * w) : mach C len V (n + 1) size p stk = (if stk (size - 1) = (if op = 12 then 1 else 0) then mach C len V n size w.toNat stk else mach C len V n (size - 1) (p + 1) stk) := by
  have e : C p % 16 = op := by omega
  have e2 : C p / 16 = w := by omega
  simp only [mach]
  rw [if_neg (by omega), if_neg (by omega), if_neg (by omega), if_neg (by omega), if_neg (by omega), if_neg (by omega), if_pos (by omega), e, e2]
end MS
def gO (x : Option Int) (f : Int → Int) : Int := match x with
  | none => zBK
  | some a => f a
def gM (C : Nat → Int) (len : Nat) (V : Nat → Int) (e : Int → Int → Int) (s s' : gS) (w : gV) : Prop := ∀ (z : Nat) (stk : Nat → Int), z ≤ s.2.1 → ∃ (j : Nat) (stk' : Nat → Int), j ≤ s'.2.2.1 - s.2.2.1 ∧ (∀ i, i < z → stk' i = stk i) ∧ ∀ f, j ≤ f → mach C len V f z s.2.2.1 stk = gO (w e) (fun x => mach C len V (f - j) (z + 1) s'.2.2.1 (ku stk' z x))
def gM2 (C : Nat → Int) (len : Nat) (V : Nat → Int) (e : Int → Int → Int) (s s' : gS) (w w' : gV) : Prop := (w e = none → w' e = none) ∧ ∀ (z : Nat) (stk : Nat → Int) (a : Int), z + 1 ≤ s.2.1 → w e = some a → ∃ (j : Nat) (stk' : Nat → Int), j ≤ s'.2.2.1 - s.2.2.1 ∧ (∀ i, i < z → stk' i = stk i) ∧ ∀ f, j ≤ f → mach C len V f (z + 1) s.2.2.1 (ku stk z a) = gO (w' e) (fun x => mach C len V (f - j) (z + 1) s'.2.2.1 (ku stk' z x))
theorem gM_comp {C : Nat → Int} {len : Nat} {V : Nat → Int} {e : Int → Int → Int} {s s1 s' : gS} {w w' : gV} (h : gM C len V e s s1 w) (h2 : gM2 C len V e s1 s' w w') (hl : s.2.1 + 1 ≤ s1.2.1) (hu : s.2.2.1 ≤ s1.2.2.1 ∧ s1.2.2.1 ≤ s'.2.2.1) : gM C len V e s s' w' := by
  intro z stk hz
  obtain ⟨j, stk1, hj, ha, hm⟩ := h z stk hz
  cases hw : w e with
  | none => exact ⟨j, stk1, by omega, ha, fun f hf => by rw [hm f hf, hw, h2.1 hw]; rfl⟩
  | some a =>
    obtain ⟨j2, stk2, hj2, ha2, hm2⟩ := h2.2 z stk1 a (by omega) hw
    refine ⟨j + j2, stk2, by omega, fun i hi => by rw [ha2 i hi, ha i hi], fun f hf => ?_⟩
    rw [hm f (by omega), hw]
    show mach C len V (f - j) _ _ _ = _
    rw [hm2 (f - j) (by omega), show f - j - j2 = f - (j + j2) by omega]
theorem gM2_refl {C : Nat → Int} {len : Nat} {V : Nat → Int} {e : Int → Int → Int} {s : gS} {w : gV} : gM2 C len V e s s w w := ⟨fun h => h, fun z stk a _ h => ⟨0, stk, by omega, fun _ _ => rfl, fun f _ => by rw [h]; rfl⟩⟩
theorem gM2_trans {C : Nat → Int} {len : Nat} {V : Nat → Int} {e : Int → Int → Int} {s s1 s2 : gS} {w w1 w2 : gV} (h : gM2 C len V e s s1 w w1) (h2 : gM2 C len V e s1 s2 w1 w2) (hl : s.2.1 ≤ s1.2.1) (hu : s.2.2.1 ≤ s1.2.2.1 ∧ s1.2.2.1 ≤ s2.2.2.1) : gM2 C len V e s s2 w w2 := by
  refine ⟨fun hn => h2.1 (h.1 hn), fun z stk a hz ha => ?_⟩
  obtain ⟨j, stk1, hj, hs, hm⟩ := h.2 z stk a hz ha
  cases hw : w1 e with
  | none => exact ⟨j, stk1, by omega, hs, fun f hf => by rw [hm f hf, hw, h2.1 hw]; rfl⟩
  | some b =>
    obtain ⟨j2, stk2, hj2, hs2, hm2⟩ := h2.2 z stk1 b (by omega) hw
    refine ⟨j + j2, stk2, by omega, fun i hi => by rw [hs2 i hi, hs i hi], fun f hf => ?_⟩
    rw [hm f (by omega), hw]
    show mach C len V (f - j) _ _ _ = _
    rw [hm2 (f - j) (by omega), show f - j - j2 = f - (j + j2) by omega]
def gAg (C : Nat → Int) (s s' : gS) : Prop := ∀ i, s.2.2.1 ≤ i → i < s'.2.2.1 → C i = s'.2.2.2 i
def gK (n len : Nat) (V : Nat → Int) (e : Int → Int → Int) (g : gS → gR) : Prop := ∀ (s s' : gS) (w : gV) (C : Nat → Int), gA n s → g s = .inr (s', w) → s'.2.2.1 ≤ len → gAg C s s' → gM C len V e s s' w
def gK2 (n len : Nat) (V : Nat → Int) (e : Int → Int → Int) (g : gS → gV → gR) : Prop := ∀ (s s' : gS) (w w' : gV) (C : Nat → Int), gA n s → 1 ≤ s.2.1 → g s w = .inr (s', w') → s'.2.2.1 ≤ len → gAg C s s' → gM2 C len V e s s' w w'
def EV (o : Bool) (V : Nat → Int) (e : Int → Int → Int) : Prop := (∀ x : Int, (if o = true then 16 else 8) ≤ x → x ≤ (if o = true then 20 else 17) → V (kap x).toNat = e x 0) ∧ (o = true → (∀ k : Int, 0 ≤ k → k ≤ 7 → V (13 + k).toNat = e 14 k) ∧ (∀ k : Int, 0 ≤ k → k ≤ 3 → V (21 + k).toNat = e 15 k))
theorem kap_25 : ∀ c : Nat, c < 21 → 8 ≤ c → 0 ≤ kap c ∧ kap c < 25 := by decide +kernel
theorem kap_25' {c : Int} (h : 8 ≤ c ∧ c ≤ 20) : 0 ≤ kap c ∧ kap c < 25 := by
  have h1 := kap_25 c.toNat (by omega) (by omega)
  rw [Int.toNat_of_nonneg (by omega)] at h1
  exact h1
theorem gAg_cut {C : Nat → Int} {n a b : Nat} {s s1 s' : gS} (h : gAg C s s') (h1 : s.2.2.1 ≤ s1.2.2.1) (hw : gW n a b s1 s') : gAg C s s1 := fun i h2 h3 => by
  have := hw.2.2.2.2.1
  rw [h i h2 (by omega)]
  exact hw.2.2.2.2.2.2.1 i h3
theorem gAg_rest {C : Nat → Int} {s s1 s' : gS} (h : gAg C s s') (h1 : s.2.2.1 ≤ s1.2.2.1) : gAg C s1 s' := fun i h2 h3 => h i (by omega) h3
theorem gM_one {C : Nat → Int} {len : Nat} {V : Nat → Int} {e : Int → Int → Int} {s : gS} {w : gV} {t l : Nat} {x y : Int} (h : ∀ (f z : Nat) (stk : Nat → Int), z < 64 → mach C len V (f + 1) z s.2.2.1 stk = mach C len V f (z + 1) (s.2.2.1 + 1) (ku stk z y)) (hw : w e = some y) (hl : s.2.1 ≤ 50) : gM C len V e s (t, l, s.2.2.1 + 1, ku s.2.2.2 s.2.2.1 x) w := by
  intro z stk hz
  refine ⟨1, stk, by simp, fun _ _ => rfl, fun f hf => ?_⟩
  obtain ⟨f, rfl⟩ : ∃ g, f = g + 1 := ⟨f - 1, by omega⟩
  rw [h f z stk (by omega), hw]
  rfl
theorem gK_part {c v : Nat → Int} {n len : Nat} {V : Nat → Int} {e : Int → Int → Int} {o : Bool} {inner : Option (gS → gR)} (hT : TK c v n) (hE : EV o V e) (hi : ∀ f, inner = some f → gG n f ∧ gK n len V e f) : gK n len V e (g_part c v o inner) := by
  intro s s' w C hA hg hu hC
  have hv := hT.2.2.2
  unfold g_part at hg
  by_cases h1 : c s.1 = 191
  · rw [if_pos h1] at hg
    have ht := hT.lt hA.1 (by omega)
    rcases inner with _ | f
    · cases hg
    · obtain ⟨s1, w1, h2, h3⟩ := g_bd_r hg
      have ha := gW_ad hA ht
      split at h3
      · cases h3
        exact (hi f rfl).2 (g_ad s) s1 w C (gW_A hA ha) h2 hu hC
      · cases h3
  · rw [if_neg h1] at hg
    by_cases h2 : s.2.1 = 50
    · rw [if_pos h2] at hg; cases hg
    · rw [if_neg h2] at hg
      by_cases h3 : c s.1 = 50 ∧ v s.1 ≤ 1000
      · rw [if_pos h3] at hg
        cases hg
        have hc : C s.2.2.1 = 1 + 16 * v s.1 := by rw [hC s.2.2.1 (Nat.le_refl _) (by simp [g_em, g_lf])]; simp [g_em, g_lf, ku]
        simp only [g_em, g_lf] at hu
        exact gM_one (fun f z stk hz => mach_num (by omega) hz hc) rfl hA.2.1
      · rw [if_neg h3] at hg
        by_cases h4 : o = true ∧ (c s.1 = 14 ∨ c s.1 = 15)
        · rw [if_pos h4] at hg
          by_cases h5 : c (s.1 + 1) = 50 ∧ v (s.1 + 1) ≤ (if c s.1 = 14 then 7 else 3)
          · rw [if_pos h5] at hg
            cases hg
            have h7 := hv (s.1 + 1) (hT.lt hA.1 (show c s.1 ≠ 0 by have := h4.2; omega))
            have h8 := h5.2
            have hc : C s.2.2.1 = 2 + 16 * ((if c s.1 = 14 then 13 else 21) + v (s.1 + 1)) := by rw [hC s.2.2.1 (Nat.le_refl _) (by simp [g_em, g_lf, g_ad])]; simp [g_em, g_lf, g_ad, ku]
            simp only [g_em, g_lf, g_ad] at hu
            have hq := hE.2 h4.1
            refine gM_one (y := e (c s.1) (v (s.1 + 1))) (fun f z stk hz => ?_) rfl hA.2.1
            rw [mach_val (by omega) hz hc (by split at h8 <;> split <;> omega)]
            congr 2
            by_cases h9 : c s.1 = 14
            · rw [if_pos h9] at h8 ⊢; rw [h9]; exact hq.1 _ h7 h8
            · rw [if_neg h9] at h8 ⊢; rw [show c s.1 = 15 by omega]; exact hq.2 _ h7 h8
          · rw [if_neg h5] at hg; cases hg
        · rw [if_neg h4] at hg
          by_cases h5 : (if o = true then 14 else 8) ≤ c s.1 ∧ c s.1 ≤ (if o = true then 20 else 17)
          · rw [if_pos h5] at hg
            cases hg
            have h6 : 8 ≤ c s.1 ∧ c s.1 ≤ 20 := by have := h5.1; have := h5.2; split at * <;> omega
            have h7 := kap_25' h6
            have hc : C s.2.2.1 = 2 + 16 * kap (c s.1) := by rw [hC s.2.2.1 (Nat.le_refl _) (by simp [g_em, g_lf])]; simp [g_em, g_lf, ku]
            simp only [g_em, g_lf] at hu
            refine gM_one (y := e (c s.1) 0) (fun f z stk hz => ?_) rfl hA.2.1
            rw [mach_val (by omega) hz hc h7.2]
            congr 2
            cases o with
            | true => exact hE.1 _ (by have := h5.1; simp at this h4 ⊢; omega) (by have := h5.2; simp at this ⊢; omega)
            | false => exact hE.1 _ (by have := h5.1; simp at this ⊢; omega) (by have := h5.2; simp at this ⊢; omega)
          · rw [if_neg h5] at hg; cases hg
theorem ku_ku {f : Nat → Int} {i : Nat} {x y : Int} : ku (ku f i x) i y = ku f i y := by
  funext j; simp only [ku]; split <;> rfl
theorem gK_loop {c v : Nat → Int} {n len : Nat} {V : Nat → Int} {e : Int → Int → Int} {ops : Int → Int} {el : gS → gR} (hT : TK c v n) (ho : ∀ x, ops x = 0 ∨ ((3 ≤ ops x ∧ ops x ≤ 7) ∧ x ≠ 0)) (he : gG n el) (hk : gK n len V e el) : ∀ f, gK2 n len V e (g_loop c ops el f)
  | 0, s, s', w, w', C, hA, h1, hg, hu, hC => by cases hg; exact gM2_refl
  | f + 1, s, s', w, w', C, hA, h1, hg, hu, hC => by
    unfold g_loop at hg
    rcases ho (c s.1) with h0 | ⟨h0, h2⟩
    · rw [if_pos h0] at hg; cases hg; exact gM2_refl
    · rw [if_neg (by omega)] at hg
      obtain ⟨s1, w1, h3, h4⟩ := g_bd_r hg
      have ha := gW_ad hA (hT.lt hA.1 h2)
      have hA1 := gW_A hA ha
      have hw := (he (g_ad s) hA1).2 s1 w1 h3
      have hw1 := gW_trans ha hw
      have h5 := hw.2.2.2.2.2.1
      have hem : gW n 2 1 s (g_em s1 (ops (c s.1))) := gW_em hw1 (by omega) (by simp only [g_ad] at h5; omega)
      have hA2 := gW_A hA hem
      have hr := (gG_loop hT ho he f _ _ hA2).2 s' w' h4
      have hlv := hw1.2.2.1
      have hus := hw1.2.2.2.2.1
      have hur := hr.2.2.2.2.1
      simp only [g_em] at hur
      have hm := hk (g_ad s) s1 w1 C hA1 h3 (by omega) (fun i h6 h7 => by
        have h6 : s.2.2.1 ≤ i := h6
        rw [hC i h6 (by omega), hr.2.2.2.2.2.2.1 i (by simp only [g_em]; omega)]
        simp only [g_em, ku]; rw [if_neg (by omega)])
      have hop : C s1.2.2.1 = ops (c s.1) := by
        rw [hC s1.2.2.1 (by omega) (by omega), hr.2.2.2.2.2.2.1 s1.2.2.1 (by simp only [g_em]; omega)]
        simp [g_em, ku]
      have hlr := hr.2.2.1
      have hl50 := hw.2.2.2.1
      have hrest := gK_loop hT ho he hk f _ s' _ w' C hA2 (by simp only [g_em]; omega) h4 hu (gAg_rest hC (by simp only [g_em]; omega))
      refine gM2_trans (s1 := g_em s1 (ops (c s.1))) (w1 := v_join (ops (c s.1)) w w1) ⟨fun hn => by simp [v_join, hn], fun z stk a hz hwa => ?_⟩ hrest (by simp only [g_em]; omega) ⟨by simp only [g_em]; omega, by simp only [g_em]; omega⟩
      obtain ⟨j, stk1, hj, hs1, hmm⟩ := hm (z + 1) (ku stk z a) hz
      have hj : j ≤ s1.2.2.1 - s.2.2.1 := hj
      cases hw1e : w1 e with
      | none =>
        refine ⟨j, stk1, by simp only [g_em]; omega, fun i hi => by rw [hs1 i (by omega)]; simp only [ku]; rw [if_neg (by omega)], fun g hg => ?_⟩
        have := hmm g hg
        rw [hw1e] at this
        rw [show v_join (ops (c s.1)) w w1 e = none by simp [v_join, hwa, hw1e]]
        exact this
      | some b =>
        refine ⟨j + 1, ku stk1 (z + 1) b, by simp only [g_em]; omega, fun i hi => by simp only [ku]; rw [if_neg (by omega), hs1 i (by omega)]; simp only [ku]; rw [if_neg (by omega)], fun g hg => ?_⟩
        have h8 := hmm g (by omega)
        rw [hw1e] at h8
        have h9 : mach C len V g (z + 1) s.2.2.1 (ku stk z a) = mach C len V (g - j) (z + 1 + 1) s1.2.2.1 (ku stk1 (z + 1) b) := h8
        rw [h9, show g - j = g - (j + 1) + 1 by omega, mach_bin (by omega) (by omega) (by omega) hop (by omega)]
        have e1 : ku stk1 (z + 1) b (z + 1 + 1 - 2) = a := by
          rw [show z + 1 + 1 - 2 = z by omega]
          simp only [ku]; rw [if_neg (by omega), hs1 z (by omega)]; simp [ku]
        have e2 : ku stk1 (z + 1) b (z + 1 + 1 - 1) = b := by rw [show z + 1 + 1 - 1 = z + 1 by omega]; simp [ku]
        rw [e1, e2]
        by_cases hb : zjoin (ops (c s.1)) a b = zBK
        · rw [if_pos hb, show v_join (ops (c s.1)) w w1 e = none by simp [v_join, hwa, hw1e, hb]]; rfl
        · rw [if_neg hb, show v_join (ops (c s.1)) w w1 e = some (zjoin (ops (c s.1)) a b) by simp [v_join, hwa, hw1e, hb]]; rfl
theorem gK_bd {n len : Nat} {V : Nat → Int} {e : Int → Int → Int} {f : gS → gR} {g : gS → gV → gR} (hf : gG n f) (hk : gK n len V e f) (hg : ∀ s w, gA n s → (∀ t, g s w = .inl t → t ≤ n) ∧ ∀ s' w', g s w = .inr (s', w') → gW n 0 0 s s') (hk2 : gK2 n len V e g) : gK n len V e (fun s => g_bd (f s) g) := by
  intro s s' w' C hA h hu hC
  obtain ⟨s1, w1, h2, h3⟩ := g_bd_r h
  have k := (hf s hA).2 s1 w1 h2
  have k2 := (hg s1 w1 (gW_A hA k)).2 s' w' h3
  have a1 := k.2.2.2.2.1
  have a2 := k2.2.2.2.2.1
  have a3 := k.2.2.1
  exact gM_comp (hk s s1 w1 C hA h2 (by omega) (gAg_cut hC (by omega) k2)) (hk2 s1 s' w1 w' C (gW_A hA k) (by omega) h3 hu (gAg_rest hC (by omega))) a3 ⟨by omega, by omega⟩
theorem gK_term {c v : Nat → Int} {n len : Nat} {V : Nat → Int} {e : Int → Int → Int} {o : Bool} {inner : Option (gS → gR)} (hT : TK c v n) (hE : EV o V e) (hi : ∀ f, inner = some f → gG n f ∧ gK n len V e f) : gK n len V e (g_term c v o inner) :=
  gK_bd (gG_part hT (fun f h => (hi f h).1)) (gK_part hT hE hi) (fun s w hA => gG_loop hT gop_t_in' (gG_part hT (fun f h => (hi f h).1)) 401 s w hA) (gK_loop hT gop_t_in' (gG_part hT (fun f h => (hi f h).1)) (gK_part hT hE hi) 401)
theorem gK_sum {c v : Nat → Int} {n len : Nat} {V : Nat → Int} {e : Int → Int → Int} {o : Bool} {inner : Option (gS → gR)} (hT : TK c v n) (hE : EV o V e) (hi : ∀ f, inner = some f → gG n f ∧ gK n len V e f) : gK n len V e (g_sum c v o inner) :=
  gK_bd (gG_term hT (fun f h => (hi f h).1)) (gK_term hT hE hi) (fun s w hA => gG_loop hT gop_s_in (gG_term hT (fun f h => (hi f h).1)) 401 s w hA) (gK_loop hT gop_s_in (gG_term hT (fun f h => (hi f h).1)) (gK_term hT hE hi) 401)
theorem gK_sumD {c v : Nat → Int} {n len : Nat} {V : Nat → Int} {e : Int → Int → Int} {o : Bool} (hT : TK c v n) (hE : EV o V e) : ∀ d, gK n len V e (g_sumD c v o d)
  | 0 => gK_sum hT hE (fun f h => by cases h)
  | d + 1 => gK_sum hT hE (fun f h => by cases h; exact ⟨gG_sumD hT d, gK_sumD hT hE d⟩)
theorem gK_pos {c v : Nat → Int} {n len : Nat} {V : Nat → Int} {e : Int → Int → Int} {o : Bool} {d : Nat} {inner : Option (gS → gR)} (hT : TK c v n) (hE : EV o V e) (hi : ∀ f, inner = some f → gG n f ∧ gK n len V e f) : gK n len V e (g_pos c v o d inner) := by
  intro s s' w C hA hg hu hC
  have hS := gG_sumD (o := o) hT d
  have hK := gK_sumD (len := len) hT hE d
  unfold g_pos at hg
  by_cases h1 : c s.1 = 140
  · rw [if_pos h1] at hg
    have ht := hT.lt hA.1 (by omega)
    rcases inner with _ | f
    · cases hg
    · obtain ⟨s1, w1, h2, h3⟩ := g_bd_r hg
      have ha := gW_ad hA ht
      split at h3
      · cases h3
        exact (hi f rfl).2 (g_ad s) s1 w C (gW_A hA ha) h2 hu hC
      · cases h3
  · rw [if_neg h1] at hg
    obtain ⟨s1, w1, h2, h3⟩ := g_bd_r hg
    have hw := (hS s hA).2 s1 w1 h2
    rcases gop_c_in (c s1.1) with h4 | h4
    · rw [if_pos h4] at h3; cases h3
    · rw [if_neg (by omega)] at h3
      have ha := gW_ad (gW_A hA hw) (hT.lt hw.2.1 h4.2)
      have hA1 := gW_A (gW_A hA hw) ha
      obtain ⟨s2, w2, h5, h6⟩ := g_bd_r h3
      have hw2 := (hS _ hA1).2 s2 w2 h5
      cases h6
      have u1 := hw.2.2.2.2.1
      have u2 := hw2.2.2.2.2.1
      have l1 := hw.2.2.1
      have l2 := hw2.2.2.1
      have l3 := hw2.2.2.2.1
      simp only [g_ad] at u2 l2
      simp only [g_em] at hu
      have c1 : gAg C (g_ad s1) s2 := fun i h7 h8 => by
        have h7 : s1.2.2.1 ≤ i := h7
        rw [hC i (by omega) (by simp only [g_em]; omega)]; simp only [g_em, ku]; rw [if_neg (by omega)]
      have c2 : gAg C s s1 := fun i h7 h8 => by
        rw [hC i h7 (by simp only [g_em]; omega)]; simp only [g_em, ku]; rw [if_neg (by omega)]; exact hw2.2.2.2.2.2.2.1 i h8
      have hop : C s2.2.2.1 = gop_c (c s1.1) := by rw [hC s2.2.2.1 (by omega) (by simp only [g_em]; omega)]; simp [g_em, ku]
      refine gM_comp (hK s s1 w1 C hA h2 (by omega) c2) (w' := v_join (gop_c (c s1.1)) w1 w2) ⟨fun hn => by simp [v_join, hn], fun z stk a hz hwa => ?_⟩ l1 ⟨by omega, by simp only [g_em]; omega⟩
      obtain ⟨j, stk1, hj, hs1, hmm⟩ := hK (g_ad s1) s2 w2 C hA1 h5 (by omega) c1 (z + 1) (ku stk z a) hz
      have hj : j ≤ s2.2.2.1 - s1.2.2.1 := hj
      cases hw1e : w2 e with
      | none =>
        refine ⟨j, stk1, by simp only [g_em]; omega, fun i hi => by rw [hs1 i (by omega)]; simp only [ku]; rw [if_neg (by omega)], fun g hg => ?_⟩
        have := hmm g hg
        rw [hw1e] at this
        rw [show v_join (gop_c (c s1.1)) w1 w2 e = none by simp [v_join, hwa, hw1e]]
        exact this
      | some b =>
        refine ⟨j + 1, ku stk1 (z + 1) b, by simp only [g_em]; omega, fun i hi => by simp only [ku]; rw [if_neg (by omega), hs1 i (by omega)]; simp only [ku]; rw [if_neg (by omega)], fun g hg => ?_⟩
        have h8 := hmm g (by omega)
        rw [hw1e] at h8
        have h9 : mach C len V g (z + 1) s1.2.2.1 (ku stk z a) = mach C len V (g - j) (z + 1 + 1) s2.2.2.1 (ku stk1 (z + 1) b) := h8
        rw [h9, show g - j = g - (j + 1) + 1 by omega, mach_bin (by omega) (by omega) (by omega) hop (by omega)]
        have e1 : ku stk1 (z + 1) b (z + 1 + 1 - 2) = a := by
          rw [show z + 1 + 1 - 2 = z by omega]
          simp only [ku]; rw [if_neg (by omega), hs1 z (by omega)]; simp [ku]
        have e2 : ku stk1 (z + 1) b (z + 1 + 1 - 1) = b := by rw [show z + 1 + 1 - 1 = z + 1 by omega]; simp [ku]
        rw [e1, e2]
        by_cases hb : zjoin (gop_c (c s1.1)) a b = zBK
        · rw [if_pos hb, show v_join (gop_c (c s1.1)) w1 w2 e = none by simp [v_join, hwa, hw1e, hb]]; rfl
        · rw [if_neg hb, show v_join (gop_c (c s1.1)) w1 w2 e = some (zjoin (gop_c (c s1.1)) a b) by simp [v_join, hwa, hw1e, hb]]; rfl
theorem gK_plain {c v : Nat → Int} {n len : Nat} {V : Nat → Int} {e : Int → Int → Int} {o : Bool} {d : Nat} {inner : Option (gS → gR)} (hT : TK c v n) (hE : EV o V e) (hi : ∀ f, inner = some f → gG n f ∧ gK n len V e f) : gK n len V e (g_plain c v o d inner) := by
  intro s s' w C hA hg hu hC
  have hn := g_nots_in hT 401 s.1 false hA.1
  have hA1 : gA n ((g_nots c 401 s.1 false).1, s.2) := ⟨hn.2.1, hA.2.1, by have := hA.2.2; show s.2.2.1 ≤ _; omega⟩
  have hp := gG_pos (o := o) (d := d) hT (fun f h => (hi f h).1) _ hA1
  have hk := gK_pos (d := d) hT hE hi
  unfold g_plain g_neg at hg
  obtain ⟨s1, w1, h2, h3⟩ := g_bd_r hg
  have hw := hp.2 s1 w1 h2
  split at h3
  · cases h3
    have u1 : s.2.2.1 + 1 ≤ s1.2.2.1 := hw.2.2.2.2.1
    have l1 : s.2.1 + 1 ≤ s1.2.1 := hw.2.2.1
    have l2 := hw.2.2.2.1
    simp only [g_em] at hu
    have c1 : gAg C ((g_nots c 401 s.1 false).1, s.2) s1 := fun i h7 h8 => by
      have h7 : s.2.2.1 ≤ i := h7
      rw [hC i h7 (by simp only [g_em]; omega)]; simp only [g_em, ku]; rw [if_neg (by omega)]
    have hop : C s1.2.2.1 = 11 := by rw [hC s1.2.2.1 (by omega) (by simp only [g_em]; omega)]; simp [g_em, ku]
    have h5' := hk ((g_nots c 401 s.1 false).1, s.2) s1 w1 C hA1 h2 (by omega) c1
    have h5 : gM C len V e s s1 w1 := h5'
    refine gM_comp (w' := v_not w1) h5 ⟨fun hn => by simp [v_not, hn], fun z stk a hz hwa => ⟨1, stk, by simp only [g_em]; omega, fun _ _ => rfl, fun g hg => ?_⟩⟩ l1 ⟨by omega, by simp only [g_em]; omega⟩
    rw [show v_not w1 e = some (1 - a) by simp [v_not, hwa], show g = g - 1 + 1 by omega, mach_not (by omega) (by omega) (by omega) hop]
    rw [show z + 1 - 1 = z by omega, ku_eq, ku_ku]
    show _ = mach C len V (g - 1 + 1 - 1) (z + 1) (s1.2.2.1 + 1) _
    rw [show g - 1 + 1 - 1 = g - 1 by omega]
  · cases h3
    exact hk ((g_nots c 401 s.1 false).1, s.2) s' w C hA1 h2 hu hC
theorem gK_chain {c v : Nat → Int} {n len : Nat} {V : Nat → Int} {e : Int → Int → Int} {tok op : Int} {el : gS → gR} (hT : TK c v n) (ht : tok ≠ 0) (hop : op = 12 ∨ op = 13) (he : gG n el) (hk : gK n len V e el) : ∀ f, gK2 n len V e (g_chain c tok op el f)
  | 0, s, s', w, w', C, hA, h1, hg, hu, hC => by cases hg; exact gM2_refl
  | f + 1, s, s', w, w', C, hA, h1, hg, hu, hC => by
    unfold g_chain at hg
    by_cases h0 : c s.1 = tok
    · rw [if_pos h0] at hg
      obtain ⟨s1, w1, h3, h4⟩ := g_bd_r hg
      have ha := gW_ad hA (hT.lt hA.1 (by rw [h0]; exact ht))
      have ha2 : gW n 1 0 s (g_em (g_ad s) op) := gW_em ha (by omega) (by simp only [g_ad]; omega)
      have hA1 := gW_A hA ha2
      have hw := (he _ hA1).2 s1 w1 h3
      have hw1 := gW_trans ha2 hw
      have h9 := gW_A hA hw1
      have haim : gW n 2 1 s (g_aim s1 s.2.2.1 op) := by
        obtain ⟨k1, k2, k3, k4, k5, k6, k7, k8⟩ := hw1
        refine ⟨k1, k2, k3, k4, k5, k6, fun i hi => ?_, fun i h3 h4 => ?_⟩
        · simp only [g_aim, ku]; rw [if_neg (by omega)]; exact k7 i hi
        · simp only [g_aim, ku] at h4 ⊢
          by_cases e : i = s.2.2.1
          · rw [if_pos e]
            have := h9.2.2
            have := h9.1
            have := hT.1
            omega
          · rw [if_neg e]; exact k8 i h3 h4
      have hA2 := gW_A hA haim
      have hr := (gG_chain hT ht (by omega) he f _ _ hA2).2 s' w' h4
      have hur : s1.2.2.1 + 0 ≤ s'.2.2.1 := hr.2.2.2.2.1
      have hus : s.2.2.1 + 1 + 1 ≤ s1.2.2.1 := hw.2.2.2.2.1
      have hls : s.2.1 + 1 ≤ s1.2.1 := hw.2.2.1
      have hl50 := hw.2.2.2.1
      have c1 : gAg C (g_em (g_ad s) op) s1 := fun i h7 h8 => by
        have h7 : s.2.2.1 + 1 ≤ i := h7
        rw [hC i (by omega) (by omega), hr.2.2.2.2.2.2.1 i h8]
        simp only [g_aim, ku]; rw [if_neg (by omega)]
      have hm := hk _ s1 w1 C hA1 h3 (by omega) c1
      have hj0 : C s.2.2.1 = op + 16 * (s1.2.2.1 : Int) := by
        rw [hC s.2.2.1 (by omega) (by omega), hr.2.2.2.2.2.2.1 s.2.2.1 (by show s.2.2.1 < s1.2.2.1; omega)]
        simp [g_aim, ku]
      have hrest := gK_chain hT ht hop he hk f _ s' _ w' C hA2 (by simp only [g_aim]; omega) h4 hu (gAg_rest hC (by simp only [g_aim]; omega))
      refine gM2_trans (s1 := g_aim s1 s.2.2.1 op) (w1 := v_short op w w1) ⟨fun hn => by simp [v_short, hn], fun z stk a hz hwa => ?_⟩ hrest (by simp only [g_aim]; omega) ⟨by simp only [g_aim]; omega, by simp only [g_aim]; omega⟩
      by_cases hx : a = (if op = 12 then 1 else 0)
      · refine ⟨1, stk, by simp only [g_aim]; omega, fun _ _ => rfl, fun g hg => ?_⟩
        rw [show v_short op w w1 e = some a by simp only [v_short, hwa]; rw [if_pos hx], show g = g - 1 + 1 by omega, mach_jmp (by omega) (by omega) (by omega) hop hj0, show z + 1 - 1 = z by omega, ku_eq, if_pos hx, Int.toNat_natCast]
        show _ = mach C len V (g - 1 + 1 - 1) (z + 1) s1.2.2.1 _
        rw [show g - 1 + 1 - 1 = g - 1 by omega]
      · obtain ⟨j, stk1, hj, hs1, hmm⟩ := hm z (ku stk z a) (by show z ≤ s.2.1; omega)
        have hj : j ≤ s1.2.2.1 - (s.2.2.1 + 1) := hj
        refine ⟨j + 1, stk1, by simp only [g_aim]; omega, fun i hi => by rw [hs1 i hi]; simp only [ku]; rw [if_neg (by omega)], fun g hg => ?_⟩
        rw [show v_short op w w1 e = w1 e by simp only [v_short, hwa]; rw [if_neg hx], show g = g - 1 + 1 by omega, mach_jmp (by omega) (by omega) (by omega) hop hj0, show z + 1 - 1 = z by omega, ku_eq, if_neg hx]
        have h8 : mach C len V (g - 1) z (s.2.2.1 + 1) (ku stk z a) = _ := hmm (g - 1) (by omega)
        rw [h8, show g - 1 + 1 - (j + 1) = g - 1 - j by omega]
        rfl
    · rw [if_neg h0] at hg; cases hg; exact gM2_refl
theorem gK_both {c v : Nat → Int} {n len : Nat} {V : Nat → Int} {e : Int → Int → Int} {o : Bool} {d : Nat} {inner : Option (gS → gR)} (hT : TK c v n) (hE : EV o V e) (hi : ∀ f, inner = some f → gG n f ∧ gK n len V e f) : gK n len V e (g_both c v o d inner) :=
  gK_bd (gG_plain hT (fun f h => (hi f h).1)) (gK_plain hT hE hi) (fun s w hA => gG_chain hT (by decide) (by decide) (gG_plain hT (fun f h => (hi f h).1)) 401 s w hA) (gK_chain hT (by decide) (Or.inr rfl) (gG_plain hT (fun f h => (hi f h).1)) (gK_plain hT hE hi) 401)
theorem gK_test {c v : Nat → Int} {n len : Nat} {V : Nat → Int} {e : Int → Int → Int} {o : Bool} {d : Nat} {inner : Option (gS → gR)} (hT : TK c v n) (hE : EV o V e) (hi : ∀ f, inner = some f → gG n f ∧ gK n len V e f) : gK n len V e (g_test c v o d inner) :=
  gK_bd (gG_both hT (fun f h => (hi f h).1)) (gK_both hT hE hi) (fun s w hA => gG_chain hT (by decide) (by decide) (gG_both hT (fun f h => (hi f h).1)) 401 s w hA) (gK_chain hT (by decide) (Or.inl rfl) (gG_both hT (fun f h => (hi f h).1)) (gK_both hT hE hi) 401)
theorem gK_testD {c v : Nat → Int} {n len : Nat} {V : Nat → Int} {e : Int → Int → Int} {o : Bool} (hT : TK c v n) (hE : EV o V e) : ∀ d, gK n len V e (g_testD c v o d)
  | 0 => gK_test hT hE (fun f h => by cases h)
  | d + 1 => gK_test hT hE (fun f h => by cases h; exact ⟨gG_testD hT d, gK_testD hT hE d⟩)
/-- a SUM's or a TEST's code, run from its first step to its stop -/
theorem gK_run {n len : Nat} {V : Nat → Int} {e : Int → Int → Int} {g : gS → gR} {s s' : gS} {w : gV} {C : Nat → Int} {stk : Nat → Int} (hG : gG n g) (hk : gK n len V e g) (hA : gA n s) (hg : g s = .inr (s', w)) (hu : s'.2.2.1 < len) (hC : gAg C s s') (h0 : C s'.2.2.1 = 0) : mach C len V len 0 s.2.2.1 stk = (w e).getD zBK := by
  obtain ⟨j, stk', hj, -, hm⟩ := hk s s' w C hA hg (by omega) hC 0 stk (by omega)
  have hw := (hG s hA).2 s' w hg
  rw [hm len (by omega)]
  cases hwe : w e with
  | none => rfl
  | some x =>
    show mach C len V (len - j) 1 s'.2.2.1 (ku stk' 0 x) = x
    cases hq : len - j with
    | zero => simp [mach, ku]
    | succ q =>
      simp only [mach]
      rw [if_neg (by omega), if_pos (by rw [h0]; decide)]
      simp [ku]
