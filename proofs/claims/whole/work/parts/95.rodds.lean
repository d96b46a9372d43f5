/-! odds, on the reference's side -/
theorem zct_hi {full : Nat} {ch c : Nat → Int} {t s : Nat} (h : t + 3 < s) : ∀ w, w ≤ 4 → zct full ch c t s w = 0
  | 0, _ => rfl
  | w + 1, hw => by
    show zct full ch c t s w + _ = 0
    rw [zct_hi h w (by omega), if_neg (by omega)]
    decide
theorem zcr_sup {full : Nat} {ch : Nat → Int} : ∀ m t, 3 * m < t → zcr full ch m t = 0
  | 0, t, h => by show (if t = 0 then (1000000000000 : Int) else 0) = 0; rw [if_neg (by omega)]
  | m + 1, t, h => by
    have key : ∀ n, zsu full ch (zcr full ch m) t n = 0 := by
      intro n
      induction n with
      | zero => rfl
      | succ n ih =>
        show zsu full ch (zcr full ch m) t n + _ = 0
        rcases Nat.lt_or_ge (3 * m) n with h1 | h1
        · rw [ih, zct_0 (zcr_sup m n h1)]; decide
        · rw [ih, zct_hi (by omega) 4 (Nat.le_refl _)]; decide
    exact key _
/-- the oils that can be -/
def zOK (k : Nat → Int) (e n : Int) (full : Nat) : Prop := (1 ≤ e ∧ e ≤ 99) ∧ (∀ t : Nat, t < full → k 0 + (t : Int) * e < k 73) ∧ (k 73 ≤ k 0 + (full : Int) * e ∨ (full : Int) = 3 * n)
theorem zOK_of {k : Nat → Int} (hi : KI k) {e n : Int} (he : 1 ≤ e ∧ e ≤ 99) (hn : 0 ≤ n ∧ n ≤ 24) : zOK k e n (zful k e n) := by
  have i1 := hi.1
  obtain ⟨h1, h2, h3⟩ := zful_in hi he hn
  have a1 : ∀ x : Int, x ≤ (k 73 - k 0 + e - 1) / e ↔ x * e ≤ k 73 - k 0 + e - 1 := fun x => Int.le_ediv_iff_mul_le (by omega)
  refine ⟨he, fun t ht => ?_, ?_⟩
  · have a2 := (a1 ((t : Int) + 1)).1 (by omega)
    rw [Int.add_mul, Int.one_mul] at a2
    omega
  · rcases Classical.em ((zful k e n : Int) = 3 * n) with h | h
    · exact Or.inr h
    · left
      have a3 := fun h9 => (a1 (((zful k e n : Nat) : Int) + 1)).2 h9
      rw [Int.add_mul, Int.one_mul] at a3
      rcases Classical.em (k 73 ≤ k 0 + ((zful k e n : Nat) : Int) * e) with h9 | h9
      · exact h9
      · have := a3 (by omega)
        omega
theorem zot_lt {k : Nat → Int} {e n : Int} {full : Nat} (h : zOK k e n full) {t : Nat} (ht : t < full) : zot k e t = k 0 + (t : Int) * e ∧ zot k e t < k 73 := by
  have := h.2.1 t ht
  unfold zot
  omega
theorem zot_in {k : Nat → Int} (hi : KI k) {e : Int} (he : 1 ≤ e ∧ e ≤ 99) {t : Nat} : k 0 ≤ zot k e t ∧ zot k e t ≤ k 73 := by
  have i1 := hi.1
  have : 0 ≤ (t : Int) * e := Int.mul_nonneg (by omega) (by omega)
  unfold zot
  omega
theorem zot_mono {k : Nat → Int} {e n : Int} {full : Nat} (h : zOK k e n full) {t t' : Nat} (h1 : t < t') (h2 : t' ≤ full) : zot k e t < zot k e t' := by
  have a := zot_lt h (t := t) (by omega)
  have b : ((t : Int) + 1) * e ≤ (t' : Int) * e := Int.mul_le_mul_of_nonneg_right (by omega) (by have := h.1; omega)
  rw [Int.add_mul, Int.one_mul] at b
  have := h.1
  have hz : zot k e t' = min (k 73) (k 0 + (t' : Int) * e) := rfl
  omega
theorem zot_inj {k : Nat → Int} {e n : Int} {full : Nat} (h : zOK k e n full) {t t' : Nat} (h1 : t ≤ full) (h2 : t' ≤ full) (he : zot k e t = zot k e t') : t = t' := by
  rcases Nat.lt_trichotomy t t' with a | a | a
  · have := zot_mono h a h2; omega
  · exact a
  · have := zot_mono h a h1; omega
theorem zot_step {k : Nat → Int} (hi : KI k) {e n : Int} {full : Nat} (h : zOK k e n full) {t w : Nat} (ht : t ≤ full) (hw : w ≤ 3) (h3 : (full : Int) = 3 * n → (t : Int) + 3 ≤ 3 * n) : min (k 73) (zot k e t + (w : Int) * e) = zot k e (min full (t + w)) := by
  have he := h.1
  have hwe : 0 ≤ (w : Int) * e := Int.mul_nonneg (by omega) (by omega)
  have hin := zot_in hi (e := e) he (t := t)
  rcases Nat.lt_or_ge t full with a | a
  · have b := zot_lt h a
    have hs : ((t + w : Nat) : Int) * e = (t : Int) * e + (w : Int) * e := by rw [show ((t + w : Nat) : Int) = (t : Int) + (w : Int) by omega, Int.add_mul]
    rcases Nat.lt_or_ge full (t + w) with c | c
    · rw [Nat.min_eq_left (by omega)]
      have h4 := h.2.2
      have h5 : k 73 ≤ k 0 + (full : Int) * e := by
        rcases h4 with h4 | h4
        · exact h4
        · have := h3 h4; omega
      have h6 : (full : Int) * e ≤ ((t + w : Nat) : Int) * e := Int.mul_le_mul_of_nonneg_right (by omega) (by omega)
      unfold zot
      omega
    · rw [Nat.min_eq_right c, b.1]
      show _ = min (k 73) (k 0 + ((t + w : Nat) : Int) * e)
      rw [hs]; omega
  · have e1 : t = full := by omega
    rw [Nat.min_eq_left (by omega), ← e1]
    rcases Classical.em (w = 0) with e2 | e2
    · subst e2; rw [show ((0 : Nat) : Int) * e = 0 by omega]; omega
    · have h4 := h.2.2
      have h5 : k 73 ≤ k 0 + (full : Int) * e := by
        rcases h4 with h4 | h4
        · exact h4
        · have := h3 h4; omega
      rw [← e1] at h5
      unfold zot
      omega
/-- how far the oils below n go -/
def zPt (k : Nat → Int) (e : Int) (full : Nat) (n τ : Nat) : Prop := τ ≤ full + 1 ∧ (∀ t, t < τ → zot k e t < (n : Int)) ∧ (∀ t, τ ≤ t → t ≤ full → (n : Int) ≤ zot k e t)
def zImg (k : Nat → Int) (e : Int) (full : Nat) (x : Nat) : Prop := ∃ t, t ≤ full ∧ (x : Int) = zot k e t
theorem zPt_y {k : Nat → Int} {e n9 : Int} {full n τ : Nat} (h : zOK k e n9 full) (hp : zPt k e full n τ) (h1 : τ ≤ full) (h2 : zot k e τ = (n : Int)) : zPt k e full (n + 1) (τ + 1) := by
  refine ⟨by omega, fun t ht => ?_, fun t a b => ?_⟩
  · rcases Classical.em (t = τ) with e1 | e1
    · rw [e1, h2]; omega
    · have := hp.2.1 t (by omega); omega
  · have := zot_mono h (t := τ) (t' := t) (by omega) b
    omega
theorem zPt_n {k : Nat → Int} {e : Int} {full n τ : Nat} (hp : zPt k e full n τ) (h : ¬ zImg k e full n) : zPt k e full (n + 1) τ := by
  refine ⟨hp.1, fun t ht => ?_, fun t a b => ?_⟩
  · have := hp.2.1 t ht; omega
  · have h1 := hp.2.2 t a b
    have h2 : zot k e t ≠ (n : Int) := fun e1 => h ⟨t, b, e1.symm⟩
    omega
theorem zPt_img {k : Nat → Int} {e n9 : Int} {full n τ : Nat} (h : zOK k e n9 full) (hp : zPt k e full n τ) (hi : zImg k e full n) : τ ≤ full ∧ zot k e τ = (n : Int) := by
  obtain ⟨t, h1, h2⟩ := hi
  rcases Nat.lt_trichotomy t τ with a | a | a
  · have := hp.2.1 t a; omega
  · subst a; exact ⟨h1, h2.symm⟩
  · have b := zot_mono h a h1
    have := hp.2.2 τ (Nat.le_refl _) (by omega)
    omega
/-- a row of the reference holds these parts -/
def zRR (k : Nat → Int) (e : Int) (full : Nat) (c R : Nat → Int) : Prop := (∀ t, t ≤ full → R (zot k e t).toNat = c t) ∧ ∀ x : Nat, x < 1000 → ¬ zImg k e full x → R x = 0
theorem zPt_0 {k : Nat → Int} (hi : KI k) {e : Int} (he : 1 ≤ e ∧ e ≤ 99) {full : Nat} : zPt k e full 0 0 := by
  have i1 := hi.1
  exact ⟨by omega, fun t ht => by omega, fun t a b => by have := (zot_in hi he (t := t)).1; omega⟩
theorem zRR_sum {k : Nat → Int} (hi : KI k) {e n9 : Int} {full : Nat} {c R : Nat → Int} (h : zOK k e n9 full) (hR : zRR k e full c R) (y : Int) : ∀ n, n ≤ 1000 → ∃ τ, zPt k e full n τ ∧ zsum (fun x => if y ≤ (x : Int) then R x else 0) n = zsum (fun t => if y ≤ zot k e t then c t else 0) τ
  | 0, _ => ⟨0, zPt_0 hi h.1, rfl⟩
  | n + 1, hn => by
    obtain ⟨τ, hp, ih⟩ := zRR_sum hi h hR y n (by omega)
    rcases Classical.em (zImg k e full n) with h1 | h1
    · obtain ⟨a, b⟩ := zPt_img h hp h1
      refine ⟨τ + 1, zPt_y h hp a b, ?_⟩
      rw [zsum_s, zsum_s, ih, b, ← hR.1 τ a, b, show ((n : Int)).toNat = n by omega]
    · refine ⟨τ, zPt_n hp h1, ?_⟩
      rw [zsum_s, ih, hR.2 n (by omega) h1]
      split <;> omega
/-- what one part gives -/
def zad (ch : Nat → Int) (p : Int) (a : Nat → Nat) (x : Nat) : Nat → Int
  | 0 => 0
  | w + 1 => zad ch p a x w + (if a w = x then p * ch w / 10 else 0)
theorem zad_in {ch : Nat → Int} (hch : zCh ch) {p : Int} (hp : 0 ≤ p ∧ p ≤ 1000000000000) {a : Nat → Nat} {x : Nat} : ∀ w, w ≤ 4 → 0 ≤ zad ch p a x w ∧ zad ch p a x w ≤ (w : Int) * 1000000000000
  | 0, _ => ⟨Int.le_refl _, by show (0 : Int) ≤ ((0 : Nat) : Int) * 1000000000000; decide⟩
  | w + 1, hw => by
    have ih := zad_in hch hp (a := a) (x := x) w (by omega)
    have hc := hch.1 w (by omega)
    have h1 := zdv hp.1 hc.1
    have h2 := Int.mul_le_mul (a := p) (b := ch w) (c := 1000000000000) (d := 10) hp.2 hc.2 hc.1 (by decide)
    have e : zad ch p a x (w + 1) = zad ch p a x w + (if a w = x then p * ch w / 10 else 0) := rfl
    rw [e]
    split <;> omega
theorem zad_ct {k : Nat → Int} {e n9 : Int} {full : Nat} {ch c : Nat → Int} (h : zOK k e n9 full) {t s : Nat} (hs : s ≤ full) {a : Nat → Nat} (ha : ∀ w, w ≤ 3 → a w = (zot k e (min full (t + w))).toNat) (h0 : 0 ≤ k 0 ∧ ∀ t, k 0 ≤ zot k e t) : ∀ w, w ≤ 4 → zad ch (c t) a (zot k e s).toNat w = zct full ch c t s w
  | 0, _ => rfl
  | w + 1, hw => by
    have ih := zad_ct (ch := ch) (c := c) h hs ha h0 w (by omega)
    show zad ch (c t) a _ w + (if a w = (zot k e s).toNat then _ else _) = zct full ch c t s w + (if min full (t + w) = s then _ else _)
    rw [ih, ha w (by omega)]
    have b1 := h0.2 (min full (t + w))
    have b2 := h0.2 s
    rcases Classical.em (min full (t + w) = s) with e1 | e1
    · rw [if_pos e1, if_pos (by rw [e1])]
    · rw [if_neg e1, if_neg (fun e2 => e1 (zot_inj h (by omega) hs (by omega)))]
theorem zad_no {ch : Nat → Int} {p : Int} {a : Nat → Nat} {x : Nat} (h : ∀ w, w ≤ 3 → a w ≠ x) : ∀ w, w ≤ 4 → zad ch p a x w = 0
  | 0, _ => rfl
  | w + 1, hw => by
    show zad ch p a x w + _ = 0
    rw [zad_no h w (by omega), if_neg (h w (by omega))]
    decide

set_option maxRecDepth 100000 in
set_option maxHeartbeats 4000000 in
theorem c_X11_spreadsPart {d sz : Nat} {S : zSh} {M : zMem} (hL : LY S sz) (hi : KI (M 57)) {g : Nat} (hg : g < 4) {e : Int} (he : 1 ≤ e ∧ e ≤ 99) {n : Nat} (hn : (n : Int) ≤ M 57 73) {b : Nat} (hb : b ≤ 1) (hp : 0 ≤ (M 71 (1000 * b + n)) ∧ (M 71 (1000 * b + n)) ≤ 1000000000000) (hx : ∀ x, x < 1000 → 0 ≤ M 71 (1000 * (1 - b) + x) ∧ M 71 (1000 * (1 - b) + x) ≤ 1000000000000) : zX (d + 1) 0 0 mX11_spreadsPart [zn 55, zi (g : Int), zi e, zi (n : Int), zi (b : Int)] sz S M (zU sz S (fun M' => (∀ x, x < 1000 → M' 71 (1000 * (1 - b) + x) = M 71 (1000 * (1 - b) + x) + zad (zch (M 57) g) (M 71 (1000 * b + n)) (fun w => (min (M 57 73) ((n : Int) + (w : Int) * e)).toNat) x 4) ∧ (∀ x, x < 1000 → M' 71 (1000 * b + x) = M 71 (1000 * b + x)) ∧ (∀ i, i ≠ 71 → M' i = M i))) := by
  have i1 := hi.1
  have i2 := hi.2.2.1 g hg
  have hch := zch_Ch hi hg
  have hzi : ∀ x w, w ≤ 4 → 0 ≤ zad (zch (M 57) g) (M 71 (1000 * b + n)) (fun w => (min (M 57 73) ((n : Int) + (w : Int) * e)).toNat) x w ∧ zad (zch (M 57) g) (M 71 (1000 * b + n)) (fun w => (min (M 57 73) ((n : Int) + (w : Int) * e)).toNat) x w ≤ (w : Int) * 1000000000000 := fun x w hw => zad_in hch hp w hw
  have loop : ∀ (q w : Nat) (e9 : Int) (M1 : zMem), 4 < q + w → 1 ≤ w → w ≤ 4 → e9 = znn (M 57) g (w - 1) → (∀ x, x < 1000 → M1 71 (1000 * (1 - b) + x) = M 71 (1000 * (1 - b) + x) + (zad (zch (M 57) g) (M 71 (1000 * b + n)) (fun w => (min (M 57 73) ((n : Int) + (w : Int) * e)).toNat) x w - zad (zch (M 57) g) (M 71 (1000 * b + n)) (fun w => (min (M 57 73) ((n : Int) + (w : Int) * e)).toNat) x 1)) → (∀ x, x < 1000 → M1 71 (1000 * b + x) = M 71 (1000 * b + x)) → (∀ i, i ≠ 71 → M1 i = M i) → zW mX11_spreadsPart (d + 1) 0 0 [] (zU sz S (fun M' => (∀ x, x < 1000 → M' 71 (1000 * (1 - b) + x) = M 71 (1000 * (1 - b) + x) + zad (zch (M 57) g) (M 71 (1000 * b + n)) (fun w => (min (M 57 73) ((n : Int) + (w : Int) * e)).toNat) x 4) ∧ (∀ x, x < 1000 → M' 71 (1000 * b + x) = M 71 (1000 * b + x)) ∧ (∀ i, i ≠ 71 → M' i = M i))) 32 [some (zn 55), some (zi (g : Int)), some (zi e), some (zi (n : Int)), some (zi (b : Int)), some (zl (M 71 (1000 * b + n))), none, some (zi (1000 * (1 - (b : Int)))), some (zi e9), some (zi w), none] [] sz S M1 := by
    intro q
    induction q with
    | zero => intro w e9 M1 hq h1 h2; omega
    | succ q ih =>
      intro w e9 M1 hq h1 h2 h9 hr hr2 hF
      have e57 : M1 57 = M 57 := hF 57 (by decide)
      have hwe : 0 ≤ (w : Int) * e ∧ (w : Int) * e ≤ 400 := by
        have : w = 1 ∨ w = 2 ∨ w = 3 ∨ w = 4 := by omega
        rcases this with rfl | rfl | rfl | rfl <;> omega
      refine x_iload 34 rfl dX11_spreadsPart_32 rfl ?_
      refine x_iconst 35 rfl dX11_spreadsPart_34 (by decide) ?_
      refine x_icmp_ge 38 106 rfl dX11_spreadsPart_35 (by decide) (fun c35 => ?_) (fun c35 => ?_)
      · have ew : w = 4 := by omega
        subst ew
        have en3 : e9 = zch (M 57) g 0 := h9
        have hc0 := hch.1 0 (by decide)
        have hmm : 0 ≤ (M 71 (1000 * b + n)) * zch (M 57) g 0 ∧ (M 71 (1000 * b + n)) * zch (M 57) g 0 ≤ 10000000000000 := ⟨Int.mul_nonneg hp.1 hc0.1, by have := Int.mul_le_mul hp.2 hc0.2 hc0.1 (show (0 : Int) ≤ 1000000000000 by decide); omega⟩
        subst en3
        have hrn := hr n (by omega)
        have hxn := hx n (by omega)
        have z4 := hzi n 4 (by omega)
        have z1 := hzi n 1 (by omega)
        have ea0 : ∀ x, zad (zch (M 57) g) (M 71 (1000 * b + n)) (fun w => (min (M 57 73) ((n : Int) + (w : Int) * e)).toNat) x 1 = 0 + (if (min (M 57 73) ((n : Int) + ((0 : Nat) : Int) * e)).toNat = x then (M 71 (1000 * b + n)) * zch (M 57) g 0 / 10 else 0) := fun x => rfl
        have ean : (min (M 57 73) ((n : Int) + ((0 : Nat) : Int) * e)).toNat = n := by rw [show ((0 : Nat) : Int) * e = 0 by omega]; omega
        rw [ean] at ea0
        refine x_aload_n 107 rfl dX11_spreadsPart_106 0 rfl rfl ?_
        refine x_getr 110 rfl fX11_71 dX11_spreadsPart_107 (lyl55 hL) (lys55 hL) (by decide) (71) rfl ?_
        refine x_iload 112 rfl dX11_spreadsPart_110 rfl ?_
        refine x_iload_n 113 rfl dX11_spreadsPart_112 3 rfl rfl ?_
        refine y_iadd 114 rfl dX11_spreadsPart_113 (by omega) ?_
        refine x_dup2ir 115 rfl dX11_spreadsPart_114 ?_
        refine x_lald 116 rfl dX11_spreadsPart_115 (lyl71 hL) (lys71 hL) (by omega) (by omega) ?_
        rw [show ((1000 : Int) * (1 - (b : Int)) + (n : Int)).toNat = 1000 * (1 - b) + n by omega]
        refine x_lload 118 rfl dX11_spreadsPart_116 rfl ?_
        refine x_iload 120 rfl dX11_spreadsPart_118 rfl ?_
        refine x_i2l 121 rfl dX11_spreadsPart_120 ?_
        refine y_lmul 122 rfl dX11_spreadsPart_121 (by omega) ?_
        refine x_ldc2 (x := 10) 125 rfl klX11_379 (by decide) dX11_spreadsPart_122 ?_
        refine x_ldiv 126 rfl dX11_spreadsPart_125 (by omega) ?_
        rw [z_ltdiv (by omega) (by omega) (by decide)]
        refine y_ladd 127 rfl dX11_spreadsPart_126 (by omega) ?_
        refine x_last 128 rfl dX11_spreadsPart_127 (lyl71 hL) (lys71 hL) (by omega) (by omega) ?_
        rw [show ((1000 : Int) * (1 - (b : Int)) + (n : Int)).toNat = 1000 * (1 - b) + n by omega]
        refine x_retu dX11_spreadsPart_128 rfl ?_
        refine ⟨fun x hx9 => ?_, fun x hx9 => ?_, fun i a => by rw [z_up_ne a]; exact hF i a⟩
        · by_cases ex : x = n
          · rw [ex, z_up_eq, hrn, ea0, if_pos rfl]; omega
          · rw [z_up_nk (by omega), hr x hx9, ea0, if_neg (fun h => ex h.symm)]; omega
        · rw [z_up_nk (by omega)]; exact hr2 x hx9
      · have hcw := hch.1 w (by omega)
        obtain ⟨u, eu⟩ : ∃ u : Nat, (min (M 57 73) ((n : Int) + (w : Int) * e)).toNat = u := ⟨_, rfl⟩
        have hu : u < 1000 := by omega
        have hmm : 0 ≤ (M 71 (1000 * b + n)) * zch (M 57) g w ∧ (M 71 (1000 * b + n)) * zch (M 57) g w ≤ 10000000000000 := ⟨Int.mul_nonneg hp.1 hcw.1, by have := Int.mul_le_mul hp.2 hcw.2 hcw.1 (show (0 : Int) ≤ 1000000000000 by decide); omega⟩
        have hru := hr u hu
        have hxu := hx u hu
        have z1 := hzi u w (by omega)
        have z2 := hzi u 1 (by omega)
        have z3 : zad (zch (M 57) g) (M 71 (1000 * b + n)) (fun w => (min (M 57 73) ((n : Int) + (w : Int) * e)).toNat) u 1 ≤ zad (zch (M 57) g) (M 71 (1000 * b + n)) (fun w => (min (M 57 73) ((n : Int) + (w : Int) * e)).toNat) u w := by
          have : w = 1 ∨ w = 2 ∨ w = 3 := by omega
          have m1 := zdv hp.1 (hch.1 1 (by decide)).1
          have m2 := zdv hp.1 (hch.1 2 (by decide)).1
          have e2 : zad (zch (M 57) g) (M 71 (1000 * b + n)) (fun w => (min (M 57 73) ((n : Int) + (w : Int) * e)).toNat) u 2 = zad (zch (M 57) g) (M 71 (1000 * b + n)) (fun w => (min (M 57 73) ((n : Int) + (w : Int) * e)).toNat) u 1 + (if (min (M 57 73) ((n : Int) + ((1 : Nat) : Int) * e)).toNat = u then (M 71 (1000 * b + n)) * zch (M 57) g 1 / 10 else 0) := rfl
          have e3 : zad (zch (M 57) g) (M 71 (1000 * b + n)) (fun w => (min (M 57 73) ((n : Int) + (w : Int) * e)).toNat) u 3 = zad (zch (M 57) g) (M 71 (1000 * b + n)) (fun w => (min (M 57 73) ((n : Int) + (w : Int) * e)).toNat) u 2 + (if (min (M 57 73) ((n : Int) + ((2 : Nat) : Int) * e)).toNat = u then (M 71 (1000 * b + n)) * zch (M 57) g 2 / 10 else 0) := rfl
          rcases this with rfl | rfl | rfl
          · exact Int.le_refl _
          · rw [e2]; split <;> omega
          · rw [e3, e2]; split <;> split <;> omega
        have ezn : znn (M 57) g w = znn (M 57) g (w - 1) - zch (M 57) g w := by
          have : w = 1 ∨ w = 2 ∨ w = 3 := by omega
          rcases this with rfl | rfl | rfl <;> rfl
        have hnn : 0 ≤ znn (M 57) g (w - 1) ∧ znn (M 57) g (w - 1) ≤ 10 := by
          have n0 : znn (M 57) g 0 = 10 := rfl
          have n1 : znn (M 57) g 1 = 10 - M 57 (39 + 3 * g) := rfl
          have n2 : znn (M 57) g 2 = 10 - M 57 (39 + 3 * g) - M 57 (39 + 3 * g + 1) := rfl
          have : w - 1 = 0 ∨ w - 1 = 1 ∨ w - 1 = 2 := by omega
          rcases this with e8 | e8 | e8 <;> rw [e8] <;> omega
        refine x_aload_n 39 rfl dX11_spreadsPart_38 0 rfl rfl ?_
        refine x_getr 42 rfl fX11_24 dX11_spreadsPart_39 (lyl55 hL) (lys55 hL) (by decide) (57) rfl ?_
        refine x_bipush 44 rfl dX11_spreadsPart_42 (by decide) ?_
        refine x_iconst 45 rfl dX11_spreadsPart_44 (by decide) ?_
        refine x_iload_n 46 rfl dX11_spreadsPart_45 1 rfl rfl ?_
        refine y_imul 47 rfl dX11_spreadsPart_46 (by omega) ?_
        refine y_iadd 48 rfl dX11_spreadsPart_47 (by omega) ?_
        refine x_iload 50 rfl dX11_spreadsPart_48 rfl ?_
        refine y_iadd 51 rfl dX11_spreadsPart_50 (by omega) ?_
        refine x_iconst 52 rfl dX11_spreadsPart_51 (by decide) ?_
        refine y_isub 53 rfl dX11_spreadsPart_52 (by omega) ?_
        refine x_iald 54 rfl dX11_spreadsPart_53 (lyl57 hL) (lys57 hL) (by omega) (by omega) ?_
        rw [e57, show ((39 : Int) + 3 * (g : Int) + (w : Int) - 1).toNat = 39 + 3 * g + w - 1 by omega, show M 57 (39 + 3 * g + w - 1) = zch (M 57) g w by unfold zch; rw [if_neg (by omega)]]
        refine y_istore 56 rfl dX11_spreadsPart_54 rfl (ls' := [_, _, _, _, _, _, _, _, _, _, _]) rfl (by decide) ?_
        refine x_iload 58 rfl dX11_spreadsPart_56 rfl ?_
        refine x_iload 60 rfl dX11_spreadsPart_58 rfl ?_
        refine y_isub 61 rfl dX11_spreadsPart_60 (by omega) ?_
        refine y_istore 63 rfl dX11_spreadsPart_61 rfl (ls' := [_, _, _, _, _, _, _, _, _, _, _]) rfl (by decide) ?_
        refine x_aload_n 64 rfl dX11_spreadsPart_63 0 rfl rfl ?_
        refine x_getr 67 rfl fX11_71 dX11_spreadsPart_64 (lyl55 hL) (lys55 hL) (by decide) (71) rfl ?_
        refine x_iload 69 rfl dX11_spreadsPart_67 rfl ?_
        refine x_aload_n 70 rfl dX11_spreadsPart_69 0 rfl rfl ?_
        refine x_getr 73 rfl fX11_24 dX11_spreadsPart_70 (lyl55 hL) (lys55 hL) (by decide) (57) rfl ?_
        refine x_bipush 75 rfl dX11_spreadsPart_73 (by decide) ?_
        refine x_ialk 76 rfl dX11_spreadsPart_75 (lyl57 hL) (lys57 hL) 73 rfl (by decide) ?_
        rw [e57]
        refine x_iload_n 77 rfl dX11_spreadsPart_76 3 rfl rfl ?_
        refine x_iload 79 rfl dX11_spreadsPart_77 rfl ?_
        refine x_iload_n 80 rfl dX11_spreadsPart_79 2 rfl rfl ?_
        refine y_imul 81 rfl dX11_spreadsPart_80 (by omega) ?_
        refine y_iadd 82 rfl dX11_spreadsPart_81 (by omega) ?_
        refine x_cSi 85 rfl lX11_325 dX11_spreadsPart_82 c_X11_lesser rfl rfl (Nat.le_of_ble_eq_true rfl) (fun r1 M2 hr1 => ?_)
        obtain ⟨hr4, hM2⟩ := hr1
        rw [hM2]
        subst hr4
        refine y_iadd 86 rfl dX11_spreadsPart_85 (by omega) ?_
        refine x_dup2ir 87 rfl dX11_spreadsPart_86 ?_
        refine x_lald 88 rfl dX11_spreadsPart_87 (lyl71 hL) (lys71 hL) (by omega) (by omega) ?_
        rw [show ((1000 : Int) * (1 - (b : Int)) + min (M 57 73) ((n : Int) + (w : Int) * e)).toNat = 1000 * (1 - b) + u by omega]
        refine x_lload 90 rfl dX11_spreadsPart_88 rfl ?_
        refine x_iload 92 rfl dX11_spreadsPart_90 rfl ?_
        refine x_i2l 93 rfl dX11_spreadsPart_92 ?_
        refine y_lmul 94 rfl dX11_spreadsPart_93 (by omega) ?_
        refine x_ldc2 (x := 10) 97 rfl klX11_379 (by decide) dX11_spreadsPart_94 ?_
        refine x_ldiv 98 rfl dX11_spreadsPart_97 (by omega) ?_
        rw [z_ltdiv (by omega) (by omega) (by decide)]
        refine y_ladd 99 rfl dX11_spreadsPart_98 (by omega) ?_
        refine x_last 100 rfl dX11_spreadsPart_99 (lyl71 hL) (lys71 hL) (by omega) (by omega) ?_
        rw [show ((1000 : Int) * (1 - (b : Int)) + min (M 57 73) ((n : Int) + (w : Int) * e)).toNat = 1000 * (1 - b) + u by omega]
        refine w_iinc 103 rfl dX11_spreadsPart_100 rfl (by decide) (by omega) rfl (ls' := [_, _, _, _, _, _, _, _, _, _, _]) rfl (by decide) ?_
        refine x_goto 32 dX11_spreadsPart_103 (by decide) ?_
        refine z_wk (ls' := [some (zn 55), some (zi (g : Int)), some (zi e), some (zi (n : Int)), some (zi (b : Int)), some (zl (M 71 (1000 * b + n))), none, some (zi (1000 * (1 - (b : Int)))), some (zi _), some (zi ((w + 1 : Nat) : Int)), none]) ⟨rfl, rfl, rfl, rfl, rfl, rfl, rfl, rfl, rfl, trivial⟩ (ih (w + 1) _ _ (by omega) (by omega) (by omega) (by rw [Nat.add_sub_cancel, ezn, h9]) (fun x hx9 => ?_) (fun x hx9 => ?_) (fun i a => by rw [z_up_ne a]; exact hF i a))
        · have ez : zad (zch (M 57) g) (M 71 (1000 * b + n)) (fun w => (min (M 57 73) ((n : Int) + (w : Int) * e)).toNat) x (w + 1) = zad (zch (M 57) g) (M 71 (1000 * b + n)) (fun w => (min (M 57 73) ((n : Int) + (w : Int) * e)).toNat) x w + (if (min (M 57 73) ((n : Int) + (w : Int) * e)).toNat = x then (M 71 (1000 * b + n)) * zch (M 57) g w / 10 else 0) := rfl
          rw [ez, eu]
          by_cases ex : x = u
          · rw [ex, z_up_eq, hru, if_pos rfl]; omega
          · rw [z_up_nk (by omega), hr x hx9, if_neg (fun h => ex h.symm)]; omega
        · rw [z_up_nk (by omega)]; exact hr2 x hx9
  refine zX_of pl_RX11 [some (zn 55), some (zi (g : Int)), some (zi e), some (zi (n : Int)), some (zi (b : Int)), none, none, none, none, none, none] 6 rfl rfl ?_
  refine x_aload_n 1 rfl dX11_spreadsPart_0 0 rfl rfl ?_
  refine x_getr 4 rfl fX11_71 dX11_spreadsPart_1 (lyl55 hL) (lys55 hL) (by decide) (71) rfl ?_
  refine x_sipush 7 rfl dX11_spreadsPart_4 (by decide) ?_
  refine x_iload 9 rfl dX11_spreadsPart_7 rfl ?_
  refine y_imul 10 rfl dX11_spreadsPart_9 (by omega) ?_
  refine x_iload_n 11 rfl dX11_spreadsPart_10 3 rfl rfl ?_
  refine y_iadd 12 rfl dX11_spreadsPart_11 (by omega) ?_
  refine x_lald 13 rfl dX11_spreadsPart_12 (lyl71 hL) (lys71 hL) (by omega) (by omega) ?_
  rw [show ((1000 : Int) * (b : Int) + (n : Int)).toNat = 1000 * b + n by omega]
  refine y_lstore 15 rfl dX11_spreadsPart_13 rfl (ls' := [_, _, _, _, _, _, _, _, _, _, _]) rfl (by decide) ?_
  refine x_sipush 18 rfl dX11_spreadsPart_15 (by decide) ?_
  refine x_iconst 19 rfl dX11_spreadsPart_18 (by decide) ?_
  refine x_iload 21 rfl dX11_spreadsPart_19 rfl ?_
  refine y_isub 22 rfl dX11_spreadsPart_21 (by omega) ?_
  refine y_imul 23 rfl dX11_spreadsPart_22 (by omega) ?_
  refine y_istore 25 rfl dX11_spreadsPart_23 rfl (ls' := [_, _, _, _, _, _, _, _, _, _, _]) rfl (by decide) ?_
  refine x_bipush 27 rfl dX11_spreadsPart_25 (by decide) ?_
  refine y_istore 29 rfl dX11_spreadsPart_27 rfl (ls' := [_, _, _, _, _, _, _, _, _, _, _]) rfl (by decide) ?_
  refine x_iconst 30 rfl dX11_spreadsPart_29 (by decide) ?_
  refine y_istore 32 rfl dX11_spreadsPart_30 rfl (ls' := [_, _, _, _, _, _, _, _, _, _, _]) rfl (by decide) ?_
  refine loop 4 1 10 M (by omega) (by omega) (by omega) rfl (fun x hx9 => by omega) (fun x hx9 => rfl) (fun _ _ => rfl)
