/-! odds -/
def zct (full : Nat) (ch c : Nat → Int) (t s : Nat) : Nat → Int
  | 0 => 0
  | w + 1 => zct full ch c t s w + (if min full (t + w) = s then c t * ch w / 10 else 0)
def zsu (full : Nat) (ch c : Nat → Int) (s : Nat) : Nat → Int
  | 0 => 0
  | n + 1 => zsu full ch c s n + zct full ch c n s 4
def zsr (full : Nat) (ch c : Nat → Int) : Nat → Int := fun s => zsu full ch c s (full + 1)
def zcr (full : Nat) (ch : Nat → Int) : Nat → Nat → Int
  | 0 => fun s => if s = 0 then 1000000000000 else 0
  | m + 1 => zsr full ch (zcr full ch m)
def zRow (full : Nat) (c : Nat → Int) : Prop := (∀ s, s ≤ full → 0 ≤ c s) ∧ zsum c (full + 1) ≤ 1000000000000
def zCh (ch : Nat → Int) : Prop := (∀ w, w ≤ 3 → 0 ≤ ch w ∧ ch w ≤ 10) ∧ ch 0 + ch 1 + ch 2 + ch 3 = 10
theorem zsum_s (f : Nat → Int) (n : Nat) : zsum f (n + 1) = zsum f n + f n := rfl
theorem zsum_add {f g : Nat → Int} : ∀ n, zsum (fun s => f s + g s) n = zsum f n + zsum g n
  | 0 => rfl
  | n + 1 => by rw [zsum_s, zsum_s, zsum_s, zsum_add n]; omega
theorem zsum_dl {a : Nat} {x : Int} : ∀ n, zsum (fun s => if a = s then x else 0) n = if a < n then x else 0
  | 0 => by rw [if_neg (by omega)]; rfl
  | n + 1 => by
    rw [zsum_s, zsum_dl n]
    by_cases h : a = n
    · rw [if_neg (by omega), if_pos h, if_pos (by omega)]; omega
    · rw [if_neg h]
      by_cases h2 : a < n
      · rw [if_pos h2, if_pos (by omega)]; omega
      · rw [if_neg h2, if_neg (by omega)]; omega
theorem zsum_z : ∀ n, zsum (fun _ => (0 : Int)) n = 0
  | 0 => rfl
  | n + 1 => by rw [zsum_s, zsum_z n]; rfl
theorem zsum_nn {f : Nat → Int} : ∀ n, (∀ s, s < n → 0 ≤ f s) → 0 ≤ zsum f n
  | 0, _ => Int.le_refl _
  | n + 1, h => by rw [zsum_s]; have := zsum_nn n (fun s hs => h s (by omega)); have := h n (by omega); omega
theorem zsum_le {f : Nat → Int} : ∀ n, (∀ s, s < n → 0 ≤ f s) → ∀ s, s < n → f s ≤ zsum f n
  | 0, _, s, hs => by omega
  | n + 1, h, s, hs => by
    rw [zsum_s]
    have h1 := zsum_nn n (fun s hs => h s (by omega))
    have h2 := h n (by omega)
    rcases Classical.em (s = n) with e | e
    · rw [e]; omega
    · have := zsum_le n (fun s hs => h s (by omega)) s (by omega); omega
theorem zsum_mono {f : Nat → Int} : ∀ n j, (∀ s, s < n + j → 0 ≤ f s) → zsum f n ≤ zsum f (n + j)
  | n, 0, _ => Int.le_refl _
  | n, j + 1, h => by
    have h1 := zsum_mono n j (fun s hs => h s (by omega))
    have h2 := h (n + j) (by omega)
    rw [show n + (j + 1) = n + j + 1 by omega, zsum_s]
    omega
theorem zdv {x y : Int} (hx : 0 ≤ x) (hy : 0 ≤ y) : 0 ≤ x * y / 10 := Int.ediv_nonneg (Int.mul_nonneg hx hy) (by decide)
theorem zct_in {full : Nat} {ch c : Nat → Int} (hch : zCh ch) {t s : Nat} (hc : 0 ≤ c t) : ∀ w, w ≤ 4 → 0 ≤ zct full ch c t s w
  | 0, _ => Int.le_refl _
  | w + 1, hw => by
    have ih := zct_in (full := full) (s := s) hch hc w (by omega)
    have h1 := zdv hc (hch.1 w (by omega)).1
    show 0 ≤ zct full ch c t s w + _
    split <;> omega
theorem zct_mono {full : Nat} {ch c : Nat → Int} (hch : zCh ch) {t s : Nat} (hc : 0 ≤ c t) : ∀ j w, w + j ≤ 4 → zct full ch c t s w ≤ zct full ch c t s (w + j)
  | 0, w, _ => Int.le_refl _
  | j + 1, w, h => by
    have ih := zct_mono (full := full) (s := s) hch hc j w (by omega)
    have h1 := zdv hc (hch.1 (w + j) (by omega)).1
    have e : zct full ch c t s (w + (j + 1)) = zct full ch c t s (w + j) + (if min full (t + (w + j)) = s then c t * ch (w + j) / 10 else 0) := rfl
    rw [e]
    split <;> omega
theorem zct_0 {full : Nat} {ch c : Nat → Int} {t s : Nat} (hc : c t = 0) : ∀ w, zct full ch c t s w = 0
  | 0 => rfl
  | w + 1 => by
    show zct full ch c t s w + _ = 0
    rw [zct_0 hc w, hc, Int.zero_mul]
    split <;> decide
theorem zct_lo {full : Nat} {ch c : Nat → Int} {t s : Nat} (h : s < t) (ht : t ≤ full) : ∀ w, zct full ch c t s w = 0
  | 0 => rfl
  | w + 1 => by
    show zct full ch c t s w + _ = 0
    rw [zct_lo h ht w, if_neg (by omega)]
    decide
theorem zct_tot {full : Nat} {ch c : Nat → Int} (hch : zCh ch) {t : Nat} (hc : 0 ≤ c t) : zsum (fun s => zct full ch c t s 4) (full + 1) ≤ c t := by
  have key : ∀ w, zsum (fun s => zct full ch c t s (w + 1)) (full + 1) = zsum (fun s => zct full ch c t s w) (full + 1) + c t * ch w / 10 := fun w => by
    show zsum (fun s => zct full ch c t s w + (if min full (t + w) = s then c t * ch w / 10 else 0)) (full + 1) = _
    rw [zsum_add, zsum_dl, if_pos (by omega)]
  have k0 : zsum (fun s => zct full ch c t s 0) (full + 1) = 0 := zsum_z _
  have k1 := key 0
  have k2 := key 1
  have k3 := key 2
  have k4 := key 3
  have hs := hch.2
  have e : c t * ch 0 + c t * ch 1 + c t * ch 2 + c t * ch 3 = c t * 10 := by rw [← hs, Int.mul_add, Int.mul_add, Int.mul_add]
  rw [k4, k3, k2, k1, k0]
  omega
theorem zsu_in {full : Nat} {ch c : Nat → Int} (hch : zCh ch) (hc : ∀ s, s ≤ full → 0 ≤ c s) {s : Nat} : ∀ n, n ≤ full + 1 → 0 ≤ zsu full ch c s n
  | 0, _ => Int.le_refl _
  | n + 1, h => by
    have ih := zsu_in (s := s) hch hc n (by omega)
    have := zct_in (full := full) (s := s) hch (hc n (by omega)) 4 (Nat.le_refl _)
    show 0 ≤ zsu full ch c s n + _
    omega
theorem zsu_mono {full : Nat} {ch c : Nat → Int} (hch : zCh ch) (hc : ∀ s, s ≤ full → 0 ≤ c s) {s : Nat} : ∀ j n, n + j ≤ full + 1 → zsu full ch c s n ≤ zsu full ch c s (n + j)
  | 0, n, _ => Int.le_refl _
  | j + 1, n, h => by
    have ih := zsu_mono (s := s) hch hc j n (by omega)
    have := zct_in (full := full) (s := s) hch (hc (n + j) (by omega)) 4 (Nat.le_refl _)
    have e : zsu full ch c s (n + (j + 1)) = zsu full ch c s (n + j) + zct full ch c (n + j) s 4 := rfl
    rw [e]
    omega
theorem zsu_hi {full : Nat} {ch c : Nat → Int} {s : Nat} : ∀ j, s + 1 + j ≤ full + 1 → zsu full ch c s (s + 1 + j) = zsu full ch c s (s + 1)
  | 0, _ => rfl
  | j + 1, h => by
    have e : zsu full ch c s (s + 1 + (j + 1)) = zsu full ch c s (s + 1 + j) + zct full ch c (s + 1 + j) s 4 := rfl
    rw [e, zsu_hi j (by omega), zct_lo (by omega) (by omega)]
    omega
theorem zsu_tot {full : Nat} {ch c : Nat → Int} (hch : zCh ch) (hc : ∀ s, s ≤ full → 0 ≤ c s) : ∀ n, n ≤ full + 1 → zsum (fun s => zsu full ch c s n) (full + 1) ≤ zsum c n
  | 0, _ => by show zsum (fun _ => (0 : Int)) (full + 1) ≤ 0; rw [zsum_z]; exact Int.le_refl _
  | n + 1, h => by
    have ih := zsu_tot hch hc n (by omega)
    have h2 := zct_tot (full := full) hch (hc n (by omega))
    show zsum (fun s => zsu full ch c s n + zct full ch c n s 4) (full + 1) ≤ zsum c n + c n
    rw [zsum_add]
    omega
theorem zsu_b {full : Nat} {ch c : Nat → Int} (hch : zCh ch) (hc : zRow full c) {s n : Nat} (hs : s ≤ full) (hn : n ≤ full + 1) : 0 ≤ zsu full ch c s n ∧ zsu full ch c s n ≤ 1000000000000 := by
  have h1 := zsu_tot hch hc.1 n hn
  have h2 := zsum_le (f := fun s => zsu full ch c s n) (full + 1) (fun s hs => zsu_in hch hc.1 n hn) s (by omega)
  have h3 := zsum_mono (f := c) n (full + 1 - n) (fun s hs => hc.1 s (by omega))
  rw [show n + (full + 1 - n) = full + 1 by omega] at h3
  have h4 := hc.2
  have h2 : zsu full ch c s n ≤ zsum (fun s => zsu full ch c s n) (full + 1) := h2
  exact ⟨zsu_in hch hc.1 n hn, by omega⟩
theorem zsr_row {full : Nat} {ch c : Nat → Int} (hch : zCh ch) (hc : zRow full c) : zRow full (zsr full ch c) := by
  refine ⟨fun s hs => zsu_in hch hc.1 _ (Nat.le_refl _), ?_⟩
  have h1 := zsu_tot hch hc.1 (full + 1) (Nat.le_refl _)
  have h4 := hc.2
  show zsum (fun s => zsu full ch c s (full + 1)) (full + 1) ≤ _
  omega
theorem zcr_row {full : Nat} {ch : Nat → Int} (hch : zCh ch) : ∀ m, zRow full (zcr full ch m)
  | 0 => by
    refine ⟨fun s hs => ?_, ?_⟩
    · show 0 ≤ (if s = 0 then (1000000000000 : Int) else 0); split <;> decide
    · have e : zcr full ch 0 = (fun s => if 0 = s then (1000000000000 : Int) else 0) := by
        funext s
        show (if s = 0 then (1000000000000 : Int) else 0) = _
        by_cases h : s = 0
        · rw [if_pos h, if_pos h.symm]
        · rw [if_neg h, if_neg (fun e => h e.symm)]
      rw [e, zsum_dl, if_pos (by omega)]
      exact Int.le_refl _
  | m + 1 => zsr_row hch (zcr_row hch m)
theorem zch_Ch {k : Nat → Int} (hi : KI k) {g : Nat} (hg : g < 4) : zCh (zch k g) := by
  have i2 := hi.2.2.1 g hg
  have e0 : zch k g 0 = 10 - k (39 + 3 * g) - k (39 + 3 * g + 1) - k (39 + 3 * g + 2) := rfl
  have e1 : zch k g 1 = k (39 + 3 * g) := rfl
  have e2 : zch k g 2 = k (39 + 3 * g + 1) := rfl
  have e3 : zch k g 3 = k (39 + 3 * g + 2) := rfl
  refine ⟨fun w hw => ?_, by omega⟩
  have : w = 0 ∨ w = 1 ∨ w = 2 ∨ w = 3 := by omega
  rcases this with rfl | rfl | rfl | rfl <;> omega
theorem zsu_congr {full : Nat} {ch c c' : Nat → Int} (h : ∀ s, s ≤ full → c s = c' s) {s : Nat} : ∀ n, n ≤ full + 1 → zsu full ch c s n = zsu full ch c' s n
  | 0, _ => rfl
  | n + 1, hn => by
    have e : ∀ w, zct full ch c n s w = zct full ch c' n s w := by
      intro w
      induction w with
      | zero => rfl
      | succ w ih => show zct full ch c n s w + _ = zct full ch c' n s w + _; rw [ih, h n (by omega)]
    show zsu full ch c s n + _ = zsu full ch c' s n + _
    rw [zsu_congr h n (by omega), e]

set_option maxRecDepth 100000 in
set_option maxHeartbeats 4000000 in
theorem c_X5_spread {d sz : Nat} {S : zSh} {M : zMem} (hL : LY S sz) {k : Nat → Int} (hs : SR M 1 k) (hi : KI k) {g : Nat} (hg : g < 4) {full : Nat} (hfu : full ≤ 72) (hr : zRow full (M 53)) : zX (d + 1) 0 0 mX5_spread [zn 49, zn 1, zi (g : Int), zi (full : Int)] sz S M (zU sz S (fun M' => (∀ s, s ≤ full → M' 53 s = zsr full (zch k g) (M 53) s) ∧ (∀ i, i ≠ 53 → M' i = M i))) := by
  have i1 := hi.1
  have hch := zch_Ch hi hg
  have hcb : ∀ s, s ≤ full → 0 ≤ M 53 s ∧ M 53 s ≤ 1000000000000 := fun s hs => ⟨hr.1 s hs, Int.le_trans (zsum_le (full + 1) (fun s hs => hr.1 s (by omega)) s (by omega)) hr.2⟩
  have loop : ∀ (q n : Nat) (M1 : zMem), full + 1 < q + n → n ≤ full + 1 → (∀ s, s ≤ full → M1 53 s = (if s + n ≤ full then M 53 s else zsu full (zch k g) (M 53) s (full + 1) - zsu full (zch k g) (M 53) s (full + 1 - n))) → (∀ i, i ≠ 53 → M1 i = M i) → zW mX5_spread (d + 1) 0 0 [] (zU sz S (fun M' => (∀ s, s ≤ full → M' 53 s = zsr full (zch k g) (M 53) s) ∧ (∀ i, i ≠ 53 → M' i = M i))) 3 [some (zn 49), some (zn 1), some (zi (g : Int)), some (zi (full : Int)), some (zi ((full : Int) - (n : Int))), none, none, none] [] sz S M1 := by
    intro q
    induction q with
    | zero => intro n M1 hq hn; omega
    | succ q ih =>
      intro n M1 hq hn h1 hF
      rcases Nat.lt_or_ge n (full + 1) with hlt | hge
      case inr =>
        have en : n = full + 1 := by omega
        subst en
        refine x_iload 5 rfl dX5_spread_3 rfl ?_
        refine x_if_lt 8 85 rfl dX5_spread_5 (by decide) (fun c5 => ?_) (fun c5 => ?_)
        · refine x_retu dX5_spread_85 rfl ?_
          refine ⟨fun s hs9 => ?_, hF⟩
          rw [h1 s hs9, if_neg (by omega), show full + 1 - (full + 1) = 0 by omega]
          show zsu full (zch k g) (M 53) s (full + 1) - 0 = zsu full (zch k g) (M 53) s (full + 1)
          omega
        · exfalso; omega
      obtain ⟨h, eh⟩ : ∃ h : Nat, h = full - n := ⟨_, rfl⟩
      have hh : h ≤ full := by omega
      have hs1 : SR M1 1 k := SR_frame hs (fun i a b => hF i (by omega))
      have hcc := hcb h hh
      have ehc : M1 53 h = M 53 h := by rw [h1 h hh, if_pos (by omega)]
      have nxt : ∀ M2 : zMem, (∀ s, s ≤ full → M2 53 s = (if s < h then M 53 s else (if s = h then 0 else zsu full (zch k g) (M 53) s (full + 1) - zsu full (zch k g) (M 53) s (h + 1)) + zct full (zch k g) (M 53) h s 4)) → (∀ i, i ≠ 53 → M2 i = M i) → zW mX5_spread (d + 1) 0 0 [] (zU sz S (fun M' => (∀ s, s ≤ full → M' 53 s = zsr full (zch k g) (M 53) s) ∧ (∀ i, i ≠ 53 → M' i = M i))) 3 [some (zn 49), some (zn 1), some (zi (g : Int)), some (zi (full : Int)), some (zi ((full : Int) - ((n + 1 : Nat) : Int))), none, none, none] [] sz S M2 := by
        intro M2 h2 hF2
        refine ih (n + 1) M2 (by omega) (by omega) (fun s hs9 => ?_) hF2
        rw [h2 s hs9, show full + 1 - (n + 1) = h by omega]
        have es : zsu full (zch k g) (M 53) s (h + 1) = zsu full (zch k g) (M 53) s h + zct full (zch k g) (M 53) h s 4 := rfl
        rcases Nat.lt_or_ge s h with a | a
        · rw [if_pos a, if_pos (by omega)]
        · rw [if_neg (show ¬ s < h by omega), if_neg (show ¬ s + (n + 1) ≤ full by omega)]
          by_cases e : s = h
          · subst e
            have e2 := zsu_hi (full := full) (ch := (zch k g)) (c := M 53) (s := s) (full - s) (by omega)
            rw [show s + 1 + (full - s) = full + 1 by omega] at e2
            rw [if_pos rfl]; omega
          · rw [if_neg e]; omega
      have inner : ∀ (p w : Nat) (M2 : zMem), 4 < p + w → w ≤ 4 → (∀ s, s ≤ full → M2 53 s = (if s < h then M 53 s else (if s = h then 0 else zsu full (zch k g) (M 53) s (full + 1) - zsu full (zch k g) (M 53) s (h + 1)) + zct full (zch k g) (M 53) h s w)) → (∀ i, i ≠ 53 → M2 i = M i) → zW mX5_spread (d + 1) 0 0 [] (zU sz S (fun M' => (∀ s, s ≤ full → M' 53 s = zsr full (zch k g) (M 53) s) ∧ (∀ i, i ≠ 53 → M' i = M i))) 28 [some (zn 49), some (zn 1), some (zi (g : Int)), some (zi (full : Int)), some (zi (h : Int)), some (zl (M 53 h)), none, some (zi w)] [] sz S M2 := by
        intro p
        induction p with
        | zero => intro w M2 hp hw; omega
        | succ p ih2 =>
          intro w M2 hp hw h2 hF2
          have hs2 : SR M2 1 k := SR_frame hs (fun i a b => hF2 i (by omega))
          refine x_iload 30 rfl dX5_spread_28 rfl ?_
          refine x_iconst 31 rfl dX5_spread_30 (by decide) ?_
          refine x_icmp_gt 34 79 rfl dX5_spread_31 (by decide) (fun c31 => ?_) (fun c31 => ?_)
          · have ew : w = 4 := by omega
            subst ew
            refine w_iinc 82 rfl dX5_spread_79 rfl (by decide) (by omega) rfl (ls' := [_, _, _, _, _, _, _, _]) rfl (by decide) ?_
            refine x_goto 3 dX5_spread_82 (by decide) ?_
            refine z_wk (ls' := [some (zn 49), some (zn 1), some (zi (g : Int)), some (zi (full : Int)), some (zi ((full : Int) - ((n + 1 : Nat) : Int))), none, none, none]) ⟨rfl, rfl, rfl, rfl, z_e (by omega), trivial⟩ (nxt M2 h2 hF2)
          · refine x_lload 36 rfl dX5_spread_34 rfl ?_
            refine x_lconst (x := 0) 37 rfl dX5_spread_36 rfl ?_
            refine x_lcmp 38 rfl dX5_spread_37 ?_
            refine x_if_le 41 79 rfl dX5_spread_38 (by decide) (fun c38 => ?_) (fun c38 => ?_)
            · have c38 := zcmp_le.1 c38
              have ez : M 53 h = 0 := by omega
              refine w_iinc 82 rfl dX5_spread_79 rfl (by decide) (by omega) rfl (ls' := [_, _, _, _, _, _, _, _]) rfl (by decide) ?_
              refine x_goto 3 dX5_spread_82 (by decide) ?_
              refine z_wk (ls' := [some (zn 49), some (zn 1), some (zi (g : Int)), some (zi (full : Int)), some (zi ((full : Int) - ((n + 1 : Nat) : Int))), none, none, none]) ⟨rfl, rfl, rfl, rfl, z_e (by omega), trivial⟩ (nxt M2 (fun s a => by rw [h2 s a, zct_0 ez, zct_0 ez]) hF2)
            · have hcw := hch.1 w (by omega)
              obtain ⟨u, eu⟩ : ∃ u, u = min full (h + w) := ⟨_, rfl⟩
              have hu : u ≤ full ∧ h ≤ u := by omega
              have hv := h2 u hu.1
              have hin := zct_in (full := full) (s := u) hch hcc.1 w (by omega)
              have hin2 := zct_mono (full := full) (s := u) hch hcc.1 (4 - (w + 1)) (w + 1) (by omega)
              rw [show w + 1 + (4 - (w + 1)) = 4 by omega] at hin2
              have ezs : zct full (zch k g) (M 53) h u (w + 1) = zct full (zch k g) (M 53) h u w + M 53 h * zch k g w / 10 := by
                show _ + (if min full (h + w) = u then _ else _) = _
                rw [if_pos eu.symm]
              have es : zsu full (zch k g) (M 53) u (h + 1) = zsu full (zch k g) (M 53) u h + zct full (zch k g) (M 53) h u 4 := rfl
              have hb1 := zsu_b hch hr (s := u) (n := full + 1) hu.1 (Nat.le_refl _)
              have hb2 := zsu_b hch hr (s := u) (n := h) hu.1 (by omega)
              have hb3 := zsu_mono hch hr.1 (s := u) (full + 1 - (h + 1)) (h + 1) (by omega)
              rw [show h + 1 + (full + 1 - (h + 1)) = full + 1 by omega] at hb3
              have hdv := zdv hcc.1 hcw.1
              have hmm : 0 ≤ M 53 h * zch k g w ∧ M 53 h * zch k g w ≤ 10000000000000 := ⟨Int.mul_nonneg hcc.1 hcw.1, by have := Int.mul_le_mul hcc.2 hcw.2 hcw.1 (show (0 : Int) ≤ 1000000000000 by decide); omega⟩
              have hvb : 0 ≤ M2 53 u ∧ M2 53 u + M 53 h * zch k g w / 10 ≤ 2000000000000 := by
                rw [hv, if_neg (by omega)]
                by_cases e : u = h
                · rw [if_pos e]; omega
                · rw [if_neg e]; omega
              refine x_aload_n 42 rfl dX5_spread_41 0 rfl rfl ?_
              refine x_getr 45 rfl fX5_22 dX5_spread_42 (lyl49 hL) (lys49 hL) (by decide) (53) rfl ?_
              refine x_iload_n 46 rfl dX5_spread_45 3 rfl rfl ?_
              refine x_iload 48 rfl dX5_spread_46 rfl ?_
              refine x_iload 50 rfl dX5_spread_48 rfl ?_
              refine y_iadd 51 rfl dX5_spread_50 (by omega) ?_
              refine x_cSi 54 rfl lX5_34 dX5_spread_51 c_min rfl rfl (Nat.le_of_ble_eq_true rfl) (fun r1 M3 hr1 => ?_)
              obtain ⟨hr2, hM3⟩ := hr1
              rw [hM3]
              subst hr2
              refine x_dup2ir 55 rfl dX5_spread_54 ?_
              refine x_lald 56 rfl dX5_spread_55 (lyl53 hL) (lys53 hL) (by omega) (by omega) ?_
              rw [show (min (full : Int) ((h : Int) + (w : Int))).toNat = min full (h + w) by omega]
              refine x_lload 58 rfl dX5_spread_56 rfl ?_
              refine x_aload_n 59 rfl dX5_spread_58 1 rfl rfl ?_
              refine x_iload_n 60 rfl dX5_spread_59 2 rfl rfl ?_
              refine x_iload 62 rfl dX5_spread_60 rfl ?_
              refine x_cVi 65 rfl lX5_82 dX5_spread_62 (lyl1 hL) (lys1 hL) (c_X7_chanceOf (ly_sh1 hL) hs2 hi (by omega) (by omega)) rfl rfl (Nat.le_of_ble_eq_true rfl) (fun r3 M4 hr3 => ?_)
              obtain ⟨hr4, hM4⟩ := hr3
              rw [hM4]
              rw [show ((g : Int)).toNat = g by omega, show ((w : Int)).toNat = w by omega] at hr4
              subst hr4
              rw [← eu]
              refine x_i2l 66 rfl dX5_spread_65 ?_
              refine y_lmul 67 rfl dX5_spread_66 (by omega) ?_
              refine x_ldc2 (x := 10) 70 rfl klX5_85 (by decide) dX5_spread_67 ?_
              refine x_ldiv 71 rfl dX5_spread_70 (by omega) ?_
              rw [z_ltdiv (by omega) (by omega) (by decide)]
              refine y_ladd 72 rfl dX5_spread_71 (by omega) ?_
              refine x_last 73 rfl dX5_spread_72 (lyl53 hL) (lys53 hL) (by omega) (by omega) ?_
              rw [show (min (full : Int) ((h : Int) + (w : Int))).toNat = min full (h + w) by omega]
              refine w_iinc 76 rfl dX5_spread_73 rfl (by decide) (by omega) rfl (ls' := [_, _, _, _, _, _, _, _]) rfl (by decide) ?_
              refine x_goto 28 dX5_spread_76 (by decide) ?_
              refine ih2 (w + 1) _ (by omega) (by omega) (fun s a => ?_) (fun i a => by rw [z_up_ne a]; exact hF2 i a)
              rw [← eu]
              have ew9 : zct full (zch k g) (M 53) h s (w + 1) = zct full (zch k g) (M 53) h s w + (if min full (h + w) = s then M 53 h * zch k g w / 10 else 0) := rfl
              by_cases e : s = u
              · rw [e, z_up_eq, hv, if_neg (show ¬ u < h by omega), ezs]; omega
              · rw [if_neg (show ¬ min full (h + w) = s by omega), Int.add_zero] at ew9
                rw [z_up_nk e, h2 s a, ew9]
      rw [show (full : Int) - (n : Int) = (h : Int) by omega]
      refine x_iload 5 rfl dX5_spread_3 rfl ?_
      refine x_if_lt 8 85 rfl dX5_spread_5 (by decide) (fun c5 => ?_) (fun c5 => ?_)
      · exfalso; omega
      · refine x_aload_n 9 rfl dX5_spread_8 0 rfl rfl ?_
        refine x_getr 12 rfl fX5_22 dX5_spread_9 (lyl49 hL) (lys49 hL) (by decide) (53) rfl ?_
        refine x_iload 14 rfl dX5_spread_12 rfl ?_
        refine x_lald 15 rfl dX5_spread_14 (lyl53 hL) (lys53 hL) (by omega) (by omega) ?_
        rw [show ((h : Int)).toNat = h by omega, ehc]
        refine y_lstore 17 rfl dX5_spread_15 rfl (ls' := [_, _, _, _, _, _, _, _]) rfl (by decide) ?_
        refine x_aload_n 18 rfl dX5_spread_17 0 rfl rfl ?_
        refine x_getr 21 rfl fX5_22 dX5_spread_18 (lyl49 hL) (lys49 hL) (by decide) (53) rfl ?_
        refine x_iload 23 rfl dX5_spread_21 rfl ?_
        refine x_lconst (x := 0) 24 rfl dX5_spread_23 rfl ?_
        refine x_last 25 rfl dX5_spread_24 (lyl53 hL) (lys53 hL) (by omega) (by omega) ?_
        rw [show ((h : Int)).toNat = h by omega]
        refine x_iconst 26 rfl dX5_spread_25 (by decide) ?_
        refine y_istore 28 rfl dX5_spread_26 rfl (ls' := [_, _, _, _, _, _, _, _]) rfl (by decide) ?_
        refine inner 5 0 _ (by omega) (by omega) (fun s hs9 => ?_) (fun i a => by rw [z_up_ne a]; exact hF i a)
        by_cases e : s = h
        · rw [e, z_up_eq, if_neg (show ¬ h < h by omega), if_pos rfl]; rfl
        · rw [z_up_nk e, h1 s hs9]
          rcases Nat.lt_or_ge s h with a | a
          · rw [if_pos (show s + n ≤ full by omega), if_pos a]
          · rw [if_neg (show ¬ s + n ≤ full by omega), if_neg (show ¬ s < h by omega), if_neg e, show full + 1 - n = h + 1 by omega]; show _ = _ + 0; omega
  refine zX_of pl_RX5 [some (zn 49), some (zn 1), some (zi (g : Int)), some (zi (full : Int)), none, none, none, none] 4 rfl rfl ?_
  refine x_iload_n 1 rfl dX5_spread_0 3 rfl rfl ?_
  refine y_istore 3 rfl dX5_spread_1 rfl (ls' := [_, _, _, _, _, _, _, _]) rfl (by decide) ?_
  refine z_wk (ls' := [some (zn 49), some (zn 1), some (zi (g : Int)), some (zi (full : Int)), some (zi ((full : Int) - ((0 : Nat) : Int))), none, none, none]) ⟨rfl, rfl, rfl, rfl, z_e (by omega), trivial⟩ (loop (full + 2) 0 M (by omega) (by omega) (fun s a => by rw [if_pos (by omega)]) (fun _ _ => rfl))
