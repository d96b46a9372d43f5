/-! years -/
theorem zwb_in {k : Nat → Int} {g : Nat} {d : Int} (hi : KI k) (hg : g < 4) : 0 ≤ zwb k g d ∧ zwb k g d ≤ 3 ∧ zwb k g d ≤ k (19 + g) := by
  have i2 := (hi.2.2.1 g hg).1
  unfold zwb
  split
  · omega
  · split
    · omega
    · split <;> omega
theorem kH_o {Lw : List gC} {k : Nat → Int} {g : Nat} {w : Int} {i : Nat} (hg : g < 4) (h : 23 ≤ i) : kH2 Lw (kH1 Lw k g w) i = k i := by
  rw [show kH2 Lw (kH1 Lw k g w) i = kH1 Lw k g w i by unfold kH2 kOff; rw [if_neg (by omega)]]
  exact kH1_o hg (by omega)
/-- n months by draws: what is kept, the latest draw, how many are gone -/
def zyg (s : (Nat → Int) × Int × Int) : Nat := (zdr s.2.1 % s.1 76).toNat
def zyw (s : (Nat → Int) × Int × Int) : Int := zwb s.1 (zyg s) (zdr (zdr s.2.1) % 10)
def zys (Lw : List gC) (s : (Nat → Int) × Int × Int) : (Nat → Int) × Int × Int := (kH2 Lw (kH1 Lw s.1 (zyg s) (zyw s)), zdr (zdr s.2.1), s.2.2 + zgone (zoffI Lw (kH1 Lw s.1 (zyg s) (zyw s))))
def zyr (Lw : List gC) (k : Nat → Int) (d : Int) : Nat → (Nat → Int) × Int × Int
  | 0 => (k, d, 0)
  | n + 1 => if 0 < zcrew (zyr Lw k d n).1 ∧ (zyr Lw k d n).1 2 < 71 then zys Lw (zyr Lw k d n) else zyr Lw k d n
theorem zyr_y {Lw : List gC} {k : Nat → Int} {d : Int} {n : Nat} (h : 0 < zcrew (zyr Lw k d n).1 ∧ (zyr Lw k d n).1 2 < 71) : zyr Lw k d (n + 1) = zys Lw (zyr Lw k d n) := by
  show (if _ then _ else _) = _
  exact if_pos h
theorem zyr_n {Lw : List gC} {k : Nat → Int} {d : Int} {n : Nat} (h : ¬ (0 < zcrew (zyr Lw k d n).1 ∧ (zyr Lw k d n).1 2 < 71)) : ∀ j, zyr Lw k d (n + j) = zyr Lw k d n
  | 0 => rfl
  | j + 1 => by
    have ih := zyr_n h j
    have e : zyr Lw k d (n + (j + 1)) = (if 0 < zcrew (zyr Lw k d (n + j)).1 ∧ (zyr Lw k d (n + j)).1 2 < 71 then zys Lw (zyr Lw k d (n + j)) else zyr Lw k d (n + j)) := rfl
    rw [e, ih]
    exact if_neg h
theorem zyg_in {s : (Nat → Int) × Int × Int} (h : 0 < s.1 76 ∧ s.1 76 ≤ 4) : zyg s < 4 ∧ ((zyg s : Nat) : Int) = zdr s.2.1 % s.1 76 ∧ zdr s.2.1 % s.1 76 < s.1 76 := by
  have h1 := Int.emod_nonneg (zdr s.2.1) (b := s.1 76) (by omega)
  have h2 := Int.emod_lt_of_pos (zdr s.2.1) (b := s.1 76) (by omega)
  unfold zyg
  omega
theorem zyr_in {Lw : List gC} {k : Nat → Int} {d : Int} (hi : KI k) (hg : 0 < k 76) (hd : 0 ≤ d ∧ d ≤ 1000003) : ∀ n : Nat, KI (zyr Lw k d n).1 ∧ (∀ i, 23 ≤ i → (zyr Lw k d n).1 i = k i) ∧ (0 ≤ (zyr Lw k d n).2.1 ∧ (zyr Lw k d n).2.1 ≤ 1000003) ∧ 0 ≤ (zyr Lw k d n).2.2 ∧ (zyr Lw k d n).2.2 ≤ 8 * (n : Int)
  | 0 => ⟨hi, fun _ _ => rfl, hd, by show (0 : Int) ≤ 0 ∧ (0 : Int) ≤ 8 * ((0 : Nat) : Int); decide⟩
  | n + 1 => by
    have ih := zyr_in (Lw := Lw) hi hg hd n
    rcases Classical.em (0 < zcrew (zyr Lw k d n).1 ∧ (zyr Lw k d n).1 2 < 71) with h | h
    · rw [zyr_y h]
      generalize zyr Lw k d n = s at ih h
      obtain ⟨h1, h2, h3, h4⟩ := ih
      have i1 := h1.1
      have h5 := zyg_in (s := s) ⟨by rw [h2 76 (by omega)]; exact hg, by omega⟩
      have h6 : 0 ≤ zyw s ∧ zyw s ≤ 3 ∧ zyw s ≤ s.1 (19 + zyg s) := zwb_in h1 h5.1
      have h7 := kH1_KI (Lw := Lw) h1 h5.1 (w := zyw s) ⟨h6.1, h6.2.2⟩ h.2
      have h8 := z01_sum (zoff01 (Lw := Lw) h7)
      have h9 := zdr_in (d := zdr s.2.1)
      refine ⟨kH2_KI h7, fun i h0 => ?_, ⟨h9.1, by show zdr (zdr s.2.1) ≤ 1000003; omega⟩, ?_⟩
      · show kH2 Lw (kH1 Lw s.1 (zyg s) (zyw s)) i = k i
        rw [kH_o h5.1 h0]
        exact h2 i h0
      · show 0 ≤ s.2.2 + zgone (zoffI Lw (kH1 Lw s.1 (zyg s) (zyw s))) ∧ s.2.2 + zgone (zoffI Lw (kH1 Lw s.1 (zyg s) (zyw s))) ≤ 8 * ((n + 1 : Nat) : Int)
        have h8 : 0 ≤ zgone (zoffI Lw (kH1 Lw s.1 (zyg s) (zyw s))) ∧ zgone (zoffI Lw (kH1 Lw s.1 (zyg s) (zyw s))) ≤ 8 := h8
        omega
    · rw [show zyr Lw k d (n + 1) = zyr Lw k d n from zyr_n h 1]
      obtain ⟨h1, h2, h3, h4⟩ := ih
      exact ⟨h1, h2, h3, by omega⟩
/-- all but what years writes -/
def yF (M M' : zMem) : Prop := (∀ i, i ≠ 55 → i ≠ 57 → i ≠ 60 → i ≠ 67 → i ≠ 68 → i ≠ 74 → M' i = M i) ∧ ∀ j, j ≠ 0 → j ≠ 22 → j ≠ 23 → j ≠ 24 → j ≠ 25 → j ≠ 43 → j ≠ 44 → j ≠ 45 → M' 55 j = M 55 j
theorem yF_up {M M' : zMem} {j : Nat} {v : Int} (h : yF M M') (hj : j = 0 ∨ j = 43 ∨ j = 44 ∨ j = 45) : yF M (z_up M' 55 j v) := ⟨fun i a b c d e f => by rw [z_up_ne a]; exact h.1 i a b c d e f, fun l a b c d e f g i => by rw [z_up_nk (by omega)]; exact h.2 l a b c d e f g i⟩
theorem yF_74 {M M' : zMem} {j : Nat} {v : Int} (h : yF M M') : yF M (z_up M' 74 j v) := ⟨fun i a b c d e f => by rw [z_up_ne f]; exact h.1 i a b c d e f, fun l a b c d e f g i => by rw [z_up_ne (by decide)]; exact h.2 l a b c d e f g i⟩
theorem yF_mup {M M' : zMem} {a : Nat} {f : Nat → Int} (h : yF M M') (ha : a = 57 ∨ a = 60 ∨ a = 68) : yF M (z_mup M' a f) := ⟨fun i a b c d e f => by rw [z_mup_ne (by omega)]; exact h.1 i a b c d e f, fun l a b c d e f g i => by rw [z_mup_ne (by omega)]; exact h.2 l a b c d e f g i⟩
theorem yF_mF {M M' M2 : zMem} (h : yF M M') (h1 : mF M' M2) : yF M M2 := ⟨fun i a b c d e f => (h1.1 i a d).trans (h.1 i a b c d e f), fun l a b c d e f g i => (h1.2 l b c d e).trans (h.2 l a b c d e f g i)⟩
theorem zblk_at {g f : Nat → Int} {B n j : Nat} (h : j < n) : zblk g f B n (B + j) = f j := by unfold zblk; rw [if_pos (by omega), show B + j - B = j by omega]
theorem zblk_ne {g f : Nat → Int} {B n j : Nat} (h : ¬ (B ≤ j ∧ j < B + n)) : zblk g f B n j = g j := by unfold zblk; rw [if_neg h]

set_option maxRecDepth 100000 in
set_option maxHeartbeats 4000000 in
theorem c_X11_years {d sz : Nat} {S : zSh} {M : zMem} (hL : LY S sz) (hi : KI (M 57)) (hr : ∀ i, i < 7 → 0 ≤ M 56 i ∧ M 56 i ≤ 1000000) {Lw : List gC} (hLw : LwI (M 57) Lw) {x y : Int} : zX (d + 46) 0 0 mX11_years [zn 55, zi x, zi y] sz S M (zI sz S (fun r M' => (¬ ((0 ≤ x ∧ x ≤ 1000000) ∧ (1 ≤ y ∧ y ≤ 60)) ∧ r = -1 ∧ M' = zRef M (-1)) ∨ (((0 ≤ x ∧ x ≤ 1000000) ∧ (1 ≤ y ∧ y ≤ 60)) ∧ M 57 76 = 0 ∧ r = -3 ∧ M' = zRef M (-3)) ∨ (((0 ≤ x ∧ x ≤ 1000000) ∧ (1 ≤ y ∧ y ≤ 60)) ∧ 0 < M 57 76 ∧ r = (zyr Lw (M 57) x y.toNat).2.2 ∧ (∀ j, j < 23 → M' 74 j = (zyr Lw (M 57) x y.toNat).1 j) ∧ M' 57 = M 57 ∧ M' 55 0 = 0 ∧ M' 55 43 = M 57 75 ∧ M' 55 44 = M 57 76 ∧ yF M M'))) := by
  have i1 := hi.1
  have fin : ((0 ≤ x ∧ x ≤ 1000000) ∧ (1 ≤ y ∧ y ≤ 60)) → 0 < M 57 76 → ∀ (q i : Nat) (M1 : zMem) (c : Int), 23 < q + i → i ≤ 23 → c = (zyr Lw (M 57) x y.toNat).2.2 → M1 57 = (zyr Lw (M 57) x y.toNat).1 → (∀ j, j < i → M1 74 j = (zyr Lw (M 57) x y.toNat).1 j) → M1 55 43 = M 57 75 → M1 55 44 = M 57 76 → M1 60 = zblk (M 60) (M 57) 23 23 → yF M M1 → zW mX11_years (d + 46) 0 0 [] (zI sz S (fun r M' => (¬ ((0 ≤ x ∧ x ≤ 1000000) ∧ (1 ≤ y ∧ y ≤ 60)) ∧ r = -1 ∧ M' = zRef M (-1)) ∨ (((0 ≤ x ∧ x ≤ 1000000) ∧ (1 ≤ y ∧ y ≤ 60)) ∧ M 57 76 = 0 ∧ r = -3 ∧ M' = zRef M (-3)) ∨ (((0 ≤ x ∧ x ≤ 1000000) ∧ (1 ≤ y ∧ y ≤ 60)) ∧ 0 < M 57 76 ∧ r = (zyr Lw (M 57) x y.toNat).2.2 ∧ (∀ j, j < 23 → M' 74 j = (zyr Lw (M 57) x y.toNat).1 j) ∧ M' 57 = M 57 ∧ M' 55 0 = 0 ∧ M' 55 43 = M 57 75 ∧ M' 55 44 = M 57 76 ∧ yF M M'))) 133 [some (zn 55), some (zi x), some (zi y), some (zi c), some (zi i), none] [] sz S M1 := by
    intro hor hg q
    induction q with
    | zero => intro i M1 c hq hn; omega
    | succ q ih =>
      intro i M1 c hq hn hc h57 h74 h43 h44 h60 hF
      have hy := zyr_in (Lw := Lw) hi hg (d := x) (by omega) y.toNat
      refine x_iload 135 rfl dX11_years_133 rfl ?_
      refine x_bipush 137 rfl dX11_years_135 (by decide) ?_
      refine x_icmp_ge 140 160 rfl dX11_years_137 (by decide) (fun c137 => ?_) (fun c137 => ?_)
      · refine x_aload_n 161 rfl dX11_years_160 0 rfl rfl ?_
        refine x_iconst 162 rfl dX11_years_161 (by decide) ?_
        refine x_cVu 165 rfl lX11_425 dX11_years_162 (lyl55 hL) (lys55 hL) (c_X11_takesBack hL (by decide)) rfl rfl (Nat.le_of_ble_eq_true rfl) (fun M2 hM2 => ?_)
        refine x_aload_n 166 rfl dX11_years_165 0 rfl rfl ?_
        refine x_iload_n 167 rfl dX11_years_166 3 rfl rfl ?_
        refine x_cVi 170 rfl lX11_14 dX11_years_167 (lyl55 hL) (lys55 hL) (c_X11_good hL) rfl rfl (Nat.le_of_ble_eq_true rfl) (fun r3 M3 hr3 => ?_)
        obtain ⟨hr4, hM3⟩ := hr3
        refine x_reti dX11_years_170 rfl ?_
        have ei : i = 23 := by omega
        subst ei
        refine Or.inr (Or.inr ⟨hor, hg, by rw [hr4, hc], ?_⟩)
        rw [hM3, hM2]
        refine ⟨fun j hj => ?_, ?_, z_up_eq, ?_, ?_, yF_up (yF_mup hF (by omega)) (by omega)⟩
        · rw [z_up_ne (by decide), z_mup_ne (by decide)]; exact h74 j hj
        · rw [z_up_ne (by decide), z_mup_eq, h60, h57]
          funext j
          by_cases hj : j < 23
          · rw [← show 0 + j = j by omega, zblk_at hj]
            show zblk (M 60) (M 57) 23 23 (23 + j) = M 57 (0 + j)
            rw [zblk_at hj, show 0 + j = j by omega]
          · rw [zblk_ne (by omega)]; exact hy.2.1 j (by omega)
        · rw [z_up_nk (by decide), z_mup_ne (by decide)]; exact h43
        · rw [z_up_nk (by decide), z_mup_ne (by decide)]; exact h44
      · refine x_aload_n 141 rfl dX11_years_140 0 rfl rfl ?_
        refine x_getr 144 rfl fX11_84 dX11_years_141 (lyl55 hL) (lys55 hL) (by decide) (74) rfl ?_
        refine x_iload 146 rfl dX11_years_144 rfl ?_
        refine x_aload_n 147 rfl dX11_years_146 0 rfl rfl ?_
        refine x_getr 150 rfl fX11_24 dX11_years_147 (lyl55 hL) (lys55 hL) (by decide) (57) rfl ?_
        refine x_iload 152 rfl dX11_years_150 rfl ?_
        refine x_iald 153 rfl dX11_years_152 (lyl57 hL) (lys57 hL) (by omega) (by omega) ?_
        refine x_iast 154 rfl dX11_years_153 (lyl74 hL) (lys74 hL) (by omega) (by omega) ?_
        refine w_iinc 157 rfl dX11_years_154 rfl (by decide) (by omega) rfl (ls' := [_, _, _, _, _, _]) rfl (by decide) ?_
        refine x_goto 133 dX11_years_157 (by decide) ?_
        exact ih (i + 1) _ c (by omega) (by omega) hc (by rw [z_up_ne (by decide)]; exact h57) (fun j hj => by
          by_cases hji : j = i
          · rw [hji, show ((i : Int)).toNat = i by omega, z_up_eq, h57]
          · rw [z_up_nk (by omega)]; exact h74 j (by omega)) (by rw [z_up_ne (by decide)]; exact h43) (by rw [z_up_ne (by decide)]; exact h44) (by rw [z_up_ne (by decide)]; exact h60) (yF_74 hF)
  have loop : ((0 ≤ x ∧ x ≤ 1000000) ∧ (1 ≤ y ∧ y ≤ 60)) → 0 < M 57 76 → ∀ (q i : Nat) (M1 : zMem) (kk : Nat → Int) (dd c : Int), y.toNat < q + i → i ≤ y.toNat → zyr Lw (M 57) x i = (kk, dd, c) → M1 57 = kk → M1 55 45 = dd → M1 55 43 = M 57 75 → M1 55 44 = M 57 76 → M1 60 = zblk (M 60) (M 57) 23 23 → yF M M1 → zW mX11_years (d + 46) 0 0 [] (zI sz S (fun r M' => (¬ ((0 ≤ x ∧ x ≤ 1000000) ∧ (1 ≤ y ∧ y ≤ 60)) ∧ r = -1 ∧ M' = zRef M (-1)) ∨ (((0 ≤ x ∧ x ≤ 1000000) ∧ (1 ≤ y ∧ y ≤ 60)) ∧ M 57 76 = 0 ∧ r = -3 ∧ M' = zRef M (-3)) ∨ (((0 ≤ x ∧ x ≤ 1000000) ∧ (1 ≤ y ∧ y ≤ 60)) ∧ 0 < M 57 76 ∧ r = (zyr Lw (M 57) x y.toNat).2.2 ∧ (∀ j, j < 23 → M' 74 j = (zyr Lw (M 57) x y.toNat).1 j) ∧ M' 57 = M 57 ∧ M' 55 0 = 0 ∧ M' 55 43 = M 57 75 ∧ M' 55 44 = M 57 76 ∧ yF M M'))) 80 [some (zn 55), some (zi x), some (zi y), some (zi c), some (zi i), none] [] sz S M1 := by
    intro hor hg q
    induction q with
    | zero => intro i M1 kk dd c hq hn; omega
    | succ q ih =>
      intro i M1 kk dd c hq hn hz h57 h45 h43 h44 h60 hF
      have hy := zyr_in (Lw := Lw) hi hg (d := x) (by omega) i
      rw [hz] at hy
      obtain ⟨hk, hko, hd0, hc0⟩ := hy
      have hk : KI kk := hk
      have hk1 : KI (M1 57) := by rw [h57]; exact hk
      have hko : ∀ i, 23 ≤ i → kk i = M 57 i := hko
      have hd0 : 0 ≤ dd ∧ dd ≤ 1000003 := hd0
      have hc0 : 0 ≤ c ∧ c ≤ 8 * (i : Int) := hc0
      have k76 := hko 76 (by omega)
      have hd1 := zdr_in (d := dd)
      have hs := zyg_in (s := (kk, dd, c)) ⟨by show 0 < kk 76; omega, by show kk 76 ≤ 4; omega⟩
      have hs : zyg (kk, dd, c) < 4 ∧ ((zyg (kk, dd, c) : Nat) : Int) = zdr dd % kk 76 ∧ zdr dd % kk 76 < kk 76 := hs
      have hw := zwb_in (d := zdr (zdr dd) % 10) hk hs.1
      refine x_iload 82 rfl dX11_years_80 rfl ?_
      refine x_iload_n 83 rfl dX11_years_82 2 rfl rfl ?_
      refine x_icmp_ge 86 130 rfl dX11_years_83 (by decide) (fun c83 => ?_) (fun c83 => ?_)
      · refine x_iconst 131 rfl dX11_years_130 (by decide) ?_
        refine y_istore 133 rfl dX11_years_131 rfl (ls' := [_, _, _, _, _, _]) rfl (by decide) ?_
        have ei : i = y.toNat := by omega
        exact fin hor hg 24 0 M1 c (by omega) (by omega) (by rw [← ei, hz]) (by rw [← ei, hz, h57]) (fun j hj => by omega) h43 h44 h60 hF
      · refine x_aload_n 87 rfl dX11_years_86 0 rfl rfl ?_
        refine x_cVi 90 rfl lX11_334 dX11_years_87 (lyl55 hL) (lys55 hL) (c_X11_canSail hL hk1) rfl rfl (Nat.le_of_ble_eq_true rfl) (fun r1 M2 hr1 => ?_)
        obtain ⟨hr2, hM2⟩ := hr1
        rw [hM2]
        rw [h57] at hr2
        refine x_if_eq 93 130 rfl dX11_years_90 (by decide) (fun c90 => ?_) (fun c90 => ?_)
        · have hno : ¬ (0 < zcrew kk ∧ kk 2 < 71) := fun h9 => by rw [if_pos h9] at hr2; omega
          have hst := zyr_n (Lw := Lw) (k := M 57) (d := x) (n := i) (by rw [hz]; exact hno) (y.toNat - i)
          rw [show i + (y.toNat - i) = y.toNat by omega, hz] at hst
          refine x_iconst 131 rfl dX11_years_130 (by decide) ?_
          refine y_istore 133 rfl dX11_years_131 rfl (ls' := [_, _, _, _, _, _]) rfl (by decide) ?_
          exact fin hor hg 24 0 M1 c (by omega) (by omega) (by rw [hst]) (by rw [hst]; exact h57) (fun j hj => by omega) h43 h44 h60 hF
        · have hgo : 0 < zcrew kk ∧ kk 2 < 71 := Decidable.byContradiction (fun h9 => by rw [if_neg h9] at hr2; omega)
          have hst := zyr_y (Lw := Lw) (k := M 57) (d := x) (n := i) (by rw [hz]; exact hgo)
          rw [hz] at hst
          refine x_aload_n 94 rfl dX11_years_93 0 rfl rfl ?_
          refine x_aload_n 95 rfl dX11_years_94 0 rfl rfl ?_
          refine x_geti 98 rfl fX11_460 dX11_years_95 (lyl55 hL) (lys55 hL) (by decide) ?_
          try simp (disch := omega) only [z_up_ne, z_up_nk, z_up_eq, z_mup_ne, z_mup_eq, Int.reduceToNat, Int.toNat_natCast]
          refine x_cVi 101 rfl lX11_463 dX11_years_98 (lyl55 hL) (lys55 hL) (c_X11_draws hL (by omega) (by omega)) rfl rfl (Nat.le_of_ble_eq_true rfl) (fun g4 M4 hg4 => ?_)
          obtain ⟨hg4a, hM4⟩ := hg4
          rw [hM4]
          rw [h45, h44, ← k76, ← hs.2.1] at hg4a
          subst hg4a
          rw [h45]
          refine y_istore 103 rfl dX11_years_101 rfl (ls' := [_, _, _, _, _, _]) rfl (by decide) ?_
          refine x_iload_n 104 rfl dX11_years_103 3 rfl rfl ?_
          refine x_aload_n 105 rfl dX11_years_104 0 rfl rfl ?_
          refine x_iload 107 rfl dX11_years_105 rfl ?_
          refine x_aload_n 108 rfl dX11_years_107 0 rfl rfl ?_
          refine x_iload 110 rfl dX11_years_108 rfl ?_
          refine x_aload_n 111 rfl dX11_years_110 0 rfl rfl ?_
          refine x_bipush 113 rfl dX11_years_111 (by decide) ?_
          refine x_cVi5 116 rfl lX11_463 dX11_years_113 (lyl55 hL) (lys55 hL) (c_X11_draws hL (by rw [z_up_eq]; omega) (by omega)) rfl rfl (fun _ => Nat.le_of_ble_eq_true rfl) (fun g5 M5 hg5 => ?_)
          obtain ⟨hg5a, hM5⟩ := hg5
          rw [hM5]
          rw [z_up_eq] at hg5a ⊢
          refine x_cVi 119 rfl lX11_466 dX11_years_116 (lyl55 hL) (lys55 hL) (c_X11_whalesBy hL (by rw [z_up_ne (by decide), z_up_ne (by decide)]; exact hk1) (by omega)) rfl rfl (Nat.le_of_ble_eq_true rfl) (fun w6 M6 hw6 => ?_)
          obtain ⟨hw6a, hM6⟩ := hw6
          rw [hM6]
          rw [z_up_ne (by decide), z_up_ne (by decide), h57, hg5a, show ((zyg (kk, dd, c) : Nat) : Int).toNat = zyg (kk, dd, c) by omega] at hw6a
          refine x_cVi 122 rfl lX11_340 dX11_years_119 (lyl55 hL) (lys55 hL) (c_X11_hunts (Lw := Lw) hL (by rw [z_up_ne (by decide), z_up_ne (by decide)]; exact hk1) (by rw [z_up_ne (by decide), z_up_ne (by decide), h57]; exact LwI_frame hLw (fun i h => hko i (by omega))) (by omega) (by omega) (by rw [z_up_ne (by decide), z_up_ne (by decide), h57, show ((zyg (kk, dd, c) : Nat) : Int).toNat = zyg (kk, dd, c) by omega, hw6a]; exact hw.2.2) (by rw [z_up_ne (by decide), z_up_ne (by decide), h57]; exact hgo.2)) rfl rfl (Nat.le_of_ble_eq_true rfl) (fun r7 M7 hr7 => ?_)
          obtain ⟨g, hg7, hr8, f, hF7⟩ := hr7
          rw [z_up_ne (by decide) (i := 57), z_up_ne (by decide) (i := 57), h57, show ((zyg (kk, dd, c) : Nat) : Int).toNat = zyg (kk, dd, c) by omega, hw6a] at hg7 hF7
          subst hg7
          have hr8 : r7 = zgone (zoffI Lw (kH1 Lw kk (zyg (kk, dd, c)) (zwb kk (zyg (kk, dd, c)) (zdr (zdr dd) % 10)))) := hr8
          have hr9 := z01_sum (zoff01 (Lw := Lw) (kH1_KI (Lw := Lw) hk hs.1 (w := zwb kk (zyg (kk, dd, c)) (zdr (zdr dd) % 10)) ⟨hw.1, hw.2.2⟩ hgo.2))
          have hr9 : 0 ≤ r7 ∧ r7 ≤ 8 := by rw [hr8]; exact hr9
          subst hr8
          refine y_iadd 123 rfl dX11_years_122 (by omega) ?_
          refine y_istore_n 124 rfl dX11_years_123 rfl rfl (ls' := [_, _, _, _, _, _]) rfl (by decide) ?_
          refine w_iinc 127 rfl dX11_years_124 rfl (by decide) (by omega) rfl (ls' := [_, _, _, _, _, _]) rfl (by decide) ?_
          refine x_goto 80 dX11_years_127 (by decide) ?_
          refine z_wk (ls' := [some (zn 55), some (zi x), some (zi y), some (zi _), some (zi _), none]) ⟨rfl, rfl, rfl, rfl, rfl, trivial⟩ (ih (i + 1) M7 _ _ _ (by omega) (by omega) hst ?_ ?_ ?_ ?_ ?_ ?_)
          · rw [hF7.1 57 (by decide) (by decide), z_mup_eq]; rfl
          · rw [hF7.2 45 (by decide) (by decide) (by decide) (by decide), z_mup_ne (by decide), z_mup_ne (by decide), z_up_eq]
          · rw [hF7.2 43 (by decide) (by decide) (by decide) (by decide), z_mup_ne (by decide), z_mup_ne (by decide), z_up_nk (by decide), z_up_nk (by decide)]; exact h43
          · rw [hF7.2 44 (by decide) (by decide) (by decide) (by decide), z_mup_ne (by decide), z_mup_ne (by decide), z_up_nk (by decide), z_up_nk (by decide)]; exact h44
          · rw [hF7.1 60 (by decide) (by decide), z_mup_ne (by decide), z_mup_ne (by decide), z_up_ne (by decide), z_up_ne (by decide)]; exact h60
          · exact yF_mF (yF_mup (yF_mup (yF_up (yF_up hF (by omega)) (by omega)) (by omega)) (by omega)) hF7
  refine zX_of pl_RX11 [some (zn 55), some (zi x), some (zi y), none, none, none] 3 rfl rfl ?_
  refine x_iload_n 1 rfl dX11_years_0 1 rfl rfl ?_
  refine x_iconst 2 rfl dX11_years_1 (by decide) ?_
  refine x_ldc (x := 1000000) 4 rfl kX11_161 (by decide) dX11_years_2 ?_
  refine x_cSi 7 rfl lX11_90 dX11_years_4 c_X11_lies rfl rfl (Nat.le_of_ble_eq_true rfl) (fun a M21 ha => ?_)
  obtain ⟨har, haM⟩ := ha
  rw [haM]
  refine x_if_eq 10 20 rfl dX11_years_7 (by decide) (fun c7 => ?_) (fun c7 => ?_)
  · have hx : ¬ (0 ≤ x ∧ x ≤ 1000000) := fun h9 => by rw [if_pos h9] at har; omega
    refine x_aload_n 21 rfl dX11_years_20 0 rfl rfl ?_
    refine x_iconst 22 rfl dX11_years_21 (by decide) ?_
    refine x_cVi 25 rfl lX11_94 dX11_years_22 (lyl55 hL) (lys55 hL) (c_X11_refuses hL hr (by decide)) rfl rfl (Nat.le_of_ble_eq_true rfl) (fun r23 M23 hq23 => ?_)
    obtain ⟨hq23a, hq23b⟩ := hq23
    refine x_reti dX11_years_25 rfl ?_
    exact Or.inl ⟨fun h9 => hx h9.1, hq23a, hq23b⟩
  · have hx : 0 ≤ x ∧ x ≤ 1000000 := Decidable.byContradiction (fun h9 => by rw [if_neg h9] at har; omega)
    refine x_iload_n 11 rfl dX11_years_10 2 rfl rfl ?_
    refine x_iconst 12 rfl dX11_years_11 (by decide) ?_
    refine x_bipush 14 rfl dX11_years_12 (by decide) ?_
    refine x_cSi 17 rfl lX11_90 dX11_years_14 c_X11_lies rfl rfl (Nat.le_of_ble_eq_true rfl) (fun b M22 hb => ?_)
    obtain ⟨hbr, hbM⟩ := hb
    rw [hbM]
    refine x_if_ne 20 26 rfl dX11_years_17 (by decide) (fun c17 => ?_) (fun c17 => ?_)
    · have hx2 : 1 ≤ y ∧ y ≤ 60 := Decidable.byContradiction (fun h9 => by rw [if_neg h9] at hbr; omega)
      refine x_aload_n 27 rfl dX11_years_26 0 rfl rfl ?_
      refine x_getr 30 rfl fX11_24 dX11_years_27 (lyl55 hL) (lys55 hL) (by decide) (57) rfl ?_
      refine x_bipush 32 rfl dX11_years_30 (by decide) ?_
      refine x_ialk 33 rfl dX11_years_32 (lyl57 hL) (lys57 hL) 76 rfl (by decide) ?_
      try simp (disch := omega) only [z_up_ne, z_up_nk, z_up_eq, z_mup_ne, z_mup_eq, Int.reduceToNat, Int.toNat_natCast]
      refine x_if_ne 36 43 rfl dX11_years_33 (by decide) (fun c33 => ?_) (fun c33 => ?_)
      · refine x_aload_n 44 rfl dX11_years_43 0 rfl rfl ?_
        refine x_iload_n 45 rfl dX11_years_44 1 rfl rfl ?_
        refine x_puti 48 rfl fX11_453 dX11_years_45 (lyl55 hL) (lys55 hL) (by decide) ?_
        refine x_aload_n 49 rfl dX11_years_48 0 rfl rfl ?_
        refine x_aload_n 50 rfl dX11_years_49 0 rfl rfl ?_
        refine x_getr 53 rfl fX11_24 dX11_years_50 (lyl55 hL) (lys55 hL) (by decide) (57) rfl ?_
        refine x_bipush 55 rfl dX11_years_53 (by decide) ?_
        refine x_ialk 56 rfl dX11_years_55 (lyl57 hL) (lys57 hL) 75 rfl (by decide) ?_
        try simp (disch := omega) only [z_up_ne, z_up_nk, z_up_eq, z_mup_ne, z_mup_eq, Int.reduceToNat, Int.toNat_natCast]
        refine x_puti 59 rfl fX11_87 dX11_years_56 (lyl55 hL) (lys55 hL) (by decide) ?_
        refine x_aload_n 60 rfl dX11_years_59 0 rfl rfl ?_
        refine x_aload_n 61 rfl dX11_years_60 0 rfl rfl ?_
        refine x_getr 64 rfl fX11_24 dX11_years_61 (lyl55 hL) (lys55 hL) (by decide) (57) rfl ?_
        refine x_bipush 66 rfl dX11_years_64 (by decide) ?_
        refine x_ialk 67 rfl dX11_years_66 (lyl57 hL) (lys57 hL) 76 rfl (by decide) ?_
        try simp (disch := omega) only [z_up_ne, z_up_nk, z_up_eq, z_mup_ne, z_mup_eq, Int.reduceToNat, Int.toNat_natCast]
        refine x_puti 70 rfl fX11_460 dX11_years_67 (lyl55 hL) (lys55 hL) (by decide) ?_
        refine x_aload_n 71 rfl dX11_years_70 0 rfl rfl ?_
        refine x_iconst 72 rfl dX11_years_71 (by decide) ?_
        refine x_cVu 75 rfl lX11_416 dX11_years_72 (lyl55 hL) (lys55 hL) (c_X11_laysAside hL (by decide)) rfl rfl (Nat.le_of_ble_eq_true rfl) (fun M8 hM8 => ?_)
        rw [hM8]
        try simp (disch := omega) only [z_up_ne, z_up_nk]
        refine x_iconst 76 rfl dX11_years_75 (by decide) ?_
        refine y_istore_n 77 rfl dX11_years_76 rfl rfl (ls' := [_, _, _, _, _, _]) rfl (by decide) ?_
        refine x_iconst 78 rfl dX11_years_77 (by decide) ?_
        refine y_istore 80 rfl dX11_years_78 rfl (ls' := [_, _, _, _, _, _]) rfl (by decide) ?_
        refine loop ⟨hx, hx2⟩ (by omega) (y.toNat + 1) 0 _ (M 57) x 0 (by omega) (by omega) rfl ?_ ?_ ?_ ?_ ?_ ?_
        · rw [z_mup_ne (by decide), z_up_ne (by decide), z_up_ne (by decide), z_up_ne (by decide)]
        · rw [z_mup_ne (by decide), z_up_nk (by decide), z_up_nk (by decide), z_up_eq]
        · rw [z_mup_ne (by decide), z_up_nk (by decide), z_up_eq]
        · rw [z_mup_ne (by decide), z_up_eq]
        · rw [z_mup_eq]; rfl
        · exact yF_mup (yF_up (yF_up (yF_up ⟨fun i _ _ _ _ _ _ => rfl, fun j _ _ _ _ _ _ _ _ => rfl⟩ (by omega)) (by omega)) (by omega)) (by omega)
      · refine x_aload_n 37 rfl dX11_years_36 0 rfl rfl ?_
        refine x_bipush 39 rfl dX11_years_37 (by decide) ?_
        refine x_cVi 42 rfl lX11_94 dX11_years_39 (lyl55 hL) (lys55 hL) (c_X11_refuses hL hr (by decide)) rfl rfl (Nat.le_of_ble_eq_true rfl) (fun r24 M24 hq24 => ?_)
        obtain ⟨hq24a, hq24b⟩ := hq24
        refine x_reti dX11_years_42 rfl ?_
        exact Or.inr (Or.inl ⟨⟨hx, hx2⟩, by omega, hq24a, hq24b⟩)
    · have hx2 : ¬ (1 ≤ y ∧ y ≤ 60) := fun h9 => by rw [if_pos h9] at hbr; omega
      refine x_aload_n 21 rfl dX11_years_20 0 rfl rfl ?_
      refine x_iconst 22 rfl dX11_years_21 (by decide) ?_
      refine x_cVi 25 rfl lX11_94 dX11_years_22 (lyl55 hL) (lys55 hL) (c_X11_refuses hL hr (by decide)) rfl rfl (Nat.le_of_ble_eq_true rfl) (fun r23 M23 hq23 => ?_)
      obtain ⟨hq23a, hq23b⟩ := hq23
      refine x_reti dX11_years_25 rfl ?_
      exact Or.inl ⟨fun h9 => hx2 h9.2, hq23a, hq23b⟩
