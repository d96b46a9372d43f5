/-! law, on the reference's side: as it is called -/
def kLaw (k c v : Nat → Int) (n : Nat) : Nat → Int := ku (kLs k (k 78).toNat c v (n : Int) n) 78 (k 78 + 1)
theorem kLs_lo {k c v : Nat → Int} {t i : Nat} {n : Int} {j : Nat} (h : j < 80) : kLs k t c v n i j = k j := by
  unfold kLs
  rw [if_neg (by omega), if_neg (by omega), if_neg (by omega)]
theorem kLaw_78 {k c v : Nat → Int} {n : Nat} : kLaw k c v n 78 = k 78 + 1 := by unfold kLaw; exact ku_eq
theorem kLaw_lo {k c v : Nat → Int} {n j : Nat} (h : j < 80) (h1 : j ≠ 78) : kLaw k c v n j = k j := by
  unfold kLaw
  rw [ku_ne h1, kLs_lo h]

set_option maxRecDepth 100000 in
set_option maxHeartbeats 4000000 in
theorem c_X11_law {d sz : Nat} {S : zSh} {M : zMem} (hL : LY S sz) {size : Nat} (h13 : M 55 13 = (size : Int)) (hs : size ≤ 400) (hW : wdI M) (hB : tbI M) {T : tS} (hT : tkG (mC (tb M)) (mV (tb M)) (tb M) size 401 0 (0, M 64, M 65, M 66) = T) {cd0 : Nat → Int} {R : Nat ⊕ (gS × List gC)} (hq : g_text false (ku T.2.1 T.1 0) (ku T.2.2.1 T.1 0) T.1 12 (gz cd0) [] = R) (hi : KI (M 57)) (hr : ∀ i, i < 7 → 0 ≤ M 56 i ∧ M 56 i ≤ 1000000) (hn4 : T.1 ≤ 400)  : zX (d + 37) 0 0 mX11_law [zn 55] sz S M (zI sz S (fun r M' => (M 57 78 = 6 ∧ r = -5 ∧ M' = zRef (z_up M 55 13 0) (-5)) ∨ (M 57 78 < 6 ∧ ∃ (t : Nat) (x y : Int), R = .inl t ∧ r = -6 ∧ M' = zRef (lwN M false (T.1 : Int) (ku T.2.1 T.1 0) (ku T.2.2.1 T.1 0) (ku T.2.2.2 T.1 (size : Int)) (ku T.2.2.2 T.1 (size : Int) t) x y) (-6)) ∨ (M 57 78 < 6 ∧ ∃ (q : gS × List gC) (x y : Int), R = .inr q ∧ r = M 57 78 ∧ M' = z_up (z_mup (lwN M false (T.1 : Int) (ku T.2.1 T.1 0) (ku T.2.2.1 T.1 0) (ku T.2.2.2 T.1 (size : Int)) (-1) x y) 57 (kLaw (M 57) (ku T.2.1 T.1 0) (ku T.2.2.1 T.1 0) T.1)) 55 0 0))) := by
  have i1 := hi.1
  refine zX_of pl_RX11 [some (zn 55)] 0 rfl rfl ?_
  refine x_aload_n 1 rfl dX11_law_0 0 rfl rfl ?_
  refine x_getr 4 rfl fX11_24 dX11_law_1 (lyl55 hL) (lys55 hL) (by decide) (57) rfl ?_
  refine x_bipush 6 rfl dX11_law_4 (by decide) ?_
  refine x_ialk 7 rfl dX11_law_6 (lyl57 hL) (lys57 hL) 78 rfl (by decide) ?_
  refine x_bipush 9 rfl dX11_law_7 (by decide) ?_
  refine x_icmp_ne 12 24 rfl dX11_law_9 (by decide) (fun c9 => ?_) (fun c9 => ?_)
  · refine x_aload_n 25 rfl dX11_law_24 0 rfl rfl ?_
    refine x_iconst 26 rfl dX11_law_25 (by decide) ?_
    refine x_cVi 29 rfl lX11_239 dX11_law_26 (lyl55 hL) (lys55 hL) (c_X11_readsAs_f hL h13 hs hW hB hT hq) rfl rfl (Nat.le_of_ble_eq_true rfl) (fun r1 M1 hr1 => ?_)
    rcases hr1 with ⟨t, hR1, hr1, x, y, hM1⟩ | ⟨⟨qq, hR1⟩, hr1, x, y, hM1⟩
    · rw [hM1]
      refine x_if_ne 32 39 rfl dX11_law_29 (by decide) (fun c29 => ?_) (fun c29 => ?_)
      · exfalso; omega
      · refine x_aload_n 33 rfl dX11_law_32 0 rfl rfl ?_
        refine x_bipush 35 rfl dX11_law_33 (by decide) ?_
        refine x_cVi 38 rfl lX11_94 dX11_law_35 (lyl55 hL) (lys55 hL) (c_X11_refuses hL (by rw [lwN_ne (by decide) (by decide) (by decide) (by decide)]; exact hr) (by decide)) rfl rfl (Nat.le_of_ble_eq_true rfl) (fun r7 M7 hr7 => ?_)
        obtain ⟨hr8, hM7⟩ := hr7
        refine x_reti dX11_law_38 rfl ?_
        exact Or.inr (Or.inl ⟨by omega, t, x, y, hR1, hr8, hM7⟩)
    · rw [hM1]
      refine x_if_ne 32 39 rfl dX11_law_29 (by decide) (fun c29 => ?_) (fun c29 => ?_)
      · refine x_aload_n 40 rfl dX11_law_39 0 rfl rfl ?_
        refine x_aload_n 41 rfl dX11_law_40 0 rfl rfl ?_
        refine x_getr 44 rfl fX11_24 dX11_law_41 (lyl55 hL) (lys55 hL) (by decide) (57) rfl ?_
        refine x_bipush 46 rfl dX11_law_44 (by decide) ?_
        refine x_ialk 47 rfl dX11_law_46 (lyl57 hL) (lys57 hL) 78 rfl (by decide) ?_
        rw [lwN_ne (i := 57) (by decide) (by decide) (by decide) (by decide)]
        refine x_cVu 50 rfl lX11_243 dX11_law_47 (lyl55 hL) (lys55 hL) (c_X11_lays hL (by omega) lwN_18 hn4) rfl rfl (Nat.le_of_ble_eq_true rfl) (fun M2 hM2 => ?_)
        rw [hM2, lwN_64, lwN_65, lwN_ne (i := 57) (by decide) (by decide) (by decide) (by decide)]
        refine x_aload_n 51 rfl dX11_law_50 0 rfl rfl ?_
        refine x_getr 54 rfl fX11_24 dX11_law_51 (lyl55 hL) (lys55 hL) (by decide) (57) rfl ?_
        refine x_bipush 56 rfl dX11_law_54 (by decide) ?_
        refine x_dup2ir 57 rfl dX11_law_56 ?_
        refine x_ialk 58 rfl dX11_law_57 (lyl57 hL) (lys57 hL) 78 rfl (by decide) ?_
        rw [z_mup_eq, kLs_lo (by decide)]
        refine x_iconst 59 rfl dX11_law_58 (by decide) ?_
        refine y_iadd 60 rfl dX11_law_59 (by omega) ?_
        refine x_iastk 61 rfl dX11_law_60 (lyl57 hL) (lys57 hL) 78 rfl (by decide) ?_
        refine z_mem (M' := z_mup (lwN M false (T.1 : Int) (ku T.2.1 T.1 0) (ku T.2.2.1 T.1 0) (ku T.2.2.2 T.1 (size : Int)) (-1) x y) 57 (kLaw (M 57) (ku T.2.1 T.1 0) (ku T.2.2.1 T.1 0) T.1)) ?_ ?_
        · rw [z_mupm]; rfl
        refine x_aload_n 62 rfl dX11_law_61 0 rfl rfl ?_
        refine x_aload_n 63 rfl dX11_law_62 0 rfl rfl ?_
        refine x_getr 66 rfl fX11_24 dX11_law_63 (lyl55 hL) (lys55 hL) (by decide) (57) rfl ?_
        refine x_bipush 68 rfl dX11_law_66 (by decide) ?_
        refine x_ialk 69 rfl dX11_law_68 (lyl57 hL) (lys57 hL) 78 rfl (by decide) ?_
        rw [z_mup_eq, kLaw_78]
        refine x_iconst 70 rfl dX11_law_69 (by decide) ?_
        refine y_isub 71 rfl dX11_law_70 (by omega) ?_
        refine x_cVi 74 rfl lX11_14 dX11_law_71 (lyl55 hL) (lys55 hL) (c_X11_good hL) rfl rfl (Nat.le_of_ble_eq_true rfl) (fun r9 M9 hr9 => ?_)
        obtain ⟨hr10, hM9⟩ := hr9
        refine x_reti dX11_law_74 rfl ?_
        refine Or.inr (Or.inr ⟨by omega, qq, x, y, hR1, ?_, hM9⟩)
        rw [hr10]; omega
      · exfalso; omega
  · refine x_aload_n 13 rfl dX11_law_12 0 rfl rfl ?_
    refine x_iconst 14 rfl dX11_law_13 (by decide) ?_
    refine x_puti 17 rfl fX11_143 dX11_law_14 (lyl55 hL) (lys55 hL) (by decide) ?_
    refine x_aload_n 18 rfl dX11_law_17 0 rfl rfl ?_
    refine x_bipush 20 rfl dX11_law_18 (by decide) ?_
    refine x_cVi 23 rfl lX11_94 dX11_law_20 (lyl55 hL) (lys55 hL) (c_X11_refuses hL (by rw [z_up_ne (by decide)]; exact hr) (by decide)) rfl rfl (Nat.le_of_ble_eq_true rfl) (fun r5 M5 hr5 => ?_)
    obtain ⟨hr6, hM5⟩ := hr5
    refine x_reti dX11_law_23 rfl ?_
    exact Or.inl ⟨by omega, hr6, hM5⟩
