set_option maxRecDepth 100000 in
set_option maxHeartbeats 4000000 in
theorem c_X11_part_b {d sz : Nat} {S : zSh} {M : zMem} (hL : LY S sz) {B n : Nat} {c v : Nat → Int} (hM : EVM M B n c v) (hT : TK c v n) {live b : Int} (hlv : live = 0 ∨ live = 1) (hb : b = 0 ∨ b = 1) {o : Bool} {s s1 : gS} {w : gV} (hs : s.1 < n) (hs1 : s1.1 < n) (h191 : c s.1 = 191) (hf : zX (d + 2) 0 0 mX11_sumOf [zn 55, zi live] sz S (ev M ((B + (s.1 + 1) : Nat) : Int) b) (zJ sz S (fun r M' => EVO M B live b (w (mE M o)) s1.1 r M'))) : zX (d + 3) 0 0 mX11_partOf [zn 55, zi live] sz S (ev M ((B + s.1 : Nat) : Int) b) (zJ sz S (fun r M' => EVO M B live b (w (mE M o)) (s1.1 + 1) r M')) := by
  have hM2 := hM.2.1
  have hn := hT.1
  refine zX_of pl_RX11 [some (zn 55), some (zi live), none, none] 2 rfl rfl ?_
  refine x_aload_n 1 rfl dX11_partOf_0 0 rfl rfl ?_
  refine x_bipush 3 rfl dX11_partOf_1 (by decide) ?_
  refine x_cSi 6 rfl lX11_211 dX11_partOf_3 (c_X11_signOf (by decide)) rfl rfl (Nat.le_of_ble_eq_true rfl) (fun r M1 hr1 => ?_)
  obtain ⟨rfl, hM1⟩ := hr1
  rw [hM1]
  refine x_cVi 9 rfl lX11_273 dX11_partOf_6 (lyl55 hL) (lys55 hL) (c_X11_passes0 hL hM hT (Nat.le_of_lt hs)) rfl rfl (Nat.le_of_ble_eq_true rfl) (fun r M1 hr1 => ?_)
  rcases hr1 with ⟨hx, rfl, hM1⟩ | ⟨hx, rfl, hM1⟩
  · rw [hM1]
    refine x_if_eq 12 30 rfl dX11_partOf_9 (by decide) (fun c9 => ?_) (fun c9 => ?_)
    · exfalso; omega
    · refine x_aload_n 13 rfl dX11_partOf_12 0 rfl rfl ?_
      refine x_iload_n 14 rfl dX11_partOf_13 1 rfl rfl ?_
      refine x_cVj 17 rfl lX11_276 dX11_partOf_14 (lyl55 hL) (lys55 hL) hf rfl rfl (Nat.le_of_ble_eq_true rfl) (fun r M2 hr2 => ?_)
      rcases hr2 with ⟨e1, e2, x2, e3, rfl, e5, hM2⟩ | ⟨e1, e2, e3, rfl, hM2⟩ | ⟨e1, rfl, hM2⟩
      · rw [hM2]
        refine y_lstore_n 18 rfl dX11_partOf_17 rfl rfl (ls' := [_, _, _, _]) rfl (by decide) ?_
        refine x_aload_n 19 rfl dX11_partOf_18 0 rfl rfl ?_
        refine x_dupr 20 rfl dX11_partOf_19 ?_
        refine x_geti 23 rfl fX11_249 dX11_partOf_20 (lyl55 hL) (lys55 hL) (by decide) ?_
        try simp (disch := omega) only [z_up_ne, z_up_nk, z_up_eq, z_mup_ne, z_mup_eq, Int.reduceToNat, Int.toNat_natCast, ev_22, ev_24, ev_o, ev_ne, ev_u22, ev_u24]
        refine x_iconst 24 rfl dX11_partOf_23 (by decide) ?_
        refine y_iadd 25 rfl dX11_partOf_24 (by omega) ?_
        refine x_puti 28 rfl fX11_249 dX11_partOf_25 (lyl55 hL) (lys55 hL) (by decide) ?_
        try simp only [ev_22, ev_24, ev_o, ev_ne, ev_u22, ev_u24]
        rw [ev_ad]
        refine x_lload_n 29 rfl dX11_partOf_28 2 rfl rfl ?_
        refine x_retj dX11_partOf_29 rfl ?_
        left; exact ⟨e1, e2, _, e3, rfl, e5, rfl⟩
      · rw [hM2]
        refine y_lstore_n 18 rfl dX11_partOf_17 rfl rfl (ls' := [_, _, _, _]) rfl (by decide) ?_
        refine x_aload_n 19 rfl dX11_partOf_18 0 rfl rfl ?_
        refine x_dupr 20 rfl dX11_partOf_19 ?_
        refine x_geti 23 rfl fX11_249 dX11_partOf_20 (lyl55 hL) (lys55 hL) (by decide) ?_
        try simp (disch := omega) only [z_up_ne, z_up_nk, z_up_eq, z_mup_ne, z_mup_eq, Int.reduceToNat, Int.toNat_natCast, ev_22, ev_24, ev_o, ev_ne, ev_u22, ev_u24]
        refine x_iconst 24 rfl dX11_partOf_23 (by decide) ?_
        refine y_iadd 25 rfl dX11_partOf_24 (by omega) ?_
        refine x_puti 28 rfl fX11_249 dX11_partOf_25 (lyl55 hL) (lys55 hL) (by decide) ?_
        try simp only [ev_22, ev_24, ev_o, ev_ne, ev_u22, ev_u24]
        rw [ev_ad]
        refine x_lload_n 29 rfl dX11_partOf_28 2 rfl rfl ?_
        refine x_retj dX11_partOf_29 rfl ?_
        right; left; exact ⟨e1, e2, e3, rfl, rfl⟩
      · rw [hM2]
        refine y_lstore_n 18 rfl dX11_partOf_17 rfl rfl (ls' := [_, _, _, _]) rfl (by decide) ?_
        refine x_aload_n 19 rfl dX11_partOf_18 0 rfl rfl ?_
        refine x_dupr 20 rfl dX11_partOf_19 ?_
        refine x_geti 23 rfl fX11_249 dX11_partOf_20 (lyl55 hL) (lys55 hL) (by decide) ?_
        try simp (disch := omega) only [z_up_ne, z_up_nk, z_up_eq, z_mup_ne, z_mup_eq, Int.reduceToNat, Int.toNat_natCast, ev_22, ev_24, ev_o, ev_ne, ev_u22, ev_u24]
        refine x_iconst 24 rfl dX11_partOf_23 (by decide) ?_
        refine y_iadd 25 rfl dX11_partOf_24 (by omega) ?_
        refine x_puti 28 rfl fX11_249 dX11_partOf_25 (lyl55 hL) (lys55 hL) (by decide) ?_
        try simp only [ev_22, ev_24, ev_o, ev_ne, ev_u22, ev_u24]
        rw [ev_ad]
        refine x_lload_n 29 rfl dX11_partOf_28 2 rfl rfl ?_
        refine x_retj dX11_partOf_29 rfl ?_
        right; right; exact ⟨e1, rfl, rfl⟩
  · exfalso; omega

theorem EVO_leaf {M M' : zMem} {B t : Nat} {live b r y : Int} (hlv : live = 0 ∨ live = 1) (hb : b = 0 ∨ b = 1) (hy : -1000000000 ≤ y ∧ y ≤ 1000000000) (h : r = (if live = 1 ∧ b = 0 then y else 0) ∧ M' = ev M ((B + t : Nat) : Int) b) : EVO M B live b (some y) t r M' := by
  obtain ⟨h1, h2⟩ := h
  by_cases h3 : live = 1 ∧ b = 0
  · rw [if_pos h3] at h1
    left; exact ⟨h3.1, h3.2, y, rfl, h1, hy, by rw [h2, h3.2]⟩
  · rw [if_neg h3] at h1
    right; right; exact ⟨by omega, h1, h2⟩
theorem c_X11_partOf {d sz : Nat} {S : zSh} {M : zMem} (hL : LY S sz) {B n : Nat} {c v : Nat → Int} (hM : EVM M B n c v) (hT : TK c v n) {live b : Int} (hlv : live = 0 ∨ live = 1) (hb : b = 0 ∨ b = 1) {o : Bool} (hO : M 55 25 = (if o = true then 1 else 0)) (hi : KI (M 57)) (hE : mEb M o) {s s' : gS} {w : gV} (hA : gA n s) {inner : Option (gS → gR)} (hin : ∀ f, inner = some f → gG n f ∧ ∀ (s1 s2 : gS) (w1 : gV) (b1 : Int), (b1 = 0 ∨ b1 = 1) → gA n s1 → f s1 = .inr (s2, w1) → zX (d + 2) 0 0 mX11_sumOf [zn 55, zi live] sz S (ev M ((B + s1.1 : Nat) : Int) b1) (zJ sz S (fun r M' => EVO M B live b1 (w1 (mE M o)) s2.1 r M'))) (hq : g_part c v o inner s = .inr (s', w)) : zX (d + 3) 0 0 mX11_partOf [zn 55, zi live] sz S (ev M ((B + s.1 : Nat) : Int) b) (zJ sz S (fun r M' => EVO M B live b (w (mE M o)) s'.1 r M')) := by
  have hA1 := hA.1
  rcases g_part_inv hq with ⟨h1, f, s1, h2, h3, h4, rfl⟩ | ⟨h1, h2, h3, rfl⟩ | ⟨h1, h2, h3, h4, h5, rfl⟩ | ⟨h1, h2, h3, rfl⟩
  · have ht := hT.lt hA1 (show c s.1 ≠ 0 by omega)
    have hg := hin f h2
    have hA2 := gW_A hA (gW_ad hA ht)
    have hw := (hg.1 _ hA2).2 _ _ h3
    have h9 := hg.2 (g_ad s) s1 w b hb hA2 h3
    have e1 : (g_ad s).1 = s.1 + 1 := rfl
    have e2 : (g_ad s1).1 = s1.1 + 1 := rfl
    rw [e1] at h9
    rw [e2]
    exact c_X11_part_b hL hM hT hlv hb ht (hT.lt hw.2.1 (by omega)) h1 h9
  · have ht := hT.lt hA1 (show c s.1 ≠ 0 by omega)
    have hv := hT.2.2.2 s.1 hA1
    refine zX_mono (c_X11_part_n hL hM hT hlv hb hO hi hE ht h1) ?_
    rintro v1 sz1 S1 M1 ⟨r, e1, e2, e3, e4⟩
    exact ⟨r, e1, e2, e3, by rw [h3]; exact EVO_leaf hlv hb (by omega) e4⟩
  · have ht := hT.lt hA1 (show c s.1 ≠ 0 by omega)
    have ht2 := hT.lt (t := s.1 + 1) ht (by omega)
    refine zX_mono (c_X11_part_i hL hM hT hlv hb hO hi hE ht ht2 h1 h2) ?_
    rintro v1 sz1 S1 M1 ⟨r, e1, e2, e3, e4⟩
    exact ⟨r, e1, e2, e3, by rw [h5]; exact EVO_leaf hlv hb (hE _ _) e4⟩
  · have ht := hT.lt hA1 (show c s.1 ≠ 0 by have := h2.1; split at this <;> omega)
    refine zX_mono (c_X11_part_w hL hM hT hlv hb hO hi hE ht h1 h2) ?_
    rintro v1 sz1 S1 M1 ⟨r, e1, e2, e3, e4⟩
    exact ⟨r, e1, e2, e3, by rw [h3]; exact EVO_leaf hlv hb (hE _ _) e4⟩
