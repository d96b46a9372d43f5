def zblk (g f : Nat → Int) (B n : Nat) : Nat → Int := fun i => if B ≤ i ∧ i < B + n then f (i - B) else g i
theorem zblk_0 {g f : Nat → Int} {B : Nat} : zblk g f B 0 = g := by
  funext i; unfold zblk; rw [if_neg (by omega)]
theorem zblk_s {g f : Nat → Int} {B n : Nat} : ku (zblk g f B n) (B + n) (f n) = zblk g f B (n + 1) := by
  funext i
  simp only [zblk, ku]
  by_cases h : i = B + n
  · subst h; rw [if_pos rfl, if_pos (by omega)]; congr 1; omega
  · rw [if_neg h]
    by_cases h2 : B ≤ i ∧ i < B + n
    · rw [if_pos h2, if_pos (by omega)]
    · rw [if_neg h2, if_neg (by omega)]
theorem zblk_in {g f : Nat → Int} {B n i : Nat} (h : i < n) : zblk g f B n (B + i) = f i := by
  unfold zblk; rw [if_pos (by omega)]; congr 1; omega
theorem zblk_out {g f : Nat → Int} {B n i : Nat} (h : i < B ∨ B + n ≤ i) : zblk g f B n i = g i := by
  unfold zblk; rw [if_neg (by omega)]
theorem z_blk_step {M : zMem} {a B n i : Nat} {g f : Nat → Int} {v : Int} (hi : i = B + n) (hv : v = f n) : z_up (z_mup M a (zblk g f B n)) a i v = z_mup M a (zblk g f B (n + 1)) := by
  rw [hi, hv, z_mupm, zblk_s]

set_option maxRecDepth 100000 in
set_option maxHeartbeats 4000000 in
theorem c_X11_image {d sz : Nat} {S : zSh} {M : zMem} (hL : LY S sz) (hr : ∀ i, i < 7 → 0 ≤ M 56 i ∧ M 56 i ≤ 1000000) {x : Int} : zX (d + 1) 0 0 mX11_image [zn 55, zi x] sz S M (zI sz S (fun r M' => (¬ (0 ≤ x ∧ x ≤ 1) ∧ r = -1 ∧ M' = zRef M (-1)) ∨ ((0 ≤ x ∧ x ≤ 1) ∧ r = 0 ∧ M' = z_up (z_up (z_mup M 58 (zblk (M 58) (M 57) (5687 * x.toNat) 5687)) 59 x.toNat 1) 55 0 0))) := by
  have loop : ∀ (q n : Nat), 5687 < q + n → n ≤ 5687 → (0 ≤ x ∧ x ≤ 1) → zW mX11_image (d + 1) 0 0 [] (zI sz S (fun r M' => (¬ (0 ≤ x ∧ x ≤ 1) ∧ r = -1 ∧ M' = zRef M (-1)) ∨ ((0 ≤ x ∧ x ≤ 1) ∧ r = 0 ∧ M' = z_up (z_up (z_mup M 58 (zblk (M 58) (M 57) (5687 * x.toNat) 5687)) 59 x.toNat 1) 55 0 0))) 17 [some (zn 55), some (zi x), some (zi n)] [] sz S (z_mup M 58 (zblk (M 58) (M 57) (5687 * x.toNat) n)) := by
    intro q
    induction q with
    | zero => intro n hq hn; omega
    | succ q ih =>
      intro n hq hn hx
      refine x_iload_n 18 rfl dX11_image_17 2 rfl rfl ?_
      refine x_sipush 21 rfl dX11_image_18 (by decide) ?_
      refine x_icmp_ge 24 48 rfl dX11_image_21 (by decide) (fun c21 => ?_) (fun c21 => ?_)
      · refine x_aload_n 49 rfl dX11_image_48 0 rfl rfl ?_
        refine x_getr 52 rfl fX11_30 dX11_image_49 (lyl55 hL) (lys55 hL) (by decide) (59) rfl ?_
        refine x_iload_n 53 rfl dX11_image_52 1 rfl rfl ?_
        refine x_iconst 54 rfl dX11_image_53 (by decide) ?_
        refine x_zast 55 rfl dX11_image_54 (lyl59 hL) (lys59 hL) (by omega) (by omega) (by omega) ?_
        refine x_aload_n 56 rfl dX11_image_55 0 rfl rfl ?_
        refine x_iconst 57 rfl dX11_image_56 (by decide) ?_
        refine x_cVi 60 rfl lX11_14 dX11_image_57 (lyl55 hL) (lys55 hL) (c_X11_good hL) rfl rfl (Nat.le_of_ble_eq_true rfl) (fun r M1 hr1 => ?_)
        obtain ⟨rfl, hM1⟩ := hr1
        rw [hM1]
        refine x_reti dX11_image_60 rfl ?_
        right
        refine ⟨hx, rfl, ?_⟩
        rw [show n = 5687 by omega]
      · refine x_aload_n 25 rfl dX11_image_24 0 rfl rfl ?_
        refine x_getr 28 rfl fX11_27 dX11_image_25 (lyl55 hL) (lys55 hL) (by decide) (58) rfl ?_
        refine x_sipush 31 rfl dX11_image_28 (by decide) ?_
        refine x_iload_n 32 rfl dX11_image_31 1 rfl rfl ?_
        refine y_imul 33 rfl dX11_image_32 (by omega) ?_
        refine x_iload_n 34 rfl dX11_image_33 2 rfl rfl ?_
        refine y_iadd 35 rfl dX11_image_34 (by omega) ?_
        refine x_aload_n 36 rfl dX11_image_35 0 rfl rfl ?_
        refine x_getr 39 rfl fX11_24 dX11_image_36 (lyl55 hL) (lys55 hL) (by decide) (57) rfl ?_
        refine x_iload_n 40 rfl dX11_image_39 2 rfl rfl ?_
        refine x_iald 41 rfl dX11_image_40 (lyl57 hL) (lys57 hL) (by omega) (by omega) ?_
        rw [z_mup_ne (by decide), Int.toNat_natCast]
        refine x_iast 42 rfl dX11_image_41 (lyl58 hL) (lys58 hL) (by omega) (by omega) ?_
        refine w_iinc 45 rfl dX11_image_42 rfl (by decide) (by omega) rfl (ls' := [_, _, _]) rfl (by decide) ?_
        refine x_goto 17 dX11_image_45 (by decide) ?_
        refine z_mem (z_blk_step (by omega) rfl) (ih (n + 1) (by omega) (by omega) hx)
  refine zX_of pl_RX11 [some (zn 55), some (zi x), none] 1 rfl rfl ?_
  refine x_iload_n 1 rfl dX11_image_0 1 rfl rfl ?_
  refine x_iconst 2 rfl dX11_image_1 (by decide) ?_
  refine x_iconst 3 rfl dX11_image_2 (by decide) ?_
  refine x_cSi 6 rfl lX11_90 dX11_image_3 c_X11_lies rfl rfl (Nat.le_of_ble_eq_true rfl) (fun r M1 hr1 => ?_)
  obtain ⟨rfl, hM1⟩ := hr1
  rw [hM1]
  refine x_if_ne 9 15 rfl dX11_image_6 (by decide) (fun c6 => ?_) (fun c6 => ?_)
  · refine x_iconst 16 rfl dX11_image_15 (by decide) ?_
    refine y_istore_n 17 rfl dX11_image_16 rfl rfl (ls' := [_, _, _]) rfl (by decide) ?_
    refine z_mem (M' := z_mup M 58 (zblk (M 58) (M 57) (5687 * x.toNat) 0)) (by rw [zblk_0, z_mup_self]) (loop 5688 0 (by omega) (by omega) (by split at c6 <;> omega))
  · refine x_aload_n 10 rfl dX11_image_9 0 rfl rfl ?_
    refine x_iconst 11 rfl dX11_image_10 (by decide) ?_
    refine x_cVi 14 rfl lX11_94 dX11_image_11 (lyl55 hL) (lys55 hL) (c_X11_refuses hL hr (x := -1) (by decide)) rfl rfl (Nat.le_of_ble_eq_true rfl) (fun r M1 hr1 => ?_)
    obtain ⟨rfl, hM1⟩ := hr1
    rw [hM1]
    refine x_reti dX11_image_14 rfl ?_
    left
    exact ⟨by split at c6 <;> omega, rfl, rfl⟩

set_option maxRecDepth 100000 in
set_option maxHeartbeats 4000000 in
theorem c_X11_back {d sz : Nat} {S : zSh} {M : zMem} (hL : LY S sz) (hr : ∀ i, i < 7 → 0 ≤ M 56 i ∧ M 56 i ≤ 1000000) {x : Int} (hh : ∀ j, j < 2 → M 59 j = 0 ∨ M 59 j = 1) : zX (d + 2) 0 0 mX11_back [zn 55, zi x] sz S M (zI sz S (fun r M' => (¬ (0 ≤ x ∧ x ≤ 1) ∧ r = -1 ∧ M' = zRef M (-1)) ∨ ((0 ≤ x ∧ x ≤ 1) ∧ M 59 x.toNat = 0 ∧ r = -2 ∧ M' = zRef M (-2)) ∨ ((0 ≤ x ∧ x ≤ 1) ∧ M 59 x.toNat = 1 ∧ r = 0 ∧ M' = zSet M (zblk (M 57) (fun i => M 58 (5687 * x.toNat + i)) 0 5687)))) := by
  have loop : ∀ (q n : Nat), 5687 < q + n → n ≤ 5687 → (0 ≤ x ∧ x ≤ 1) → M 59 x.toNat = 1 → zW mX11_back (d + 2) 0 0 [] (zI sz S (fun r M' => (¬ (0 ≤ x ∧ x ≤ 1) ∧ r = -1 ∧ M' = zRef M (-1)) ∨ ((0 ≤ x ∧ x ≤ 1) ∧ M 59 x.toNat = 0 ∧ r = -2 ∧ M' = zRef M (-2)) ∨ ((0 ≤ x ∧ x ≤ 1) ∧ M 59 x.toNat = 1 ∧ r = 0 ∧ M' = zSet M (zblk (M 57) (fun i => M 58 (5687 * x.toNat + i)) 0 5687)))) 33 [some (zn 55), some (zi x), some (zi n)] [] sz S (z_mup M 57 (zblk (M 57) (fun i => M 58 (5687 * x.toNat + i)) 0 n)) := by
    intro q
    induction q with
    | zero => intro n hq hn; omega
    | succ q ih =>
      intro n hq hn hx h1
      refine x_iload_n 34 rfl dX11_back_33 2 rfl rfl ?_
      refine x_sipush 37 rfl dX11_back_34 (by decide) ?_
      refine x_icmp_ge 40 64 rfl dX11_back_37 (by decide) (fun c37 => ?_) (fun c37 => ?_)
      · refine x_aload_n 65 rfl dX11_back_64 0 rfl rfl ?_
        refine x_iconst 66 rfl dX11_back_65 (by decide) ?_
        refine x_cVi 69 rfl lX11_97 dX11_back_66 (lyl55 hL) (lys55 hL) (c_X11_settled hL) rfl rfl (Nat.le_of_ble_eq_true rfl) (fun r M1 hr1 => ?_)
        obtain ⟨rfl, hM1⟩ := hr1
        rw [hM1]
        refine x_reti dX11_back_69 rfl ?_
        right; right
        refine ⟨hx, h1, rfl, ?_⟩
        rw [show n = 5687 by omega]
        rfl
      · refine x_aload_n 41 rfl dX11_back_40 0 rfl rfl ?_
        refine x_getr 44 rfl fX11_24 dX11_back_41 (lyl55 hL) (lys55 hL) (by decide) (57) rfl ?_
        refine x_iload_n 45 rfl dX11_back_44 2 rfl rfl ?_
        refine x_aload_n 46 rfl dX11_back_45 0 rfl rfl ?_
        refine x_getr 49 rfl fX11_27 dX11_back_46 (lyl55 hL) (lys55 hL) (by decide) (58) rfl ?_
        refine x_sipush 52 rfl dX11_back_49 (by decide) ?_
        refine x_iload_n 53 rfl dX11_back_52 1 rfl rfl ?_
        refine y_imul 54 rfl dX11_back_53 (by omega) ?_
        refine x_iload_n 55 rfl dX11_back_54 2 rfl rfl ?_
        refine y_iadd 56 rfl dX11_back_55 (by omega) ?_
        refine x_iald 57 rfl dX11_back_56 (lyl58 hL) (lys58 hL) (by omega) (by omega) ?_
        rw [z_mup_ne (by decide), show (5687 * x + (n : Int)).toNat = 5687 * x.toNat + n by omega]
        refine x_iast 58 rfl dX11_back_57 (lyl57 hL) (lys57 hL) (by omega) (by omega) ?_
        refine w_iinc 61 rfl dX11_back_58 rfl (by decide) (by omega) rfl (ls' := [_, _, _]) rfl (by decide) ?_
        refine x_goto 33 dX11_back_61 (by decide) ?_
        refine z_mem (z_blk_step (by omega) rfl) (ih (n + 1) (by omega) (by omega) hx h1)
  refine zX_of pl_RX11 [some (zn 55), some (zi x), none] 1 rfl rfl ?_
  refine x_iload_n 1 rfl dX11_back_0 1 rfl rfl ?_
  refine x_iconst 2 rfl dX11_back_1 (by decide) ?_
  refine x_iconst 3 rfl dX11_back_2 (by decide) ?_
  refine x_cSi 6 rfl lX11_90 dX11_back_3 c_X11_lies rfl rfl (Nat.le_of_ble_eq_true rfl) (fun r M1 hr1 => ?_)
  obtain ⟨rfl, hM1⟩ := hr1
  rw [hM1]
  refine x_if_ne 9 15 rfl dX11_back_6 (by decide) (fun c6 => ?_) (fun c6 => ?_)
  · have hx : 0 ≤ x ∧ x ≤ 1 := by split at c6 <;> omega
    have hh1 := hh x.toNat (by omega)
    refine x_aload_n 16 rfl dX11_back_15 0 rfl rfl ?_
    refine x_getr 19 rfl fX11_30 dX11_back_16 (lyl55 hL) (lys55 hL) (by decide) (59) rfl ?_
    refine x_iload_n 20 rfl dX11_back_19 1 rfl rfl ?_
    refine x_zald 21 rfl dX11_back_20 (lyl59 hL) (lys59 hL) (by omega) (by omega) ?_
    try simp (disch := omega) only [z_up_ne, z_up_nk, z_up_eq, z_mup_ne, z_mup_eq, Int.reduceToNat, Int.toNat_natCast]
    refine x_if_ne 24 31 rfl dX11_back_21 (by decide) (fun c21 => ?_) (fun c21 => ?_)
    · refine x_iconst 32 rfl dX11_back_31 (by decide) ?_
      refine y_istore_n 33 rfl dX11_back_32 rfl rfl (ls' := [_, _, _]) rfl (by decide) ?_
      refine z_mem (M' := z_mup M 57 (zblk (M 57) (fun i => M 58 (5687 * x.toNat + i)) 0 0)) (by rw [zblk_0, z_mup_self]) (loop 5688 0 (by omega) (by omega) hx (by omega))
    · refine x_aload_n 25 rfl dX11_back_24 0 rfl rfl ?_
      refine x_bipush 27 rfl dX11_back_25 (by decide) ?_
      refine x_cVi 30 rfl lX11_94 dX11_back_27 (lyl55 hL) (lys55 hL) (c_X11_refuses hL hr (x := -2) (by decide)) rfl rfl (Nat.le_of_ble_eq_true rfl) (fun r M1 hr1 => ?_)
      obtain ⟨rfl, hM1⟩ := hr1
      rw [hM1]
      refine x_reti dX11_back_30 rfl ?_
      right; left
      exact ⟨hx, by omega, rfl, rfl⟩
  · refine x_aload_n 10 rfl dX11_back_9 0 rfl rfl ?_
    refine x_iconst 11 rfl dX11_back_10 (by decide) ?_
    refine x_cVi 14 rfl lX11_94 dX11_back_11 (lyl55 hL) (lys55 hL) (c_X11_refuses hL hr (x := -1) (by decide)) rfl rfl (Nat.le_of_ble_eq_true rfl) (fun r M1 hr1 => ?_)
    obtain ⟨rfl, hM1⟩ := hr1
    rw [hM1]
    refine x_reti dX11_back_14 rfl ?_
    left
    exact ⟨by split at c6 <;> omega, rfl, rfl⟩

set_option maxRecDepth 100000 in
set_option maxHeartbeats 4000000 in
theorem c_X11_laysAside {d sz : Nat} {S : zSh} {M : zMem} (hL : LY S sz) {x : Int} (hx : 0 ≤ x ∧ x ≤ 1) : zX d 0 0 mX11_laysAside [zn 55, zi x] sz S M (zU sz S (fun M' => M' = z_mup M 60 (zblk (M 60) (M 57) (23 * x.toNat) 23))) := by
  have loop : ∀ (q n : Nat), 23 < q + n → n ≤ 23 → zW mX11_laysAside d 0 0 [] (zU sz S (fun M' => M' = z_mup M 60 (zblk (M 60) (M 57) (23 * x.toNat) 23))) 2 [some (zn 55), some (zi x), some (zi n)] [] sz S (z_mup M 60 (zblk (M 60) (M 57) (23 * x.toNat) n)) := by
    intro q
    induction q with
    | zero => intro n hq hn; omega
    | succ q ih =>
      intro n hq hn
      refine x_iload_n 3 rfl dX11_laysAside_2 2 rfl rfl ?_
      refine x_bipush 5 rfl dX11_laysAside_3 (by decide) ?_
      refine x_icmp_ge 8 31 rfl dX11_laysAside_5 (by decide) (fun c5 => ?_) (fun c5 => ?_)
      · refine x_retu dX11_laysAside_31 rfl ?_
        rw [show n = 23 by omega]
      · refine x_aload_n 9 rfl dX11_laysAside_8 0 rfl rfl ?_
        refine x_getr 12 rfl fX11_34 dX11_laysAside_9 (lyl55 hL) (lys55 hL) (by decide) (60) rfl ?_
        refine x_bipush 14 rfl dX11_laysAside_12 (by decide) ?_
        refine x_iload_n 15 rfl dX11_laysAside_14 1 rfl rfl ?_
        refine y_imul 16 rfl dX11_laysAside_15 (by omega) ?_
        refine x_iload_n 17 rfl dX11_laysAside_16 2 rfl rfl ?_
        refine y_iadd 18 rfl dX11_laysAside_17 (by omega) ?_
        refine x_aload_n 19 rfl dX11_laysAside_18 0 rfl rfl ?_
        refine x_getr 22 rfl fX11_24 dX11_laysAside_19 (lyl55 hL) (lys55 hL) (by decide) (57) rfl ?_
        refine x_iload_n 23 rfl dX11_laysAside_22 2 rfl rfl ?_
        refine x_iald 24 rfl dX11_laysAside_23 (lyl57 hL) (lys57 hL) (by omega) (by omega) ?_
        rw [z_mup_ne (by decide), Int.toNat_natCast]
        refine x_iast 25 rfl dX11_laysAside_24 (lyl60 hL) (lys60 hL) (by omega) (by omega) ?_
        refine w_iinc 28 rfl dX11_laysAside_25 rfl (by decide) (by omega) rfl (ls' := [_, _, _]) rfl (by decide) ?_
        refine x_goto 2 dX11_laysAside_28 (by decide) ?_
        refine z_mem (z_blk_step (by omega) rfl) (ih (n + 1) (by omega) (by omega))
  refine zX_of pl_RX11 [some (zn 55), some (zi x), none] 1 rfl rfl ?_
  refine x_iconst 1 rfl dX11_laysAside_0 (by decide) ?_
  refine y_istore_n 2 rfl dX11_laysAside_1 rfl rfl (ls' := [_, _, _]) rfl (by decide) ?_
  refine z_mem (M' := z_mup M 60 (zblk (M 60) (M 57) (23 * x.toNat) 0)) (by rw [zblk_0, z_mup_self]) (loop 24 0 (by omega) (by omega))

set_option maxRecDepth 100000 in
set_option maxHeartbeats 4000000 in
theorem c_X11_takesBack {d sz : Nat} {S : zSh} {M : zMem} (hL : LY S sz) {x : Int} (hx : 0 ≤ x ∧ x ≤ 1) : zX d 0 0 mX11_takesBack [zn 55, zi x] sz S M (zU sz S (fun M' => M' = z_mup M 57 (zblk (M 57) (fun i => M 60 (23 * x.toNat + i)) 0 23))) := by
  have loop : ∀ (q n : Nat), 23 < q + n → n ≤ 23 → zW mX11_takesBack d 0 0 [] (zU sz S (fun M' => M' = z_mup M 57 (zblk (M 57) (fun i => M 60 (23 * x.toNat + i)) 0 23))) 2 [some (zn 55), some (zi x), some (zi n)] [] sz S (z_mup M 57 (zblk (M 57) (fun i => M 60 (23 * x.toNat + i)) 0 n)) := by
    intro q
    induction q with
    | zero => intro n hq hn; omega
    | succ q ih =>
      intro n hq hn
      refine x_iload_n 3 rfl dX11_takesBack_2 2 rfl rfl ?_
      refine x_bipush 5 rfl dX11_takesBack_3 (by decide) ?_
      refine x_icmp_ge 8 31 rfl dX11_takesBack_5 (by decide) (fun c5 => ?_) (fun c5 => ?_)
      · refine x_retu dX11_takesBack_31 rfl ?_
        rw [show n = 23 by omega]
      · refine x_aload_n 9 rfl dX11_takesBack_8 0 rfl rfl ?_
        refine x_getr 12 rfl fX11_24 dX11_takesBack_9 (lyl55 hL) (lys55 hL) (by decide) (57) rfl ?_
        refine x_iload_n 13 rfl dX11_takesBack_12 2 rfl rfl ?_
        refine x_aload_n 14 rfl dX11_takesBack_13 0 rfl rfl ?_
        refine x_getr 17 rfl fX11_34 dX11_takesBack_14 (lyl55 hL) (lys55 hL) (by decide) (60) rfl ?_
        refine x_bipush 19 rfl dX11_takesBack_17 (by decide) ?_
        refine x_iload_n 20 rfl dX11_takesBack_19 1 rfl rfl ?_
        refine y_imul 21 rfl dX11_takesBack_20 (by omega) ?_
        refine x_iload_n 22 rfl dX11_takesBack_21 2 rfl rfl ?_
        refine y_iadd 23 rfl dX11_takesBack_22 (by omega) ?_
        refine x_iald 24 rfl dX11_takesBack_23 (lyl60 hL) (lys60 hL) (by omega) (by omega) ?_
        rw [z_mup_ne (by decide), show (23 * x + (n : Int)).toNat = 23 * x.toNat + n by omega]
        refine x_iast 25 rfl dX11_takesBack_24 (lyl57 hL) (lys57 hL) (by omega) (by omega) ?_
        refine w_iinc 28 rfl dX11_takesBack_25 rfl (by decide) (by omega) rfl (ls' := [_, _, _]) rfl (by decide) ?_
        refine x_goto 2 dX11_takesBack_28 (by decide) ?_
        refine z_mem (z_blk_step (by omega) rfl) (ih (n + 1) (by omega) (by omega))
  refine zX_of pl_RX11 [some (zn 55), some (zi x), none] 1 rfl rfl ?_
  refine x_iconst 1 rfl dX11_takesBack_0 (by decide) ?_
  refine y_istore_n 2 rfl dX11_takesBack_1 rfl rfl (ls' := [_, _, _]) rfl (by decide) ?_
  refine z_mem (M' := z_mup M 57 (zblk (M 57) (fun i => M 60 (23 * x.toNat + i)) 0 0)) (by rw [zblk_0, z_mup_self]) (loop 24 0 (by omega) (by omega))

def zshift (L : Nat → Int) (n : Nat) : Nat → Int := fun i => if i < n then L (i + 24) else L i
theorem zshift_s {L : Nat → Int} {n : Nat} : ku (zshift L n) n (L (n + 24)) = zshift L (n + 1) := by
  funext i
  simp only [zshift, ku]
  by_cases h : i = n
  · subst h; rw [if_pos rfl, if_pos (by omega)]
  · rw [if_neg h]
    by_cases h2 : i < n
    · rw [if_pos h2, if_pos (by omega)]
    · rw [if_neg h2, if_neg (by omega)]
theorem zshift_0 {L : Nat → Int} : zshift L 0 = L := by funext i; simp [zshift]
def zKeep (L k : Nat → Int) (n : Nat) (v : Int) : Nat → Int := if n = 16 then ku (zblk (zshift L 360) k 360 23) 383 v else ku (zblk L k (24 * n) 23) (24 * n + 23) v

set_option maxRecDepth 100000 in
set_option maxHeartbeats 4000000 in
theorem c_X11_keeps {d sz : Nat} {S : zSh} {M : zMem} (hL : LY S sz) {x : Int} (hn0 : 0 ≤ M 55 32 ∧ M 55 32 ≤ 16) : zX d 0 0 mX11_keeps [zn 55, zi x] sz S M (zU sz S (fun M' => M' = z_up (z_mup M 69 (zKeep (M 69) (M 57) (M 55 32).toNat x)) 55 32 (min (M 55 32 + 1) 16))) := by
  have loop2 : ∀ (q n : Nat) (N : zMem) (w : Nat) (G : Nat → Int), 23 < q + n → n ≤ 23 → w ≤ 15 → N = z_up (z_mup M 69 (zblk G (M 57) (24 * w) n)) 55 32 w → z_mup M 69 (ku (zblk G (M 57) (24 * w) 23) (24 * w + 23) x) = z_mup M 69 (zKeep (M 69) (M 57) (M 55 32).toNat x) → min (M 55 32 + 1) 16 = (w : Int) + 1 → zW mX11_keeps d 0 0 [] (zU sz S (fun M' => M' = z_up (z_mup M 69 (zKeep (M 69) (M 57) (M 55 32).toNat x)) 55 32 (min (M 55 32 + 1) 16))) 54 [some (zn 55), some (zi x), some (zi 24), some (zi n)] [] sz S N := by
    intro q
    induction q with
    | zero => intro n N w G hq hn; omega
    | succ q ih =>
      intro n N w G hq hn hw hN hE hm
      subst hN
      refine x_iload_n 55 rfl dX11_keeps_54 3 rfl rfl ?_
      refine x_bipush 57 rfl dX11_keeps_55 (by decide) ?_
      refine x_icmp_ge 60 85 rfl dX11_keeps_57 (by decide) (fun c57 => ?_) (fun c57 => ?_)
      · refine x_aload_n 86 rfl dX11_keeps_85 0 rfl rfl ?_
        refine x_getr 89 rfl fX11_65 dX11_keeps_86 (lyl55 hL) (lys55 hL) (by decide) (69) rfl ?_
        refine x_iload_n 90 rfl dX11_keeps_89 2 rfl rfl ?_
        refine x_aload_n 91 rfl dX11_keeps_90 0 rfl rfl ?_
        refine x_geti 94 rfl fX11_11 dX11_keeps_91 (lyl55 hL) (lys55 hL) (by decide) ?_
        try simp (disch := omega) only [z_up_ne, z_up_nk, z_up_eq, z_mup_ne, z_mup_eq, Int.reduceToNat, Int.toNat_natCast]
        refine y_imul 95 rfl dX11_keeps_94 (by omega) ?_
        refine x_bipush 97 rfl dX11_keeps_95 (by decide) ?_
        refine y_iadd 98 rfl dX11_keeps_97 (by omega) ?_
        refine x_iload_n 99 rfl dX11_keeps_98 1 rfl rfl ?_
        refine x_iast 100 rfl dX11_keeps_99 (lyl69 hL) (lys69 hL) (by omega) (by omega) ?_
        refine x_aload_n 101 rfl dX11_keeps_100 0 rfl rfl ?_
        refine x_dupr 102 rfl dX11_keeps_101 ?_
        refine x_geti 105 rfl fX11_11 dX11_keeps_102 (lyl55 hL) (lys55 hL) (by decide) ?_
        try simp (disch := omega) only [z_up_ne, z_up_nk, z_up_eq, z_mup_ne, z_mup_eq, Int.reduceToNat, Int.toNat_natCast]
        refine x_iconst 106 rfl dX11_keeps_105 (by decide) ?_
        refine y_iadd 107 rfl dX11_keeps_106 (by omega) ?_
        refine x_puti 110 rfl fX11_11 dX11_keeps_107 (lyl55 hL) (lys55 hL) (by decide) ?_
        refine x_retu dX11_keeps_110 rfl ?_
        rw [show n = 23 by omega, show (24 * (w : Int) + 23).toNat = 24 * w + 23 by omega, hm, ← hE, ← z_mupm]
        funext u j; simp only [z_up]; by_cases h1 : u = 69 <;> by_cases h2 : u = 55 <;> simp [h1, h2] <;> omega
      · refine x_aload_n 61 rfl dX11_keeps_60 0 rfl rfl ?_
        refine x_getr 64 rfl fX11_65 dX11_keeps_61 (lyl55 hL) (lys55 hL) (by decide) (69) rfl ?_
        refine x_iload_n 65 rfl dX11_keeps_64 2 rfl rfl ?_
        refine x_aload_n 66 rfl dX11_keeps_65 0 rfl rfl ?_
        refine x_geti 69 rfl fX11_11 dX11_keeps_66 (lyl55 hL) (lys55 hL) (by decide) ?_
        try simp (disch := omega) only [z_up_ne, z_up_nk, z_up_eq, z_mup_ne, z_mup_eq, Int.reduceToNat, Int.toNat_natCast]
        refine y_imul 70 rfl dX11_keeps_69 (by omega) ?_
        refine x_iload_n 71 rfl dX11_keeps_70 3 rfl rfl ?_
        refine y_iadd 72 rfl dX11_keeps_71 (by omega) ?_
        refine x_aload_n 73 rfl dX11_keeps_72 0 rfl rfl ?_
        refine x_getr 76 rfl fX11_24 dX11_keeps_73 (lyl55 hL) (lys55 hL) (by decide) (57) rfl ?_
        refine x_iload_n 77 rfl dX11_keeps_76 3 rfl rfl ?_
        refine x_iald 78 rfl dX11_keeps_77 (lyl57 hL) (lys57 hL) (by omega) (by omega) ?_
        try simp (disch := omega) only [z_up_ne, z_up_nk, z_up_eq, z_mup_ne, z_mup_eq, Int.reduceToNat, Int.toNat_natCast]
        refine x_iast 79 rfl dX11_keeps_78 (lyl69 hL) (lys69 hL) (by omega) (by omega) ?_
        refine w_iinc 82 rfl dX11_keeps_79 rfl (by decide) (by omega) rfl (ls' := [_, _, _, _]) rfl (by decide) ?_
        refine x_goto 54 dX11_keeps_82 (by decide) ?_
        refine ih (n + 1) _ w G (by omega) (by omega) hw ?_ hE hm
        rw [show (24 * (w : Int) + (n : Int)).toNat = 24 * w + n by omega]
        rw [← z_blk_step (M := M) (a := 69) (i := 24 * w + n) rfl rfl]
        funext u j; simp only [z_up]; by_cases h1 : u = 69 <;> by_cases h2 : u = 55 <;> simp [h1, h2] <;> omega
  have loop1 : ∀ (q n : Nat), 360 < q + n → n ≤ 360 → M 55 32 = 16 → zW mX11_keeps d 0 0 [] (zU sz S (fun M' => M' = z_up (z_mup M 69 (zKeep (M 69) (M 57) (M 55 32).toNat x)) 55 32 (min (M 55 32 + 1) 16))) 14 [some (zn 55), some (zi x), some (zi 24), some (zi n)] [] sz S (z_mup M 69 (zshift (M 69) n)) := by
    intro q
    induction q with
    | zero => intro n hq hn; omega
    | succ q ih =>
      intro n hq hn h16
      refine x_iload_n 15 rfl dX11_keeps_14 3 rfl rfl ?_
      refine x_bipush 17 rfl dX11_keeps_15 (by decide) ?_
      refine x_iload_n 18 rfl dX11_keeps_17 2 rfl rfl ?_
      refine y_imul 19 rfl dX11_keeps_18 (by omega) ?_
      refine x_icmp_ge 22 42 rfl dX11_keeps_19 (by decide) (fun c19 => ?_) (fun c19 => ?_)
      · refine x_aload_n 43 rfl dX11_keeps_42 0 rfl rfl ?_
        refine x_dupr 44 rfl dX11_keeps_43 ?_
        refine x_geti 47 rfl fX11_11 dX11_keeps_44 (lyl55 hL) (lys55 hL) (by decide) ?_
        try simp (disch := omega) only [z_up_ne, z_up_nk, z_up_eq, z_mup_ne, z_mup_eq, Int.reduceToNat, Int.toNat_natCast]
        refine x_iconst 48 rfl dX11_keeps_47 (by decide) ?_
        refine y_isub 49 rfl dX11_keeps_48 (by omega) ?_
        refine x_puti 52 rfl fX11_11 dX11_keeps_49 (lyl55 hL) (lys55 hL) (by decide) ?_
        refine x_iconst 53 rfl dX11_keeps_52 (by decide) ?_
        refine y_istore_n 54 rfl dX11_keeps_53 rfl rfl (ls' := [_, _, _, _]) rfl (by decide) ?_
        refine loop2 24 0 _ 15 (zshift (M 69) n) (by omega) (by omega) (by omega) ?_ ?_ (by omega)
        · rw [zblk_0, h16]; rfl
        · unfold zKeep; rw [if_pos (by omega), show n = 360 by omega]
      · refine x_aload_n 23 rfl dX11_keeps_22 0 rfl rfl ?_
        refine x_getr 26 rfl fX11_65 dX11_keeps_23 (lyl55 hL) (lys55 hL) (by decide) (69) rfl ?_
        refine x_iload_n 27 rfl dX11_keeps_26 3 rfl rfl ?_
        refine x_aload_n 28 rfl dX11_keeps_27 0 rfl rfl ?_
        refine x_getr 31 rfl fX11_65 dX11_keeps_28 (lyl55 hL) (lys55 hL) (by decide) (69) rfl ?_
        refine x_iload_n 32 rfl dX11_keeps_31 3 rfl rfl ?_
        refine x_iload_n 33 rfl dX11_keeps_32 2 rfl rfl ?_
        refine y_iadd 34 rfl dX11_keeps_33 (by omega) ?_
        refine x_iald 35 rfl dX11_keeps_34 (lyl69 hL) (lys69 hL) (by omega) (by omega) ?_
        try simp (disch := omega) only [z_up_ne, z_up_nk, z_up_eq, z_mup_ne, z_mup_eq, Int.reduceToNat, Int.toNat_natCast]
        rw [show (zshift (M 69) n) ((n : Int) + 24).toNat = M 69 (n + 24) by unfold zshift; rw [if_neg (by omega)]; exact congrArg _ (by omega)]
        refine x_iast 36 rfl dX11_keeps_35 (lyl69 hL) (lys69 hL) (by omega) (by omega) ?_
        refine w_iinc 39 rfl dX11_keeps_36 rfl (by decide) (by omega) rfl (ls' := [_, _, _, _]) rfl (by decide) ?_
        refine x_goto 14 dX11_keeps_39 (by decide) ?_
        refine z_mem (by rw [Int.toNat_natCast, z_mupm, zshift_s]) (ih (n + 1) (by omega) (by omega) h16)
  refine zX_of pl_RX11 [some (zn 55), some (zi x), none, none] 2 rfl rfl ?_
  refine x_bipush 2 rfl dX11_keeps_0 (by decide) ?_
  refine y_istore_n 3 rfl dX11_keeps_2 rfl rfl (ls' := [_, _, _, _]) rfl (by decide) ?_
  refine x_aload_n 4 rfl dX11_keeps_3 0 rfl rfl ?_
  refine x_geti 7 rfl fX11_11 dX11_keeps_4 (lyl55 hL) (lys55 hL) (by decide) ?_
  try simp (disch := omega) only [z_up_ne, z_up_nk, z_up_eq, z_mup_ne, z_mup_eq, Int.reduceToNat, Int.toNat_natCast]
  refine x_bipush 9 rfl dX11_keeps_7 (by decide) ?_
  refine x_icmp_ne 12 52 rfl dX11_keeps_9 (by decide) (fun c9 => ?_) (fun c9 => ?_)
  · refine x_iconst 53 rfl dX11_keeps_52 (by decide) ?_
    refine y_istore_n 54 rfl dX11_keeps_53 rfl rfl (ls' := [_, _, _, _]) rfl (by decide) ?_
    refine loop2 24 0 _ (M 55 32).toNat (M 69) (by omega) (by omega) (by omega) ?_ ?_ (by omega)
    · rw [zblk_0, z_mup_self, Int.toNat_of_nonneg hn0.1]; funext u j; by_cases h : u = 55 ∧ j = 32 <;> simp [z_up, h]
    · unfold zKeep; rw [if_neg (by omega)]
  · refine x_iconst 13 rfl dX11_keeps_12 (by decide) ?_
    refine y_istore_n 14 rfl dX11_keeps_13 rfl rfl (ls' := [_, _, _, _]) rfl (by decide) ?_
    refine z_mem (M' := z_mup M 69 (zshift (M 69) 0)) (by rw [zshift_0, z_mup_self]) (loop1 361 0 (by omega) (by omega) (by omega))
