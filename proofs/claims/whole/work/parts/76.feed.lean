/-! feed -/
def zfb (x : Nat → Int) (i : Nat) : Int := w8 (zshr (x (i / 4)) (24 - 8 * ((i % 4 : Nat) : Int)))
theorem w8_w8 {x : Int} : w8 (w8 x) = w8 x := by unfold w8; omega
theorem w8_in {x : Int} : -128 ≤ w8 x ∧ w8 x ≤ 127 := by unfold w8; omega
theorem w8_256 {x : Int} : w8 x % 256 = x % 256 := by unfold w8; omega
def five (x0 x1 x2 x3 x4 : Int) : Nat → Int := fun i => if i = 0 then x0 else if i = 1 then x1 else if i = 2 then x2 else if i = 3 then x3 else x4
theorem zblk_up {g f : Nat → Int} {B n : Nat} {M : zMem} {a : Nat} (h : M a = zblk g f B n) : z_up M a (B + n) (f n) = z_mup M a (zblk g f B (n + 1)) := by
  funext i j
  unfold z_up z_mup
  by_cases h1 : i = a
  · subst h1
    rw [if_pos rfl]
    by_cases h2 : j = B + n
    · subst h2
      rw [if_pos ⟨rfl, rfl⟩, zblk_at (by omega)]
    · rw [if_neg (by omega), h]
      unfold zblk
      by_cases h3 : B ≤ j ∧ j < B + n
      · rw [if_pos h3, if_pos (by omega)]
      · rw [if_neg h3, if_neg (by omega)]
  · rw [if_neg (by omega), if_neg h1]

set_option maxRecDepth 100000 in
set_option maxHeartbeats 4000000 in
theorem c_X11_feed {d sz : Nat} {S : zSh} {M : zMem} (hL : LY S sz) {x0 x1 x2 x3 x4 : Int} (hn : 0 ≤ M 55 13 ∧ M 55 13 ≤ 400) : zX d 0 0 mX11_feed [zn 55, zi x0, zi x1, zi x2, zi x3, zi x4] sz S M (zI sz S (fun r M' => (400 < M 55 13 + 20 ∧ r = -1 ∧ M' = M) ∨ (M 55 13 + 20 ≤ 400 ∧ r = M 55 13 + 20 ∧ (∀ i, i ≠ 55 → i ≠ 62 → i ≠ 63 → M' i = M i) ∧ (∀ j, j ≠ 13 → M' 55 j = M 55 j) ∧ M' 55 13 = M 55 13 + 20 ∧ M' 62 = zblk (M 62) (zfb (five x0 x1 x2 x3 x4)) (M 55 13).toNat 20))) := by
  have loop : M 55 13 + 20 ≤ 400 → ∀ (q n : Nat) (M1 : zMem), 20 < q + n → n ≤ 20 → (∀ i, i ≠ 62 → i ≠ 63 → M1 i = M i) → (∀ j, j < 5 → M1 63 j = five x0 x1 x2 x3 x4 j) → M1 62 = zblk (M 62) (zfb (five x0 x1 x2 x3 x4)) (M 55 13).toNat n → zW mX11_feed d 0 0 [] (zI sz S (fun r M' => (400 < M 55 13 + 20 ∧ r = -1 ∧ M' = M) ∨ (M 55 13 + 20 ≤ 400 ∧ r = M 55 13 + 20 ∧ (∀ i, i ≠ 55 → i ≠ 62 → i ≠ 63 → M' i = M i) ∧ (∀ j, j ≠ 13 → M' 55 j = M 55 j) ∧ M' 55 13 = M 55 13 + 20 ∧ M' 62 = zblk (M 62) (zfb (five x0 x1 x2 x3 x4)) (M 55 13).toNat 20))) 55 [some (zn 55), some (zi x0), some (zi x1), some (zi x2), some (zi x3), some (zi x4), some (zi n)] [] sz S M1 := by
    intro h9 q
    induction q with
    | zero => intro n M1 hq hn2; omega
    | succ q ih =>
      intro n M1 hq hn2 h1 h2 h3
      have e13 : M1 55 13 = M 55 13 := by rw [h1 55 (by decide) (by decide)]
      refine x_iload 57 rfl dX11_feed_55 rfl ?_
      refine x_bipush 59 rfl dX11_feed_57 (by decide) ?_
      refine x_icmp_ge 62 101 rfl dX11_feed_59 (by decide) (fun c59 => ?_) (fun c59 => ?_)
      · refine x_aload_n 102 rfl dX11_feed_101 0 rfl rfl ?_
        refine x_dupr 103 rfl dX11_feed_102 ?_
        refine x_geti 106 rfl fX11_143 dX11_feed_103 (lyl55 hL) (lys55 hL) (by decide) ?_
        refine x_bipush 108 rfl dX11_feed_106 (by decide) ?_
        refine y_iadd 109 rfl dX11_feed_108 (by omega) ?_
        refine x_puti 112 rfl fX11_143 dX11_feed_109 (lyl55 hL) (lys55 hL) (by decide) ?_
        refine x_aload_n 113 rfl dX11_feed_112 0 rfl rfl ?_
        refine x_geti 116 rfl fX11_143 dX11_feed_113 (lyl55 hL) (lys55 hL) (by decide) ?_
        refine x_reti dX11_feed_116 rfl ?_
        have en : n = 20 := by omega
        subst en
        refine Or.inr ⟨h9, ?_, fun i a b c => ?_, fun j hj => ?_, ?_, ?_⟩
        · rw [z_up_eq, e13]
        · rw [z_up_ne a]; exact h1 i b c
        · rw [z_up_nk hj]; rw [h1 55 (by decide) (by decide)]
        · rw [z_up_eq, e13]
        · rw [z_up_ne (by decide)]; exact h3
      · refine x_aload_n 63 rfl dX11_feed_62 0 rfl rfl ?_
        refine x_getr 66 rfl fX11_41 dX11_feed_63 (lyl55 hL) (lys55 hL) (by decide) (62) rfl ?_
        refine x_aload_n 67 rfl dX11_feed_66 0 rfl rfl ?_
        refine x_geti 70 rfl fX11_143 dX11_feed_67 (lyl55 hL) (lys55 hL) (by decide) ?_
        refine x_iload 72 rfl dX11_feed_70 rfl ?_
        refine y_iadd 73 rfl dX11_feed_72 (by omega) ?_
        refine x_aload_n 74 rfl dX11_feed_73 0 rfl rfl ?_
        refine x_getr 77 rfl fX11_44 dX11_feed_74 (lyl55 hL) (lys55 hL) (by decide) (63) rfl ?_
        refine x_iload 79 rfl dX11_feed_77 rfl ?_
        refine x_iconst 80 rfl dX11_feed_79 (by decide) ?_
        refine x_idiv 81 rfl dX11_feed_80 (by omega) ?_
        rw [z_tdiv (by omega) (by omega) (by decide)]
        refine x_iald 82 rfl dX11_feed_81 (lyl63 hL) (lys63 hL) (by omega) (by omega) ?_
        rw [show ((n : Int) / 4).toNat = n / 4 by omega, h2 (n / 4) (by omega)]
        refine x_bipush 84 rfl dX11_feed_82 (by decide) ?_
        refine x_bipush 86 rfl dX11_feed_84 (by decide) ?_
        refine x_iload 88 rfl dX11_feed_86 rfl ?_
        refine x_iconst 89 rfl dX11_feed_88 (by decide) ?_
        refine x_irem 90 rfl dX11_feed_89 (by omega) ?_
        rw [z_tmodn (by omega)]
        refine y_imul 91 rfl dX11_feed_90 (by omega) ?_
        refine y_isub 92 rfl dX11_feed_91 (by omega) ?_
        refine x_ishr 93 rfl dX11_feed_92 ?_
        refine x_i2b 94 rfl dX11_feed_93 ?_
        refine x_bast 95 rfl dX11_feed_94 (lyl62 hL) (lys62 hL) (by omega) (by omega) ?_
        refine z_mem (M' := z_mup M1 62 (zblk (M 62) (zfb (five x0 x1 x2 x3 x4)) (M 55 13).toNat (n + 1))) ?_ ?_
        · rw [e13, show (M 55 13 + (n : Int)).toNat = (M 55 13).toNat + n by omega, ← zblk_up h3]
          unfold zfb
          rw [w8_w8, show (n : Int) % 4 = ((n % 4 : Nat) : Int) by omega]
        refine w_iinc 98 rfl dX11_feed_95 rfl (by decide) (by omega) rfl (ls' := [_, _, _, _, _, _, _]) rfl (by decide) ?_
        refine x_goto 55 dX11_feed_98 (by decide) ?_
        exact ih (n + 1) _ (by omega) (by omega) (fun i a b => by rw [z_mup_ne a]; exact h1 i a b) (fun j hj => by rw [z_mup_ne (by decide)]; exact h2 j hj) z_mup_eq
  refine zX_of pl_RX11 [some (zn 55), some (zi x0), some (zi x1), some (zi x2), some (zi x3), some (zi x4), none] 1 rfl rfl ?_
  refine x_aload_n 1 rfl dX11_feed_0 0 rfl rfl ?_
  refine x_geti 4 rfl fX11_143 dX11_feed_1 (lyl55 hL) (lys55 hL) (by decide) ?_
  refine x_bipush 6 rfl dX11_feed_4 (by decide) ?_
  refine y_iadd 7 rfl dX11_feed_6 (by omega) ?_
  refine x_sipush 10 rfl dX11_feed_7 (by decide) ?_
  refine x_icmp_le 13 15 rfl dX11_feed_10 (by decide) (fun c10 => ?_) (fun c10 => ?_)
  · refine x_aload_n 16 rfl dX11_feed_15 0 rfl rfl ?_
    refine x_getr 19 rfl fX11_44 dX11_feed_16 (lyl55 hL) (lys55 hL) (by decide) (63) rfl ?_
    refine x_iconst 20 rfl dX11_feed_19 (by decide) ?_
    refine x_iload_n 21 rfl dX11_feed_20 1 rfl rfl ?_
    refine x_iastk 22 rfl dX11_feed_21 (lyl63 hL) (lys63 hL) 0 rfl (by decide) ?_
    refine x_aload_n 23 rfl dX11_feed_22 0 rfl rfl ?_
    refine x_getr 26 rfl fX11_44 dX11_feed_23 (lyl55 hL) (lys55 hL) (by decide) (63) rfl ?_
    refine x_iconst 27 rfl dX11_feed_26 (by decide) ?_
    refine x_iload_n 28 rfl dX11_feed_27 2 rfl rfl ?_
    refine x_iastk 29 rfl dX11_feed_28 (lyl63 hL) (lys63 hL) 1 rfl (by decide) ?_
    refine x_aload_n 30 rfl dX11_feed_29 0 rfl rfl ?_
    refine x_getr 33 rfl fX11_44 dX11_feed_30 (lyl55 hL) (lys55 hL) (by decide) (63) rfl ?_
    refine x_iconst 34 rfl dX11_feed_33 (by decide) ?_
    refine x_iload_n 35 rfl dX11_feed_34 3 rfl rfl ?_
    refine x_iastk 36 rfl dX11_feed_35 (lyl63 hL) (lys63 hL) 2 rfl (by decide) ?_
    refine x_aload_n 37 rfl dX11_feed_36 0 rfl rfl ?_
    refine x_getr 40 rfl fX11_44 dX11_feed_37 (lyl55 hL) (lys55 hL) (by decide) (63) rfl ?_
    refine x_iconst 41 rfl dX11_feed_40 (by decide) ?_
    refine x_iload 43 rfl dX11_feed_41 rfl ?_
    refine x_iastk 44 rfl dX11_feed_43 (lyl63 hL) (lys63 hL) 3 rfl (by decide) ?_
    refine x_aload_n 45 rfl dX11_feed_44 0 rfl rfl ?_
    refine x_getr 48 rfl fX11_44 dX11_feed_45 (lyl55 hL) (lys55 hL) (by decide) (63) rfl ?_
    refine x_iconst 49 rfl dX11_feed_48 (by decide) ?_
    refine x_iload 51 rfl dX11_feed_49 rfl ?_
    refine x_iastk 52 rfl dX11_feed_51 (lyl63 hL) (lys63 hL) 4 rfl (by decide) ?_
    refine x_iconst 53 rfl dX11_feed_52 (by decide) ?_
    refine y_istore 55 rfl dX11_feed_53 rfl (ls' := [_, _, _, _, _, _, _]) rfl (by decide) ?_
    refine loop (by omega) 21 0 _ (by omega) (by omega) (fun i a b => by rw [z_up_ne b, z_up_ne b, z_up_ne b, z_up_ne b, z_up_ne b]) (fun j hj => ?_) ?_
    · have : j = 0 ∨ j = 1 ∨ j = 2 ∨ j = 3 ∨ j = 4 := by omega
      rcases this with rfl | rfl | rfl | rfl | rfl <;> simp [z_up, five]
    · rw [z_up_ne (by decide), z_up_ne (by decide), z_up_ne (by decide), z_up_ne (by decide), z_up_ne (by decide)]
      funext j
      unfold zblk
      rw [if_neg (by omega)]
  · refine x_iconst 14 rfl dX11_feed_13 (by decide) ?_
    refine x_reti dX11_feed_14 rfl ?_
    exact Or.inl ⟨by omega, rfl, rfl⟩

theorem zand_255 {v : Int} : zand v 255 = v % 256 := by
  have h3 : ((BitVec.ofInt 32 v) &&& 255#32).toNat = (v % 256).toNat := by
    rw [BitVec.toNat_and, BitVec.toNat_ofInt, show (255#32).toNat = 2 ^ 8 - 1 from rfl, Nat.and_two_pow_sub_one_eq_mod]
    omega
  have h4 : zand v 255 = ((BitVec.ofInt 32 v) &&& 255#32).toInt := rfl
  rw [h4, BitVec.toInt_eq_toNat_cond, h3]
  rw [if_pos (by omega)]
  omega
theorem zbyte_fb {x : Int} {i : Nat} : zbyte x i = w8 (zshr x (24 - 8 * (i : Int))) % 256 := by
  unfold zbyte
  rw [zand_255, w8_256]
/-- both tapes hold the same -/
theorem tape_tie {c r : Nat → Int} (h : ∀ j, c j = r j % 256) (n : Nat) (x0 x1 x2 x3 x4 : Int) (j : Nat) : zput (zput (zput (zput (zput c n x0) (n + 4) x1) (n + 8) x2) (n + 12) x3) (n + 16) x4 j = zblk r (zfb (five x0 x1 x2 x3 x4)) n 20 j % 256 := by
  have key : ∀ i q : Nat, q < 5 → 4 * q ≤ i → i < 4 * q + 4 → zbyte (five x0 x1 x2 x3 x4 q) (i - 4 * q) = zfb (five x0 x1 x2 x3 x4) i % 256 := fun i q h1 h2 h3 => by
    rw [zbyte_fb]
    unfold zfb
    rw [show i / 4 = q by omega, show i % 4 = i - 4 * q by omega]
  unfold zput zblk
  by_cases h5 : n ≤ j ∧ j < n + 20
  · rw [if_pos h5]
    by_cases h4 : n + 16 ≤ j ∧ j < n + 16 + 4
    · rw [if_pos h4, ← key (j - n) 4 (by omega) (by omega) (by omega), show j - (n + 16) = j - n - 4 * 4 by omega]; rfl
    rw [if_neg h4]
    by_cases h3 : n + 12 ≤ j ∧ j < n + 12 + 4
    · rw [if_pos h3, ← key (j - n) 3 (by omega) (by omega) (by omega), show j - (n + 12) = j - n - 4 * 3 by omega]; rfl
    rw [if_neg h3]
    by_cases h2 : n + 8 ≤ j ∧ j < n + 8 + 4
    · rw [if_pos h2, ← key (j - n) 2 (by omega) (by omega) (by omega), show j - (n + 8) = j - n - 4 * 2 by omega]; rfl
    rw [if_neg h2]
    by_cases h1 : n + 4 ≤ j ∧ j < n + 4 + 4
    · rw [if_pos h1, ← key (j - n) 1 (by omega) (by omega) (by omega), show j - (n + 4) = j - n - 4 * 1 by omega]; rfl
    rw [if_neg h1, if_pos (by omega), ← key (j - n) 0 (by omega) (by omega) (by omega), show j - n - 4 * 0 = j - n by omega]; rfl
  · rw [if_neg h5, if_neg (by omega), if_neg (by omega), if_neg (by omega), if_neg (by omega), if_neg (by omega)]
    exact h j
