theorem z_up_nk {M : zMem} {a k j : Nat} {x : Int} (h : j ≠ k) : z_up M a k x a j = M a j := by simp [z_up, h]
theorem z_up_eq {M : zMem} {a k : Nat} {x : Int} : z_up M a k x a k = x := by simp [z_up]
theorem z_mup_eq {M : zMem} {a : Nat} {f : Nat → Int} : z_mup M a f a = f := by simp [z_mup]
theorem z_cpy_all {f g : Nat → Int} {n j : Nat} (h : j < n) : z_cpy f g 0 0 n j = f j := by simp [z_cpy, h]
def ku (k : Nat → Int) (i : Nat) (v : Int) : Nat → Int := fun j => if j = i then v else k j
def kSign (k : Nat → Int) (lay debt : Int) : Nat → Int := ku (ku (ku (ku (ku k (23 + (k 75).toNat) lay) (3 + (k 75).toNat) debt) (31 + (k 75).toNat) (k 2)) (11 + (k 75).toNat) 1) 75 (k 75 + 1)
def kGround (k : Nat → Int) (w x y z : Int) : Nat → Int := ku (ku (ku (ku (ku k (19 + (k 76).toNat) w) (39 + 3 * (k 76).toNat) x) (39 + 3 * (k 76).toNat + 1) y) (39 + 3 * (k 76).toNat + 2) z) 76 (k 76 + 1)
def kWord (k : Nat → Int) (h p : Int) : Nat → Int := ku (ku (ku k (57 + 2 * (k 77).toNat) h) (57 + 2 * (k 77).toNat + 1) p) 77 (k 77 + 1)
theorem zor_all : ∀ A : Nat, A < 256 → ∀ h : Nat, h < 8 → A / 2 ^ h % 2 = 0 → zor A (zshl 1 h) = A + 2 ^ h := by decide +kernel
theorem zor_bit {k : Nat → Int} (hi : KI k) {n : Nat} (hn : n < 8) (hz : k (11 + n) = 0) : zor (zmask k) (zshl 1 n) = zmask k + 2 ^ n := by
  have hm := zmask_in hi
  obtain ⟨b0, b1, b2, b3, b4, b5, b6, b7⟩ := zmask_bits hi
  have h1 := zor_all (zmask k).toNat (by omega) n hn
  rw [Int.toNat_of_nonneg hm.1] at h1
  refine h1 ?_
  have hn8 : n = 0 ∨ n = 1 ∨ n = 2 ∨ n = 3 ∨ n = 4 ∨ n = 5 ∨ n = 6 ∨ n = 7 := by omega
  rcases hn8 with rfl | rfl | rfl | rfl | rfl | rfl | rfl | rfl <;> simp only [Nat.add_zero, Nat.reduceAdd, Nat.reducePow] at hz ⊢ <;> omega
theorem zmask_upd {k k' : Nat → Int} {n : Nat} {v : Int} (hn : n < 8) (h : ∀ j, j < 8 → k' (11 + j) = if j = n then v else k (11 + j)) : zmask k' = zmask k + 2 ^ n * (v - k (11 + n)) := by
  have e0 := h 0 (by decide)
  have e1 := h 1 (by decide)
  have e2 := h 2 (by decide)
  have e3 := h 3 (by decide)
  have e4 := h 4 (by decide)
  have e5 := h 5 (by decide)
  have e6 := h 6 (by decide)
  have e7 := h 7 (by decide)
  have hn8 : n = 0 ∨ n = 1 ∨ n = 2 ∨ n = 3 ∨ n = 4 ∨ n = 5 ∨ n = 6 ∨ n = 7 := by omega
  unfold zmask
  rcases hn8 with rfl | rfl | rfl | rfl | rfl | rfl | rfl | rfl <;> simp at e0 e1 e2 e3 e4 e5 e6 e7 ⊢ <;> omega
theorem kSign_ab {k : Nat → Int} {n : Nat} (hn : k 75 = n) (h8 : n < 8) (lay debt : Int) : ∀ j, j < 8 → kSign k lay debt (11 + j) = if j = n then 1 else k (11 + j) := by
  intro j hj
  unfold kSign ku
  rw [hn, Int.toNat_natCast]
  repeat' split
  all_goals first | rfl | omega | (exfalso; omega)
theorem zmask_sign {k : Nat → Int} (hi : KI k) (h8 : k 75 < 8) (lay debt : Int) : zor (zmask k) (zshl 1 (k 75)) = zmask (kSign k lay debt) := by
  have h0 := hi.1
  obtain ⟨n, hn⟩ := Int.eq_ofNat_of_zero_le (show 0 ≤ k 75 by omega)
  have hz := (hi.2.1 n (by omega)).2.2.2.2.2 (by omega)
  rw [zmask_upd (n := n) (by omega) (kSign_ab hn (by omega) lay debt), hn, zor_bit hi (by omega) hz, hz]
  simp

set_option maxRecDepth 100000 in
set_option maxHeartbeats 4000000 in
theorem c_X7_groundCanBe {d sz : Nat} {S : zSh} {M : zMem} {x0 x1 x2 x3 : Int} : zX d 0 0 mX7_groundCanBe [zi x0, zi x1, zi x2, zi x3] sz S M (zI sz S (fun r M' => r = (if (0 ≤ x0 ∧ x0 ≤ 99) ∧ (0 ≤ x1 ∧ x1 ≤ 10) ∧ (0 ≤ x2 ∧ x2 ≤ 10) ∧ (0 ≤ x3 ∧ x3 ≤ 10) ∧ x1 + x2 + x3 ≤ 10 then 1 else 0) ∧ M' = M)) := by
  refine zX_of pl_RX7 [some (zi x0), some (zi x1), some (zi x2), some (zi x3)] 0 rfl rfl ?_
  refine x_iload_n 1 rfl dX7_groundCanBe_0 0 rfl rfl ?_
  refine x_if_lt 4 54 rfl dX7_groundCanBe_1 (by decide) (fun c1 => ?_) (fun c1 => ?_)
  · refine x_iconst 55 rfl dX7_groundCanBe_54 (by decide) ?_
    refine x_retz dX7_groundCanBe_55 rfl (by omega) ?_
    refine ⟨?_, rfl⟩
    split <;> omega
  · refine x_iload_n 5 rfl dX7_groundCanBe_4 0 rfl rfl ?_
    refine x_bipush 7 rfl dX7_groundCanBe_5 (by decide) ?_
    refine x_icmp_gt 10 54 rfl dX7_groundCanBe_7 (by decide) (fun c7 => ?_) (fun c7 => ?_)
    · refine x_iconst 55 rfl dX7_groundCanBe_54 (by decide) ?_
      refine x_retz dX7_groundCanBe_55 rfl (by omega) ?_
      refine ⟨?_, rfl⟩
      split <;> omega
    · refine x_iload_n 11 rfl dX7_groundCanBe_10 1 rfl rfl ?_
      refine x_if_lt 14 54 rfl dX7_groundCanBe_11 (by decide) (fun c11 => ?_) (fun c11 => ?_)
      · refine x_iconst 55 rfl dX7_groundCanBe_54 (by decide) ?_
        refine x_retz dX7_groundCanBe_55 rfl (by omega) ?_
        refine ⟨?_, rfl⟩
        split <;> omega
      · refine x_iload_n 15 rfl dX7_groundCanBe_14 1 rfl rfl ?_
        refine x_bipush 17 rfl dX7_groundCanBe_15 (by decide) ?_
        refine x_icmp_gt 20 54 rfl dX7_groundCanBe_17 (by decide) (fun c17 => ?_) (fun c17 => ?_)
        · refine x_iconst 55 rfl dX7_groundCanBe_54 (by decide) ?_
          refine x_retz dX7_groundCanBe_55 rfl (by omega) ?_
          refine ⟨?_, rfl⟩
          split <;> omega
        · refine x_iload_n 21 rfl dX7_groundCanBe_20 2 rfl rfl ?_
          refine x_if_lt 24 54 rfl dX7_groundCanBe_21 (by decide) (fun c21 => ?_) (fun c21 => ?_)
          · refine x_iconst 55 rfl dX7_groundCanBe_54 (by decide) ?_
            refine x_retz dX7_groundCanBe_55 rfl (by omega) ?_
            refine ⟨?_, rfl⟩
            split <;> omega
          · refine x_iload_n 25 rfl dX7_groundCanBe_24 2 rfl rfl ?_
            refine x_bipush 27 rfl dX7_groundCanBe_25 (by decide) ?_
            refine x_icmp_gt 30 54 rfl dX7_groundCanBe_27 (by decide) (fun c27 => ?_) (fun c27 => ?_)
            · refine x_iconst 55 rfl dX7_groundCanBe_54 (by decide) ?_
              refine x_retz dX7_groundCanBe_55 rfl (by omega) ?_
              refine ⟨?_, rfl⟩
              split <;> omega
            · refine x_iload_n 31 rfl dX7_groundCanBe_30 3 rfl rfl ?_
              refine x_if_lt 34 54 rfl dX7_groundCanBe_31 (by decide) (fun c31 => ?_) (fun c31 => ?_)
              · refine x_iconst 55 rfl dX7_groundCanBe_54 (by decide) ?_
                refine x_retz dX7_groundCanBe_55 rfl (by omega) ?_
                refine ⟨?_, rfl⟩
                split <;> omega
              · refine x_iload_n 35 rfl dX7_groundCanBe_34 3 rfl rfl ?_
                refine x_bipush 37 rfl dX7_groundCanBe_35 (by decide) ?_
                refine x_icmp_gt 40 54 rfl dX7_groundCanBe_37 (by decide) (fun c37 => ?_) (fun c37 => ?_)
                · refine x_iconst 55 rfl dX7_groundCanBe_54 (by decide) ?_
                  refine x_retz dX7_groundCanBe_55 rfl (by omega) ?_
                  refine ⟨?_, rfl⟩
                  split <;> omega
                · refine x_iload_n 41 rfl dX7_groundCanBe_40 1 rfl rfl ?_
                  refine x_iload_n 42 rfl dX7_groundCanBe_41 2 rfl rfl ?_
                  refine y_iadd 43 rfl dX7_groundCanBe_42 (by omega) ?_
                  refine x_iload_n 44 rfl dX7_groundCanBe_43 3 rfl rfl ?_
                  refine y_iadd 45 rfl dX7_groundCanBe_44 (by omega) ?_
                  refine x_bipush 47 rfl dX7_groundCanBe_45 (by decide) ?_
                  refine x_icmp_gt 50 54 rfl dX7_groundCanBe_47 (by decide) (fun c47 => ?_) (fun c47 => ?_)
                  · refine x_iconst 55 rfl dX7_groundCanBe_54 (by decide) ?_
                    refine x_retz dX7_groundCanBe_55 rfl (by omega) ?_
                    refine ⟨?_, rfl⟩
                    split <;> omega
                  · refine x_iconst 51 rfl dX7_groundCanBe_50 (by decide) ?_
                    refine x_goto 55 dX7_groundCanBe_51 (by decide) ?_
                    refine x_retz dX7_groundCanBe_55 rfl (by omega) ?_
                    refine ⟨?_, rfl⟩
                    split <;> omega

set_option maxRecDepth 100000 in
set_option maxHeartbeats 4000000 in
theorem c_X7_ownersNow {d sz : Nat} {S : zSh} {M : zMem} {a : Nat} {k : Nat → Int} (h : SH S sz a) (hs : SR M a k) (hi : KI k)  : zX (d + 3) 0 0 mX7_ownersNow [zn a] sz S M (zI sz S (fun r M' => r = zmoney k (k 0) - zsum (zwholeN k) (k 75).toNat ∧ M' = M)) := by
  have i1 := hi.1
  have e0 := hs.1.1
  have i2 := zmoney_in hi (oil := k 0) (by omega)
  have hw : ∀ n : Nat, n ≤ (k 75).toNat → 0 ≤ zsum (zwholeN k) n ∧ zsum (zwholeN k) n ≤ 1098900 * (n : Int) := by
    intro n
    induction n with
    | zero => intro _; exact ⟨Int.le_refl _, by simp [zsum]⟩
    | succ n ih =>
      intro hn
      have h1 := ih (by omega)
      have h2 := (hi.2.1 n (by omega)).2.2.2.2.1 (by omega)
      have h3 : 0 ≤ zwholeN k n ∧ zwholeN k n ≤ 1098900 := by
        unfold zwholeN zwhole
        split
        · exact ⟨Int.ediv_nonneg i2.2.2.1 (by omega), Int.le_trans (Int.ediv_le_self _ i2.2.2.1) i2.2.2.2⟩
        · decide
      simp only [zsum]
      omega
  have loop : ∀ (q n : Nat) (x : Int), q + n = (k 75).toNat → x = zmoney k (k 0) - zsum (zwholeN k) n → zW mX7_ownersNow (d + 3) 0 0 [] (zI sz S (fun r M' => r = zmoney k (k 0) - zsum (zwholeN k) (k 75).toNat ∧ M' = M)) 7 [some (zn a), some (zi x), some (zi n)] [] sz S M := by
    intro q
    induction q with
    | zero =>
      intro n x hn hx
      refine x_iload_n 8 rfl dX7_ownersNow_7 2 rfl rfl ?_
      refine x_aload_n 9 rfl dX7_ownersNow_8 0 rfl rfl ?_
      refine x_geti 12 rfl fX7_49 dX7_ownersNow_9 (shl0 h) (shs0 h) (by decide) ?_
      refine x_icmp_ge 15 29 rfl dX7_ownersNow_12 (by decide) (fun c12 => ?_) (fun c12 => ?_)
      · refine x_iload_n 30 rfl dX7_ownersNow_29 1 rfl rfl ?_
        refine x_reti dX7_ownersNow_30 rfl ?_
        refine ⟨?_, rfl⟩
        first | (exfalso; omega) | (rw [hx, show n = (k 75).toNat by omega])
      · refine x_iload_n 16 rfl dX7_ownersNow_15 1 rfl rfl ?_
        refine x_aload_n 17 rfl dX7_ownersNow_16 0 rfl rfl ?_
        refine x_iload_n 18 rfl dX7_ownersNow_17 2 rfl rfl ?_
        refine x_cVi 21 rfl lX7_97 dX7_ownersNow_18 (shl0 h) (shs0 h) (c_X7_wholeOf h hs hi (x := n) (by omega)) rfl rfl (Nat.le_of_ble_eq_true rfl) (fun r M1 hr => ?_)
        obtain ⟨rfl, rfl⟩ := hr
        rw [Int.toNat_natCast]
        refine y_isub 22 rfl dX7_ownersNow_21 (by omega) ?_
        refine x_istore_n 23 rfl dX7_ownersNow_22 rfl (ls' := [_, _, _]) rfl (by decide) ?_
        refine y_iinc 26 rfl dX7_ownersNow_23 rfl (by decide) (by omega) (ls' := [_, _, _]) rfl (by decide) ?_
        refine x_goto 7 dX7_ownersNow_26 (by decide) ?_
        first | exact ih (n + 1) _ (by omega) (by simp only [zsum]; omega) | exact loop (k 75).toNat 0 _ (by omega) (by simp [zsum]) | (exfalso; omega)
    | succ q ih =>
      intro n x hn hx
      have hw1 := hw n (by omega)
      have hw2 := hw (n + 1) (by omega)
      simp only [zsum] at hw2
      refine x_iload_n 8 rfl dX7_ownersNow_7 2 rfl rfl ?_
      refine x_aload_n 9 rfl dX7_ownersNow_8 0 rfl rfl ?_
      refine x_geti 12 rfl fX7_49 dX7_ownersNow_9 (shl0 h) (shs0 h) (by decide) ?_
      refine x_icmp_ge 15 29 rfl dX7_ownersNow_12 (by decide) (fun c12 => ?_) (fun c12 => ?_)
      · refine x_iload_n 30 rfl dX7_ownersNow_29 1 rfl rfl ?_
        refine x_reti dX7_ownersNow_30 rfl ?_
        refine ⟨?_, rfl⟩
        first | (exfalso; omega) | (rw [hx, show n = (k 75).toNat by omega])
      · refine x_iload_n 16 rfl dX7_ownersNow_15 1 rfl rfl ?_
        refine x_aload_n 17 rfl dX7_ownersNow_16 0 rfl rfl ?_
        refine x_iload_n 18 rfl dX7_ownersNow_17 2 rfl rfl ?_
        refine x_cVi 21 rfl lX7_97 dX7_ownersNow_18 (shl0 h) (shs0 h) (c_X7_wholeOf h hs hi (x := n) (by omega)) rfl rfl (Nat.le_of_ble_eq_true rfl) (fun r M1 hr => ?_)
        obtain ⟨rfl, rfl⟩ := hr
        rw [Int.toNat_natCast]
        refine y_isub 22 rfl dX7_ownersNow_21 (by omega) ?_
        refine x_istore_n 23 rfl dX7_ownersNow_22 rfl (ls' := [_, _, _]) rfl (by decide) ?_
        refine y_iinc 26 rfl dX7_ownersNow_23 rfl (by decide) (by omega) (ls' := [_, _, _]) rfl (by decide) ?_
        refine x_goto 7 dX7_ownersNow_26 (by decide) ?_
        first | exact ih (n + 1) _ (by omega) (by simp only [zsum]; omega) | exact loop (k 75).toNat 0 _ (by omega) (by simp [zsum]) | (exfalso; omega)
  refine zX_of pl_RX7 [some (zn a), none, none] 2 rfl rfl ?_
  refine x_aload_n 1 rfl dX7_ownersNow_0 0 rfl rfl ?_
  refine x_cVi 4 rfl lX7_89 dX7_ownersNow_1 (shl0 h) (shs0 h) (c_X7_moneyNow h hs hi) rfl rfl (Nat.le_of_ble_eq_true rfl) (fun r M1 hr => ?_)
  obtain ⟨rfl, rfl⟩ := hr
  refine x_istore_n 5 rfl dX7_ownersNow_4 rfl (ls' := [_, _, _]) rfl (by decide) ?_
  refine x_iconst 6 rfl dX7_ownersNow_5 (by decide) ?_
  refine x_istore_n 7 rfl dX7_ownersNow_6 rfl (ls' := [_, _, _]) rfl (by decide) ?_
  first | exact ih (n + 1) _ (by omega) (by simp only [zsum]; omega) | exact loop (k 75).toNat 0 _ (by omega) (by simp [zsum]) | (exfalso; omega)

set_option maxRecDepth 100000 in
set_option maxHeartbeats 4000000 in
theorem c_X7_enlist {d sz : Nat} {S : zSh} {M : zMem} {a : Nat} {k : Nat → Int} (h : SH S sz a) (hs : SR M a k) (hi : KI k) {x y : Int} (h8 : k 75 < 8) : zX d 0 0 mX7_enlist [zn a, zi x, zi y] sz S M (zI sz S (fun r M' => r = k 75 ∧ (∀ i, ¬ (a ≤ i ∧ i < a + 11) → M' i = M i) ∧ M' (a + 10) = M (a + 10) ∧ SR M' a (kSign k x y))) := by
  have i1 := hi.1
  have e0 := hs.1.1
  refine zX_of pl_RX7 [some (zn a), some (zi x), some (zi y), none] 1 rfl rfl ?_
  refine x_aload_n 1 rfl dX7_enlist_0 0 rfl rfl ?_
  refine x_geti 4 rfl fX7_49 dX7_enlist_1 (shl0 h) (shs0 h) (by decide) ?_
  refine x_istore_n 5 rfl dX7_enlist_4 rfl (ls' := [_, _, _, _]) rfl (by decide) ?_
  refine x_aload_n 6 rfl dX7_enlist_5 0 rfl rfl ?_
  refine x_getr 9 rfl fX7_9 dX7_enlist_6 (shl0 h) (shs0 h) (by decide) (a + 1) rfl ?_
  refine x_iload_n 10 rfl dX7_enlist_9 3 rfl rfl ?_
  refine x_iload_n 11 rfl dX7_enlist_10 1 rfl rfl ?_
  refine x_iast 12 rfl dX7_enlist_11 (shl1 h) (shs1 h) (by omega) (by omega) ?_
  refine x_aload_n 13 rfl dX7_enlist_12 0 rfl rfl ?_
  refine x_getr 16 rfl fX7_15 dX7_enlist_13 (shl0 h) (shs0 h) (by decide) (a + 2) rfl ?_
  refine x_iload_n 17 rfl dX7_enlist_16 3 rfl rfl ?_
  refine x_iload_n 18 rfl dX7_enlist_17 2 rfl rfl ?_
  refine x_iast 19 rfl dX7_enlist_18 (shl2 h) (shs2 h) (by omega) (by omega) ?_
  refine x_aload_n 20 rfl dX7_enlist_19 0 rfl rfl ?_
  refine x_getr 23 rfl fX7_18 dX7_enlist_20 (shl0 h) (shs0 h) (by decide) (a + 3) rfl ?_
  refine x_iload_n 24 rfl dX7_enlist_23 3 rfl rfl ?_
  refine x_aload_n 25 rfl dX7_enlist_24 0 rfl rfl ?_
  refine x_getr 28 rfl fX7_30 dX7_enlist_25 (shl0 h) (shs0 h) (by decide) (a + 7) rfl ?_
  refine x_iconst 29 rfl dX7_enlist_28 (by decide) ?_
  refine x_iald 30 rfl dX7_enlist_29 (shl7 h) (shs7 h) (by omega) (by omega) ?_
  try simp (disch := omega) only [z_up_ne, z_up_nk, z_up_eq, z_mup_ne, z_mup_eq, Int.reduceToNat]
  refine x_iast 31 rfl dX7_enlist_30 (shl3 h) (shs3 h) (by omega) (by omega) ?_
  refine x_aload_n 32 rfl dX7_enlist_31 0 rfl rfl ?_
  refine x_dupr 33 rfl dX7_enlist_32 ?_
  refine x_geti 36 rfl fX7_58 dX7_enlist_33 (shl0 h) (shs0 h) (by decide) ?_
  try simp (disch := omega) only [z_up_ne, z_up_nk, z_up_eq, z_mup_ne, z_mup_eq, Int.reduceToNat]
  refine x_iconst 37 rfl dX7_enlist_36 (by decide) ?_
  refine x_iload_n 38 rfl dX7_enlist_37 3 rfl rfl ?_
  refine x_ishl 39 rfl dX7_enlist_38 ?_
  refine x_ior 40 rfl dX7_enlist_39 ?_
  refine x_puti 43 rfl fX7_58 dX7_enlist_40 (shl0 h) (shs0 h) (by decide) ?_
  refine x_aload_n 44 rfl dX7_enlist_43 0 rfl rfl ?_
  refine x_dupr 45 rfl dX7_enlist_44 ?_
  refine x_geti 48 rfl fX7_49 dX7_enlist_45 (shl0 h) (shs0 h) (by decide) ?_
  try simp (disch := omega) only [z_up_ne, z_up_nk, z_up_eq, z_mup_ne, z_mup_eq, Int.reduceToNat]
  refine x_iconst 49 rfl dX7_enlist_48 (by decide) ?_
  refine y_iadd 50 rfl dX7_enlist_49 (by omega) ?_
  refine x_puti 53 rfl fX7_49 dX7_enlist_50 (shl0 h) (shs0 h) (by decide) ?_
  refine x_iload_n 54 rfl dX7_enlist_53 3 rfl rfl ?_
  refine x_reti dX7_enlist_54 rfl ?_
  have em := zmask_sign hi h8 x y
  refine ⟨e0, ?_, ?_, ?_⟩
  · intro i hi2; simp (disch := omega) only [z_up_ne]
  · simp (disch := omega) only [z_up_ne]
  · obtain ⟨⟨s1, s2, s3, s4, s5, s6, s7, s8⟩, ⟨s9, s10, s11⟩, q1, q2, q3, q4, q5, q6, q7, q8⟩ := hs
    refine ⟨⟨?_, ?_, ?_, ?_, ?_, ?_, ?_, ?_⟩, ⟨?_, ?_, ?_⟩, ?_, ?_, ?_, ?_, ?_, ?_, ?_, ?_⟩
    · rw [e0]; simp [z_up, kSign, ku]
    · rw [← em, ← s2, ← s1]; simp [z_up]
    · (simp (disch := omega) only [z_up_ne, z_up_nk, z_up_eq, z_mup_ne, z_mup_eq]; simp only [kSign, ku, true_and]; repeat' split) <;> first | assumption | omega | (exfalso; omega)
    · (simp (disch := omega) only [z_up_ne, z_up_nk, z_up_eq, z_mup_ne, z_mup_eq]; simp only [kSign, ku, true_and]; repeat' split) <;> first | assumption | omega | (exfalso; omega)
    · (simp (disch := omega) only [z_up_ne, z_up_nk, z_up_eq, z_mup_ne, z_mup_eq]; simp only [kSign, ku, true_and]; repeat' split) <;> first | assumption | omega | (exfalso; omega)
    · (simp (disch := omega) only [z_up_ne, z_up_nk, z_up_eq, z_mup_ne, z_mup_eq]; simp only [kSign, ku, true_and]; repeat' split) <;> first | assumption | omega | (exfalso; omega)
    · (simp (disch := omega) only [z_up_ne, z_up_nk, z_up_eq, z_mup_ne, z_mup_eq]; simp only [kSign, ku, true_and]; repeat' split) <;> first | assumption | omega | (exfalso; omega)
    · (simp (disch := omega) only [z_up_ne, z_up_nk, z_up_eq, z_mup_ne, z_mup_eq]; simp only [kSign, ku, true_and]; repeat' split) <;> first | assumption | omega | (exfalso; omega)
    · (simp (disch := omega) only [z_up_ne, z_up_nk, z_up_eq, z_mup_ne, z_mup_eq]; simp only [kSign, ku, true_and]; repeat' split) <;> first | assumption | omega | (exfalso; omega)
    · (simp (disch := omega) only [z_up_ne, z_up_nk, z_up_eq, z_mup_ne, z_mup_eq]; simp only [kSign, ku, true_and]; repeat' split) <;> first | assumption | omega | (exfalso; omega)
    · (simp (disch := omega) only [z_up_ne, z_up_nk, z_up_eq, z_mup_ne, z_mup_eq]; simp only [kSign, ku, true_and]; repeat' split) <;> first | assumption | omega | (exfalso; omega)
    · intro j hj; have e := q1 j hj; (simp (disch := omega) only [z_up_ne, z_mup_ne]; simp only [kSign, ku, z_up, true_and]; repeat' split) <;> first | assumption | omega | (exfalso; omega)
    · intro j hj; have e := q2 j hj; (simp (disch := omega) only [z_up_ne, z_mup_ne]; simp only [kSign, ku, z_up, true_and]; repeat' split) <;> first | assumption | omega | (exfalso; omega)
    · intro j hj; have e := q3 j hj; (simp (disch := omega) only [z_up_ne, z_mup_ne]; simp only [kSign, ku, z_up, true_and]; repeat' split) <;> first | assumption | omega | (exfalso; omega)
    · intro j hj; have e := q4 j hj; (simp (disch := omega) only [z_up_ne, z_mup_ne]; simp only [kSign, ku, z_up, true_and]; repeat' split) <;> first | assumption | omega | (exfalso; omega)
    · intro j hj; have e := q5 j hj; (simp (disch := omega) only [z_up_ne, z_mup_ne]; simp only [kSign, ku, z_up, true_and]; repeat' split) <;> first | assumption | omega | (exfalso; omega)
    · intro j hj; have e := q6 j hj; (simp (disch := omega) only [z_up_ne, z_mup_ne]; simp only [kSign, ku, z_up, true_and]; repeat' split) <;> first | assumption | omega | (exfalso; omega)
    · intro j hj; have e := q7 j hj; (simp (disch := omega) only [z_up_ne, z_mup_ne]; simp only [kSign, ku, z_up, true_and]; repeat' split) <;> first | assumption | omega | (exfalso; omega)
    · intro j hj; have e := q8 j hj; (simp (disch := omega) only [z_up_ne, z_mup_ne]; simp only [kSign, ku, z_up, true_and]; repeat' split) <;> first | assumption | omega | (exfalso; omega)

set_option maxRecDepth 100000 in
set_option maxHeartbeats 4000000 in
theorem c_X7_addGround {d sz : Nat} {S : zSh} {M : zMem} {a : Nat} {k : Nat → Int} (h : SH S sz a) (hs : SR M a k) (hi : KI k) {x y z u : Int} (h4 : k 76 < 4) : zX d 0 0 mX7_addGround [zn a, zi x, zi y, zi z, zi u] sz S M (zI sz S (fun r M' => r = k 76 ∧ (∀ i, ¬ (a ≤ i ∧ i < a + 11) → M' i = M i) ∧ M' (a + 10) = M (a + 10) ∧ SR M' a (kGround k x y z u))) := by
  have i1 := hi.1
  have e0 := hs.1.2.2.1
  refine zX_of pl_RX7 [some (zn a), some (zi x), some (zi y), some (zi z), some (zi u), none] 1 rfl rfl ?_
  refine x_aload_n 1 rfl dX7_addGround_0 0 rfl rfl ?_
  refine x_geti 4 rfl fX7_61 dX7_addGround_1 (shl0 h) (shs0 h) (by decide) ?_
  refine x_istore 6 rfl dX7_addGround_4 (ls' := [_, _, _, _, _, _]) rfl (by decide) ?_
  refine x_aload_n 7 rfl dX7_addGround_6 0 rfl rfl ?_
  refine x_getr 10 rfl fX7_21 dX7_addGround_7 (shl0 h) (shs0 h) (by decide) (a + 4) rfl ?_
  refine x_iload 12 rfl dX7_addGround_10 rfl ?_
  refine x_iload_n 13 rfl dX7_addGround_12 1 rfl rfl ?_
  refine x_iast 14 rfl dX7_addGround_13 (shl4 h) (shs4 h) (by omega) (by omega) ?_
  refine x_aload_n 15 rfl dX7_addGround_14 0 rfl rfl ?_
  refine x_getr 18 rfl fX7_24 dX7_addGround_15 (shl0 h) (shs0 h) (by decide) (a + 5) rfl ?_
  refine x_iload 20 rfl dX7_addGround_18 rfl ?_
  refine x_iconst 21 rfl dX7_addGround_20 (by decide) ?_
  refine y_imul 22 rfl dX7_addGround_21 (by omega) ?_
  refine x_iload_n 23 rfl dX7_addGround_22 2 rfl rfl ?_
  refine x_iast 24 rfl dX7_addGround_23 (shl5 h) (shs5 h) (by omega) (by omega) ?_
  refine x_aload_n 25 rfl dX7_addGround_24 0 rfl rfl ?_
  refine x_getr 28 rfl fX7_24 dX7_addGround_25 (shl0 h) (shs0 h) (by decide) (a + 5) rfl ?_
  refine x_iload 30 rfl dX7_addGround_28 rfl ?_
  refine x_iconst 31 rfl dX7_addGround_30 (by decide) ?_
  refine y_imul 32 rfl dX7_addGround_31 (by omega) ?_
  refine x_iconst 33 rfl dX7_addGround_32 (by decide) ?_
  refine y_iadd 34 rfl dX7_addGround_33 (by omega) ?_
  refine x_iload_n 35 rfl dX7_addGround_34 3 rfl rfl ?_
  refine x_iast 36 rfl dX7_addGround_35 (shl5 h) (shs5 h) (by omega) (by omega) ?_
  refine x_aload_n 37 rfl dX7_addGround_36 0 rfl rfl ?_
  refine x_getr 40 rfl fX7_24 dX7_addGround_37 (shl0 h) (shs0 h) (by decide) (a + 5) rfl ?_
  refine x_iload 42 rfl dX7_addGround_40 rfl ?_
  refine x_iconst 43 rfl dX7_addGround_42 (by decide) ?_
  refine y_imul 44 rfl dX7_addGround_43 (by omega) ?_
  refine x_iconst 45 rfl dX7_addGround_44 (by decide) ?_
  refine y_iadd 46 rfl dX7_addGround_45 (by omega) ?_
  refine x_iload 48 rfl dX7_addGround_46 rfl ?_
  refine x_iast 49 rfl dX7_addGround_48 (shl5 h) (shs5 h) (by omega) (by omega) ?_
  refine x_aload_n 50 rfl dX7_addGround_49 0 rfl rfl ?_
  refine x_dupr 51 rfl dX7_addGround_50 ?_
  refine x_geti 54 rfl fX7_61 dX7_addGround_51 (shl0 h) (shs0 h) (by decide) ?_
  try simp (disch := omega) only [z_up_ne, z_up_nk, z_up_eq, z_mup_ne, z_mup_eq, Int.reduceToNat]
  refine x_iconst 55 rfl dX7_addGround_54 (by decide) ?_
  refine y_iadd 56 rfl dX7_addGround_55 (by omega) ?_
  refine x_puti 59 rfl fX7_61 dX7_addGround_56 (shl0 h) (shs0 h) (by decide) ?_
  refine x_iload 61 rfl dX7_addGround_59 rfl ?_
  refine x_reti dX7_addGround_61 rfl ?_
  have em : zmask (kGround k x y z u) = zmask k := by
    unfold zmask
    have e : ∀ j, j < 8 → kGround k x y z u (11 + j) = k (11 + j) := by
      intro j hj
      unfold kGround ku
      repeat' split
      all_goals first | rfl | omega | (exfalso; omega)
    have t0 := e 0 (by decide); have t1 := e 1 (by decide); have t2 := e 2 (by decide); have t3 := e 3 (by decide); have t4 := e 4 (by decide); have t5 := e 5 (by decide); have t6 := e 6 (by decide); have t7 := e 7 (by decide)
    simp at t0 t1 t2 t3 t4 t5 t6 t7
    rw [t0, t1, t2, t3, t4, t5, t6, t7]
  refine ⟨e0, ?_, ?_, ?_⟩
  · intro i hi2; simp (disch := omega) only [z_up_ne]
  · simp (disch := omega) only [z_up_ne]
  · obtain ⟨⟨s1, s2, s3, s4, s5, s6, s7, s8⟩, ⟨s9, s10, s11⟩, q1, q2, q3, q4, q5, q6, q7, q8⟩ := hs
    refine ⟨⟨?_, ?_, ?_, ?_, ?_, ?_, ?_, ?_⟩, ⟨?_, ?_, ?_⟩, ?_, ?_, ?_, ?_, ?_, ?_, ?_, ?_⟩
    · (simp (disch := omega) only [z_up_ne, z_up_nk, z_up_eq, z_mup_ne, z_mup_eq]; simp only [kGround, ku, true_and]; repeat' split) <;> first | assumption | omega | (exfalso; omega)
    · rw [em]; simp (disch := omega) only [z_up_ne, z_up_nk]; exact s2
    · rw [e0]; simp [z_up, kGround, ku]
    · (simp (disch := omega) only [z_up_ne, z_up_nk, z_up_eq, z_mup_ne, z_mup_eq]; simp only [kGround, ku, true_and]; repeat' split) <;> first | assumption | omega | (exfalso; omega)
    · (simp (disch := omega) only [z_up_ne, z_up_nk, z_up_eq, z_mup_ne, z_mup_eq]; simp only [kGround, ku, true_and]; repeat' split) <;> first | assumption | omega | (exfalso; omega)
    · (simp (disch := omega) only [z_up_ne, z_up_nk, z_up_eq, z_mup_ne, z_mup_eq]; simp only [kGround, ku, true_and]; repeat' split) <;> first | assumption | omega | (exfalso; omega)
    · (simp (disch := omega) only [z_up_ne, z_up_nk, z_up_eq, z_mup_ne, z_mup_eq]; simp only [kGround, ku, true_and]; repeat' split) <;> first | assumption | omega | (exfalso; omega)
    · (simp (disch := omega) only [z_up_ne, z_up_nk, z_up_eq, z_mup_ne, z_mup_eq]; simp only [kGround, ku, true_and]; repeat' split) <;> first | assumption | omega | (exfalso; omega)
    · (simp (disch := omega) only [z_up_ne, z_up_nk, z_up_eq, z_mup_ne, z_mup_eq]; simp only [kGround, ku, true_and]; repeat' split) <;> first | assumption | omega | (exfalso; omega)
    · (simp (disch := omega) only [z_up_ne, z_up_nk, z_up_eq, z_mup_ne, z_mup_eq]; simp only [kGround, ku, true_and]; repeat' split) <;> first | assumption | omega | (exfalso; omega)
    · (simp (disch := omega) only [z_up_ne, z_up_nk, z_up_eq, z_mup_ne, z_mup_eq]; simp only [kGround, ku, true_and]; repeat' split) <;> first | assumption | omega | (exfalso; omega)
    · intro j hj; have e := q1 j hj; (simp (disch := omega) only [z_up_ne, z_mup_ne]; simp only [kGround, ku, z_up, true_and]; repeat' split) <;> first | assumption | omega | (exfalso; omega)
    · intro j hj; have e := q2 j hj; (simp (disch := omega) only [z_up_ne, z_mup_ne]; simp only [kGround, ku, z_up, true_and]; repeat' split) <;> first | assumption | omega | (exfalso; omega)
    · intro j hj; have e := q3 j hj; (simp (disch := omega) only [z_up_ne, z_mup_ne]; simp only [kGround, ku, z_up, true_and]; repeat' split) <;> first | assumption | omega | (exfalso; omega)
    · intro j hj; have e := q4 j hj; (simp (disch := omega) only [z_up_ne, z_mup_ne]; simp only [kGround, ku, z_up, true_and]; repeat' split) <;> first | assumption | omega | (exfalso; omega)
    · intro j hj; have e := q5 j hj; (simp (disch := omega) only [z_up_ne, z_mup_ne]; simp only [kGround, ku, z_up, true_and]; repeat' split) <;> first | assumption | omega | (exfalso; omega)
    · intro j hj; have e := q6 j hj; (simp (disch := omega) only [z_up_ne, z_mup_ne]; simp only [kGround, ku, z_up, true_and]; repeat' split) <;> first | assumption | omega | (exfalso; omega)
    · intro j hj; have e := q7 j hj; (simp (disch := omega) only [z_up_ne, z_mup_ne]; simp only [kGround, ku, z_up, true_and]; repeat' split) <;> first | assumption | omega | (exfalso; omega)
    · intro j hj; have e := q8 j hj; (simp (disch := omega) only [z_up_ne, z_mup_ne]; simp only [kGround, ku, z_up, true_and]; repeat' split) <;> first | assumption | omega | (exfalso; omega)

set_option maxRecDepth 100000 in
set_option maxHeartbeats 4000000 in
theorem c_X7_addWord {d sz : Nat} {S : zSh} {M : zMem} {a : Nat} {k : Nat → Int} (h : SH S sz a) (hs : SR M a k) (hi : KI k) {x y : Int} (h8 : k 77 < 8) : zX d 0 0 mX7_addWord [zn a, zi x, zi y] sz S M (zI sz S (fun r M' => r = k 77 + 1 ∧ (∀ i, ¬ (a ≤ i ∧ i < a + 11) → M' i = M i) ∧ M' (a + 10) = M (a + 10) ∧ SR M' a (kWord k x y))) := by
  have i1 := hi.1
  have e0 := hs.1.2.2.2.2.2.1
  refine zX_of pl_RX7 [some (zn a), some (zi x), some (zi y)] 0 rfl rfl ?_
  refine x_aload_n 1 rfl dX7_addWord_0 0 rfl rfl ?_
  refine x_getr 4 rfl fX7_33 dX7_addWord_1 (shl0 h) (shs0 h) (by decide) (a + 8) rfl ?_
  refine x_aload_n 5 rfl dX7_addWord_4 0 rfl rfl ?_
  refine x_geti 8 rfl fX7_70 dX7_addWord_5 (shl0 h) (shs0 h) (by decide) ?_
  refine x_iload_n 9 rfl dX7_addWord_8 1 rfl rfl ?_
  refine x_iast 10 rfl dX7_addWord_9 (shl8 h) (shs8 h) (by omega) (by omega) ?_
  refine x_aload_n 11 rfl dX7_addWord_10 0 rfl rfl ?_
  refine x_getr 14 rfl fX7_36 dX7_addWord_11 (shl0 h) (shs0 h) (by decide) (a + 9) rfl ?_
  refine x_aload_n 15 rfl dX7_addWord_14 0 rfl rfl ?_
  refine x_geti 18 rfl fX7_70 dX7_addWord_15 (shl0 h) (shs0 h) (by decide) ?_
  try simp (disch := omega) only [z_up_ne, z_up_nk, z_up_eq, z_mup_ne, z_mup_eq, Int.reduceToNat]
  refine x_iload_n 19 rfl dX7_addWord_18 2 rfl rfl ?_
  refine x_iast 20 rfl dX7_addWord_19 (shl9 h) (shs9 h) (by omega) (by omega) ?_
  refine x_aload_n 21 rfl dX7_addWord_20 0 rfl rfl ?_
  refine x_dupr 22 rfl dX7_addWord_21 ?_
  refine x_geti 25 rfl fX7_70 dX7_addWord_22 (shl0 h) (shs0 h) (by decide) ?_
  try simp (disch := omega) only [z_up_ne, z_up_nk, z_up_eq, z_mup_ne, z_mup_eq, Int.reduceToNat]
  refine x_iconst 26 rfl dX7_addWord_25 (by decide) ?_
  refine y_iadd 27 rfl dX7_addWord_26 (by omega) ?_
  refine x_puti 30 rfl fX7_70 dX7_addWord_27 (shl0 h) (shs0 h) (by decide) ?_
  refine x_aload_n 31 rfl dX7_addWord_30 0 rfl rfl ?_
  refine x_geti 34 rfl fX7_70 dX7_addWord_31 (shl0 h) (shs0 h) (by decide) ?_
  try simp (disch := omega) only [z_up_ne, z_up_nk, z_up_eq, z_mup_ne, z_mup_eq, Int.reduceToNat]
  refine x_reti dX7_addWord_34 rfl ?_
  have em : zmask (kWord k x y) = zmask k := by
    unfold zmask
    have e : ∀ j, j < 8 → kWord k x y (11 + j) = k (11 + j) := by
      intro j hj
      unfold kWord ku
      repeat' split
      all_goals first | rfl | omega | (exfalso; omega)
    have t0 := e 0 (by decide); have t1 := e 1 (by decide); have t2 := e 2 (by decide); have t3 := e 3 (by decide); have t4 := e 4 (by decide); have t5 := e 5 (by decide); have t6 := e 6 (by decide); have t7 := e 7 (by decide)
    simp at t0 t1 t2 t3 t4 t5 t6 t7
    rw [t0, t1, t2, t3, t4, t5, t6, t7]
  refine ⟨by omega, ?_, ?_, ?_⟩
  · intro i hi2; simp (disch := omega) only [z_up_ne]
  · simp (disch := omega) only [z_up_ne]
  · obtain ⟨⟨s1, s2, s3, s4, s5, s6, s7, s8⟩, ⟨s9, s10, s11⟩, q1, q2, q3, q4, q5, q6, q7, q8⟩ := hs
    refine ⟨⟨?_, ?_, ?_, ?_, ?_, ?_, ?_, ?_⟩, ⟨?_, ?_, ?_⟩, ?_, ?_, ?_, ?_, ?_, ?_, ?_, ?_⟩
    · (simp (disch := omega) only [z_up_ne, z_up_nk, z_up_eq, z_mup_ne, z_mup_eq]; simp only [kWord, ku, true_and]; repeat' split) <;> first | assumption | omega | (exfalso; omega)
    · rw [em]; simp (disch := omega) only [z_up_ne, z_up_nk]; exact s2
    · (simp (disch := omega) only [z_up_ne, z_up_nk, z_up_eq, z_mup_ne, z_mup_eq]; simp only [kWord, ku, true_and]; repeat' split) <;> first | assumption | omega | (exfalso; omega)
    · (simp (disch := omega) only [z_up_ne, z_up_nk, z_up_eq, z_mup_ne, z_mup_eq]; simp only [kWord, ku, true_and]; repeat' split) <;> first | assumption | omega | (exfalso; omega)
    · (simp (disch := omega) only [z_up_ne, z_up_nk, z_up_eq, z_mup_ne, z_mup_eq]; simp only [kWord, ku, true_and]; repeat' split) <;> first | assumption | omega | (exfalso; omega)
    · rw [e0]; simp [z_up, kWord, ku]
    · (simp (disch := omega) only [z_up_ne, z_up_nk, z_up_eq, z_mup_ne, z_mup_eq]; simp only [kWord, ku, true_and]; repeat' split) <;> first | assumption | omega | (exfalso; omega)
    · (simp (disch := omega) only [z_up_ne, z_up_nk, z_up_eq, z_mup_ne, z_mup_eq]; simp only [kWord, ku, true_and]; repeat' split) <;> first | assumption | omega | (exfalso; omega)
    · (simp (disch := omega) only [z_up_ne, z_up_nk, z_up_eq, z_mup_ne, z_mup_eq]; simp only [kWord, ku, true_and]; repeat' split) <;> first | assumption | omega | (exfalso; omega)
    · (simp (disch := omega) only [z_up_ne, z_up_nk, z_up_eq, z_mup_ne, z_mup_eq]; simp only [kWord, ku, true_and]; repeat' split) <;> first | assumption | omega | (exfalso; omega)
    · (simp (disch := omega) only [z_up_ne, z_up_nk, z_up_eq, z_mup_ne, z_mup_eq]; simp only [kWord, ku, true_and]; repeat' split) <;> first | assumption | omega | (exfalso; omega)
    · intro j hj; have e := q1 j hj; (simp (disch := omega) only [z_up_ne, z_mup_ne]; simp only [kWord, ku, z_up, true_and]; repeat' split) <;> first | assumption | omega | (exfalso; omega)
    · intro j hj; have e := q2 j hj; (simp (disch := omega) only [z_up_ne, z_mup_ne]; simp only [kWord, ku, z_up, true_and]; repeat' split) <;> first | assumption | omega | (exfalso; omega)
    · intro j hj; have e := q3 j hj; (simp (disch := omega) only [z_up_ne, z_mup_ne]; simp only [kWord, ku, z_up, true_and]; repeat' split) <;> first | assumption | omega | (exfalso; omega)
    · intro j hj; have e := q4 j hj; (simp (disch := omega) only [z_up_ne, z_mup_ne]; simp only [kWord, ku, z_up, true_and]; repeat' split) <;> first | assumption | omega | (exfalso; omega)
    · intro j hj; have e := q5 j hj; (simp (disch := omega) only [z_up_ne, z_mup_ne]; simp only [kWord, ku, z_up, true_and]; repeat' split) <;> first | assumption | omega | (exfalso; omega)
    · intro j hj; have e := q6 j hj; (simp (disch := omega) only [z_up_ne, z_mup_ne]; simp only [kWord, ku, z_up, true_and]; repeat' split) <;> first | assumption | omega | (exfalso; omega)
    · intro j hj; have e := q7 j hj; (simp (disch := omega) only [z_up_ne, z_mup_ne]; simp only [kWord, ku, z_up, true_and]; repeat' split) <;> first | assumption | omega | (exfalso; omega)
    · intro j hj; have e := q8 j hj; (simp (disch := omega) only [z_up_ne, z_mup_ne]; simp only [kWord, ku, z_up, true_and]; repeat' split) <;> first | assumption | omega | (exfalso; omega)
