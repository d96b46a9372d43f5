def zsum (f : Nat → Int) : Nat → Int
  | 0 => 0
  | n + 1 => zsum f n + f n
theorem z_ltdiv {x y : Int} (h0 : 0 ≤ x) (h1 : x ≤ 9223372036854775807) (hy : 0 < y) : w64 (x.tdiv y) = x / y := by
  have h := Int.tdiv_eq_ediv_of_nonneg (b := y) h0
  have h2 := Int.ediv_nonneg h0 (Int.le_of_lt hy)
  have h3 := Int.ediv_le_self y h0
  rw [h]
  exact w64_id ⟨by omega, by omega⟩
def zch (k : Nat → Int) (g t : Nat) : Int := if t = 0 then 10 - k (39 + 3 * g) - k (39 + 3 * g + 1) - k (39 + 3 * g + 2) else k (39 + 3 * g + t - 1)

set_option maxRecDepth 100000 in
set_option maxHeartbeats 4000000 in
theorem c_X7_hasHand {d sz : Nat} {S : zSh} {M : zMem} {a : Nat} {k : Nat → Int} (h : SH S sz a) (hs : SR M a k) (hi : KI k) {x : Int} : zX d 0 0 mX7_hasHand [zn a, zi x] sz S M (zI sz S (fun r M' => r = (if 0 ≤ x ∧ x < k 75 then 1 else 0) ∧ M' = M)) := by
  refine zX_of pl_RX7 [some (zn a), some (zi x)] 0 rfl rfl ?_
  refine x_iload_n 1 rfl dX7_hasHand_0 1 rfl rfl ?_
  refine x_if_lt 4 16 rfl dX7_hasHand_1 (by decide) (fun c1 => ?_) (fun c1 => ?_)
  · refine x_iconst 17 rfl dX7_hasHand_16 (by decide) ?_
    refine x_retz dX7_hasHand_17 rfl (by omega) ?_
    have e := hs.1.1
    refine ⟨?_, rfl⟩
    split <;> omega
  · refine x_iload_n 5 rfl dX7_hasHand_4 1 rfl rfl ?_
    refine x_aload_n 6 rfl dX7_hasHand_5 0 rfl rfl ?_
    refine x_geti 9 rfl fX7_49 dX7_hasHand_6 (shl0 h) (shs0 h) (by decide) ?_
    refine x_icmp_ge 12 16 rfl dX7_hasHand_9 (by decide) (fun c9 => ?_) (fun c9 => ?_)
    · refine x_iconst 17 rfl dX7_hasHand_16 (by decide) ?_
      refine x_retz dX7_hasHand_17 rfl (by omega) ?_
      have e := hs.1.1
      refine ⟨?_, rfl⟩
      split <;> omega
    · refine x_iconst 13 rfl dX7_hasHand_12 (by decide) ?_
      refine x_goto 17 dX7_hasHand_13 (by decide) ?_
      refine x_retz dX7_hasHand_17 rfl (by omega) ?_
      have e := hs.1.1
      refine ⟨?_, rfl⟩
      split <;> omega

set_option maxRecDepth 100000 in
set_option maxHeartbeats 4000000 in
theorem c_X7_hasGround {d sz : Nat} {S : zSh} {M : zMem} {a : Nat} {k : Nat → Int} (h : SH S sz a) (hs : SR M a k) (hi : KI k) {x : Int} : zX d 0 0 mX7_hasGround [zn a, zi x] sz S M (zI sz S (fun r M' => r = (if 0 ≤ x ∧ x < k 76 then 1 else 0) ∧ M' = M)) := by
  refine zX_of pl_RX7 [some (zn a), some (zi x)] 0 rfl rfl ?_
  refine x_iload_n 1 rfl dX7_hasGround_0 1 rfl rfl ?_
  refine x_if_lt 4 16 rfl dX7_hasGround_1 (by decide) (fun c1 => ?_) (fun c1 => ?_)
  · refine x_iconst 17 rfl dX7_hasGround_16 (by decide) ?_
    refine x_retz dX7_hasGround_17 rfl (by omega) ?_
    have e := hs.1.2.2.1
    refine ⟨?_, rfl⟩
    split <;> omega
  · refine x_iload_n 5 rfl dX7_hasGround_4 1 rfl rfl ?_
    refine x_aload_n 6 rfl dX7_hasGround_5 0 rfl rfl ?_
    refine x_geti 9 rfl fX7_61 dX7_hasGround_6 (shl0 h) (shs0 h) (by decide) ?_
    refine x_icmp_ge 12 16 rfl dX7_hasGround_9 (by decide) (fun c9 => ?_) (fun c9 => ?_)
    · refine x_iconst 17 rfl dX7_hasGround_16 (by decide) ?_
      refine x_retz dX7_hasGround_17 rfl (by omega) ?_
      have e := hs.1.2.2.1
      refine ⟨?_, rfl⟩
      split <;> omega
    · refine x_iconst 13 rfl dX7_hasGround_12 (by decide) ?_
      refine x_goto 17 dX7_hasGround_13 (by decide) ?_
      refine x_retz dX7_hasGround_17 rfl (by omega) ?_
      have e := hs.1.2.2.1
      refine ⟨?_, rfl⟩
      split <;> omega

set_option maxRecDepth 100000 in
set_option maxHeartbeats 4000000 in
theorem c_X7_isAboard {d sz : Nat} {S : zSh} {M : zMem} {a : Nat} {k : Nat → Int} (h : SH S sz a) (hs : SR M a k) (hi : KI k) {x : Int} (hx : 0 ≤ x ∧ x < 8) : zX d 0 0 mX7_isAboard [zn a, zi x] sz S M (zI sz S (fun r M' => r = k (11 + x.toNat) ∧ M' = M)) := by
  refine zX_of pl_RX7 [some (zn a), some (zi x)] 0 rfl rfl ?_
  refine x_aload_n 1 rfl dX7_isAboard_0 0 rfl rfl ?_
  refine x_geti 4 rfl fX7_58 dX7_isAboard_1 (shl0 h) (shs0 h) (by decide) ?_
  refine x_iload_n 5 rfl dX7_isAboard_4 1 rfl rfl ?_
  refine x_ishr 6 rfl dX7_isAboard_5 ?_
  refine x_iconst 7 rfl dX7_isAboard_6 (by decide) ?_
  refine x_iand 8 rfl dX7_isAboard_7 ?_
  refine x_iconst 9 rfl dX7_isAboard_8 (by decide) ?_
  refine x_icmp_ne 12 16 rfl dX7_isAboard_9 (by decide) (fun c9 => ?_) (fun c9 => ?_)
  · refine x_iconst 17 rfl dX7_isAboard_16 (by decide) ?_
    refine x_retz dX7_isAboard_17 rfl (by omega) ?_
    have e := zbit_mask hi hx
    rw [← hs.1.2.1] at e
    unfold zbit at e
    refine ⟨?_, rfl⟩
    split at e <;> omega
  · refine x_iconst 13 rfl dX7_isAboard_12 (by decide) ?_
    refine x_goto 17 dX7_isAboard_13 (by decide) ?_
    refine x_retz dX7_isAboard_17 rfl (by omega) ?_
    have e := zbit_mask hi hx
    rw [← hs.1.2.1] at e
    unfold zbit at e
    refine ⟨?_, rfl⟩
    split at e <;> omega

set_option maxRecDepth 100000 in
set_option maxHeartbeats 4000000 in
theorem c_X7_crewSize {d sz : Nat} {S : zSh} {M : zMem} {a : Nat} {k : Nat → Int} (h : SH S sz a) (hs : SR M a k) (hi : KI k)  : zX (d + 1) 0 0 mX7_crewSize [zn a] sz S M (zI sz S (fun r M' => r = zcrew k ∧ M' = M)) := by
  have e : 0 ≤ M a 4 ∧ M a 4 < 256 := by rw [hs.1.2.1]; exact zmask_in hi
  refine zX_of pl_RX7 [some (zn a)] 0 rfl rfl ?_
  refine x_aload_n 1 rfl dX7_crewSize_0 0 rfl rfl ?_
  refine x_geti 4 rfl fX7_58 dX7_crewSize_1 (shl0 h) (shs0 h) (by decide) ?_
  refine x_cSi 7 rfl lX7_76 dX7_crewSize_4 (c_bitCount e) rfl rfl (Nat.le_of_ble_eq_true rfl) (fun r M1 hr => ?_)
  obtain ⟨rfl, rfl⟩ := hr
  refine x_reti dX7_crewSize_7 rfl ?_
  exact ⟨by rw [hs.1.2.1]; exact zpop_mask hi, rfl⟩

set_option maxRecDepth 100000 in
set_option maxHeartbeats 4000000 in
theorem c_X7_chanceOf {d sz : Nat} {S : zSh} {M : zMem} {a : Nat} {k : Nat → Int} (h : SH S sz a) (hs : SR M a k) (hi : KI k) {g t : Int} (hg : 0 ≤ g ∧ g < 4) (ht : 0 ≤ t ∧ t ≤ 3) : zX d 0 0 mX7_chanceOf [zn a, zi g, zi t] sz S M (zI sz S (fun r M' => r = zch k g.toNat t.toNat ∧ M' = M)) := by
  have q := hs.2.2.2.2.2.2.1
  have q0 := q (g * 3).toNat (by omega)
  have q1 := q (g * 3 + 1).toNat (by omega)
  have q2 := q (g * 3 + 2).toNat (by omega)
  have c0 := hi.ch (g * 3).toNat (by omega)
  have c1 := hi.ch (g * 3 + 1).toNat (by omega)
  have c2 := hi.ch (g * 3 + 2).toNat (by omega)
  rw [← q0] at c0
  rw [← q1] at c1
  rw [← q2] at c2
  refine zX_of pl_RX7 [some (zn a), some (zi g), some (zi t), none] 1 rfl rfl ?_
  refine x_iload_n 1 rfl dX7_chanceOf_0 1 rfl rfl ?_
  refine x_iconst 2 rfl dX7_chanceOf_1 (by decide) ?_
  refine y_imul 3 rfl dX7_chanceOf_2 (by omega) ?_
  refine x_istore_n 4 rfl dX7_chanceOf_3 rfl (ls' := [_, _, _, _]) rfl (by decide) ?_
  refine x_iload_n 5 rfl dX7_chanceOf_4 2 rfl rfl ?_
  refine x_if_ne 8 36 rfl dX7_chanceOf_5 (by decide) (fun c5 => ?_) (fun c5 => ?_)
  · refine x_aload_n 37 rfl dX7_chanceOf_36 0 rfl rfl ?_
    refine x_getr 40 rfl fX7_24 dX7_chanceOf_37 (shl0 h) (shs0 h) (by decide) (a + 5) rfl ?_
    refine x_iload_n 41 rfl dX7_chanceOf_40 3 rfl rfl ?_
    refine x_iload_n 42 rfl dX7_chanceOf_41 2 rfl rfl ?_
    refine y_iadd 43 rfl dX7_chanceOf_42 (by omega) ?_
    refine x_iconst 44 rfl dX7_chanceOf_43 (by decide) ?_
    refine y_isub 45 rfl dX7_chanceOf_44 (by omega) ?_
    refine x_iald 46 rfl dX7_chanceOf_45 (shl5 h) (shs5 h) (by omega) (by omega) ?_
    refine x_reti dX7_chanceOf_46 rfl ?_
    refine ⟨?_, rfl⟩
    unfold zch
    first | (rw [if_pos (by omega), q0, q1, q2]; simp only [show 39 + (g * 3).toNat = 39 + 3 * g.toNat by omega, show 39 + (g * 3 + 1).toNat = 39 + 3 * g.toNat + 1 by omega, show 39 + (g * 3 + 2).toNat = 39 + 3 * g.toNat + 2 by omega]; done) | (rw [if_neg (by omega), q (g * 3 + t - 1).toNat (by omega)]; congr 1; omega)
  · refine x_bipush 10 rfl dX7_chanceOf_8 (by decide) ?_
    refine x_aload_n 11 rfl dX7_chanceOf_10 0 rfl rfl ?_
    refine x_getr 14 rfl fX7_24 dX7_chanceOf_11 (shl0 h) (shs0 h) (by decide) (a + 5) rfl ?_
    refine x_iload_n 15 rfl dX7_chanceOf_14 3 rfl rfl ?_
    refine x_iald 16 rfl dX7_chanceOf_15 (shl5 h) (shs5 h) (by omega) (by omega) ?_
    refine y_isub 17 rfl dX7_chanceOf_16 (by omega) ?_
    refine x_aload_n 18 rfl dX7_chanceOf_17 0 rfl rfl ?_
    refine x_getr 21 rfl fX7_24 dX7_chanceOf_18 (shl0 h) (shs0 h) (by decide) (a + 5) rfl ?_
    refine x_iload_n 22 rfl dX7_chanceOf_21 3 rfl rfl ?_
    refine x_iconst 23 rfl dX7_chanceOf_22 (by decide) ?_
    refine y_iadd 24 rfl dX7_chanceOf_23 (by omega) ?_
    refine x_iald 25 rfl dX7_chanceOf_24 (shl5 h) (shs5 h) (by omega) (by omega) ?_
    refine y_isub 26 rfl dX7_chanceOf_25 (by omega) ?_
    refine x_aload_n 27 rfl dX7_chanceOf_26 0 rfl rfl ?_
    refine x_getr 30 rfl fX7_24 dX7_chanceOf_27 (shl0 h) (shs0 h) (by decide) (a + 5) rfl ?_
    refine x_iload_n 31 rfl dX7_chanceOf_30 3 rfl rfl ?_
    refine x_iconst 32 rfl dX7_chanceOf_31 (by decide) ?_
    refine y_iadd 33 rfl dX7_chanceOf_32 (by omega) ?_
    refine x_iald 34 rfl dX7_chanceOf_33 (shl5 h) (shs5 h) (by omega) (by omega) ?_
    refine y_isub 35 rfl dX7_chanceOf_34 (by omega) ?_
    refine x_reti dX7_chanceOf_35 rfl ?_
    refine ⟨?_, rfl⟩
    unfold zch
    first | (rw [if_pos (by omega), q0, q1, q2]; simp only [show 39 + (g * 3).toNat = 39 + 3 * g.toNat by omega, show 39 + (g * 3 + 1).toNat = 39 + 3 * g.toNat + 1 by omega, show 39 + (g * 3 + 2).toNat = 39 + 3 * g.toNat + 2 by omega]; done) | (rw [if_neg (by omega), q (g * 3 + t - 1).toNat (by omega)]; congr 1; omega)

set_option maxRecDepth 100000 in
set_option maxHeartbeats 4000000 in
theorem c_X7_priceIn {d sz : Nat} {S : zSh} {M : zMem} {a : Nat} {k : Nat → Int} (h : SH S sz a) (hs : SR M a k) (hi : KI k) {x : Int} (hx : 0 ≤ x ∧ x < 72) : zX d 0 0 mX7_priceIn [zn a, zi x] sz S M (zI sz S (fun r M' => r = zprice k x ∧ M' = M)) := by
  refine zX_of pl_RX7 [some (zn a), some (zi x), none] 1 rfl rfl ?_
  refine x_iload_n 1 rfl dX7_priceIn_0 1 rfl rfl ?_
  refine x_bipush 3 rfl dX7_priceIn_1 (by decide) ?_
  refine x_idiv 4 rfl dX7_priceIn_3 (by omega) ?_
  rw [z_tdiv hx.1 (by omega) (by decide)]
  refine x_istore_n 5 rfl dX7_priceIn_4 rfl (ls' := [_, _, _]) rfl (by decide) ?_
  refine x_iload_n 6 rfl dX7_priceIn_5 2 rfl rfl ?_
  refine x_if_lt 9 24 rfl dX7_priceIn_6 (by decide) (fun c6 => ?_) (fun c6 => ?_)
  · refine x_iconst 25 rfl dX7_priceIn_24 (by decide) ?_
    refine x_reti dX7_priceIn_25 rfl ?_
    refine ⟨?_, rfl⟩
    first | (exfalso; omega) | exact hs.2.2.2.2.2.2.2.1 (x / 12).toNat (by omega)
  · refine x_iload_n 10 rfl dX7_priceIn_9 2 rfl rfl ?_
    refine x_bipush 12 rfl dX7_priceIn_10 (by decide) ?_
    refine x_icmp_ge 15 24 rfl dX7_priceIn_12 (by decide) (fun c12 => ?_) (fun c12 => ?_)
    · refine x_iconst 25 rfl dX7_priceIn_24 (by decide) ?_
      refine x_reti dX7_priceIn_25 rfl ?_
      refine ⟨?_, rfl⟩
      first | (exfalso; omega) | exact hs.2.2.2.2.2.2.2.1 (x / 12).toNat (by omega)
    · refine x_aload_n 16 rfl dX7_priceIn_15 0 rfl rfl ?_
      refine x_getr 19 rfl fX7_27 dX7_priceIn_16 (shl0 h) (shs0 h) (by decide) (a + 6) rfl ?_
      refine x_iload_n 20 rfl dX7_priceIn_19 2 rfl rfl ?_
      refine x_iald 21 rfl dX7_priceIn_20 (shl6 h) (shs6 h) (by omega) (by omega) ?_
      refine x_goto 25 dX7_priceIn_21 (by decide) ?_
      refine x_reti dX7_priceIn_25 rfl ?_
      refine ⟨?_, rfl⟩
      first | (exfalso; omega) | exact hs.2.2.2.2.2.2.2.1 (x / 12).toNat (by omega)

set_option maxRecDepth 100000 in
set_option maxHeartbeats 4000000 in
theorem c_X7_moneyNow {d sz : Nat} {S : zSh} {M : zMem} {a : Nat} {k : Nat → Int} (h : SH S sz a) (hs : SR M a k) (hi : KI k)  : zX (d + 1) 0 0 mX7_moneyNow [zn a] sz S M (zI sz S (fun r M' => r = zmoney k (k 0) ∧ M' = M)) := by
  have i1 := hi.1
  have i2 := zmoney_in hi (oil := k 0) (by omega)
  have e8 := hs.1.2.2.2.1
  have e9 := hs.1.2.2.2.2.1
  have e7 := hs.2.1.1
  refine zX_of pl_RX7 [some (zn a)] 0 rfl rfl ?_
  refine x_aload_n 1 rfl dX7_moneyNow_0 0 rfl rfl ?_
  refine x_geti 4 rfl fX7_67 dX7_moneyNow_1 (shl0 h) (shs0 h) (by decide) ?_
  refine x_aload_n 5 rfl dX7_moneyNow_4 0 rfl rfl ?_
  refine x_geti 8 rfl fX7_64 dX7_moneyNow_5 (shl0 h) (shs0 h) (by decide) ?_
  refine x_aload_n 9 rfl dX7_moneyNow_8 0 rfl rfl ?_
  refine x_aload_n 10 rfl dX7_moneyNow_9 0 rfl rfl ?_
  refine x_getr 13 rfl fX7_30 dX7_moneyNow_10 (shl0 h) (shs0 h) (by decide) (a + 7) rfl ?_
  refine x_iconst 14 rfl dX7_moneyNow_13 (by decide) ?_
  refine x_iald 15 rfl dX7_moneyNow_14 (shl7 h) (shs7 h) (by omega) (by omega) ?_
  refine x_cVi 18 rfl lX7_82 dX7_moneyNow_15 (shl0 h) (shs0 h) (c_X7_priceIn h hs hi (x := M (a + 7) 0) (by omega)) rfl rfl (Nat.le_of_ble_eq_true rfl) (fun r M1 hr => ?_)
  obtain ⟨rfl, rfl⟩ := hr
  rw [e7, e8]
  refine y_imul 19 rfl dX7_moneyNow_18 (by omega) ?_
  refine y_iadd 20 rfl dX7_moneyNow_19 (by omega) ?_
  refine x_reti dX7_moneyNow_20 rfl ?_
  exact ⟨by rw [e9]; rfl, rfl⟩

set_option maxRecDepth 100000 in
set_option maxHeartbeats 4000000 in
theorem c_X7_wholeBy {d sz : Nat} {S : zSh} {M : zMem} {a : Nat} {k : Nat → Int} (h : SH S sz a) (hs : SR M a k) (hi : KI k) {x m : Int} (hx : 0 ≤ x ∧ x < 8) (hl : 1 ≤ k (23 + x.toNat)) (hm : 0 ≤ m) : zX d 0 0 mX7_wholeBy [zn a, zi x, zi m] sz S M (zI sz S (fun r M' => r = m / k (23 + x.toNat) ∧ M' = M)) := by
  have e := hs.2.2.1 x.toNat (by omega)
  refine zX_of pl_RX7 [some (zn a), some (zi x), some (zi m)] 0 rfl rfl ?_
  intro E D dA p l e1 R s m1 args below meth c QQ hE H locs cells slots lr hR hS0 hc hs0 ho hL
  have hmr : z_i32 m := z_L_ok hL (i := 2) rfl
  revert hL ho hs0 hc hS0 hR lr slots cells locs H hE QQ c meth below args m1 s R e1 l p dA D E
  show zW mX7_wholeBy d 0 0 [] _ 0 _ [] sz S M
  refine x_aload_n 1 rfl dX7_wholeBy_0 0 rfl rfl ?_
  refine x_getr 4 rfl fX7_9 dX7_wholeBy_1 (shl0 h) (shs0 h) (by decide) (a + 1) rfl ?_
  refine x_iload_n 5 rfl dX7_wholeBy_4 1 rfl rfl ?_
  refine x_iald 6 rfl dX7_wholeBy_5 (shl1 h) (shs1 h) (by omega) (by omega) ?_
  refine x_iconst 7 rfl dX7_wholeBy_6 (by decide) ?_
  refine x_icmp_ge 10 14 rfl dX7_wholeBy_7 (by decide) (fun c7 => ?_) (fun c7 => ?_)
  · refine x_iload_n 15 rfl dX7_wholeBy_14 2 rfl rfl ?_
    refine x_aload_n 16 rfl dX7_wholeBy_15 0 rfl rfl ?_
    refine x_getr 19 rfl fX7_9 dX7_wholeBy_16 (shl0 h) (shs0 h) (by decide) (a + 1) rfl ?_
    refine x_iload_n 20 rfl dX7_wholeBy_19 1 rfl rfl ?_
    refine x_iald 21 rfl dX7_wholeBy_20 (shl1 h) (shs1 h) (by omega) (by omega) ?_
    refine x_idiv 22 rfl dX7_wholeBy_21 (by omega) ?_
    refine x_reti dX7_wholeBy_22 rfl ?_
    refine ⟨?_, rfl⟩
    first | (exfalso; omega) | (rw [z_tdiv hm hmr.2 (by omega), e])
  · refine x_iconst 11 rfl dX7_wholeBy_10 (by decide) ?_
    refine x_goto 22 dX7_wholeBy_11 (by decide) ?_
    refine x_reti dX7_wholeBy_22 rfl ?_
    refine ⟨?_, rfl⟩
    first | (exfalso; omega) | (rw [z_tdiv hm hmr.2 (by omega), e])

set_option maxRecDepth 100000 in
set_option maxHeartbeats 4000000 in
theorem c_X7_wholeOf {d sz : Nat} {S : zSh} {M : zMem} {a : Nat} {k : Nat → Int} (h : SH S sz a) (hs : SR M a k) (hi : KI k) {x : Int} (hx : 0 ≤ x ∧ x < k 75) : zX (d + 2) 0 0 mX7_wholeOf [zn a, zi x] sz S M (zI sz S (fun r M' => r = zwholeN k x.toNat ∧ M' = M)) := by
  have i1 := hi.1
  have i2 := zmoney_in hi (oil := k 0) (by omega)
  have i3 := hi.2.1 x.toNat (by omega)
  refine zX_of pl_RX7 [some (zn a), some (zi x)] 0 rfl rfl ?_
  refine x_aload_n 1 rfl dX7_wholeOf_0 0 rfl rfl ?_
  refine x_iload_n 2 rfl dX7_wholeOf_1 1 rfl rfl ?_
  refine x_cVi 5 rfl lX7_85 dX7_wholeOf_2 (shl0 h) (shs0 h) (c_X7_isAboard h hs hi (x := x) (by omega)) rfl rfl (Nat.le_of_ble_eq_true rfl) (fun r M1 hr => ?_)
  obtain ⟨rfl, rfl⟩ := hr
  refine x_if_eq 8 20 rfl dX7_wholeOf_5 (by decide) (fun c5 => ?_) (fun c5 => ?_)
  · refine x_iconst 21 rfl dX7_wholeOf_20 (by decide) ?_
    refine x_reti dX7_wholeOf_21 rfl ?_
    refine ⟨?_, rfl⟩
    unfold zwholeN
    first | (rw [if_pos (by omega)]; rfl) | (rw [if_neg (by omega)])
  · refine x_aload_n 9 rfl dX7_wholeOf_8 0 rfl rfl ?_
    refine x_iload_n 10 rfl dX7_wholeOf_9 1 rfl rfl ?_
    refine x_aload_n 11 rfl dX7_wholeOf_10 0 rfl rfl ?_
    refine x_cVi 14 rfl lX7_89 dX7_wholeOf_11 (shl0 h) (shs0 h) (c_X7_moneyNow h hs hi) rfl rfl (Nat.le_of_ble_eq_true rfl) (fun r M1 hr => ?_)
    obtain ⟨rfl, rfl⟩ := hr
    refine x_cVi 17 rfl lX7_93 dX7_wholeOf_14 (shl0 h) (shs0 h) (c_X7_wholeBy h hs hi (x := x) (by omega) (by omega) (by omega)) rfl rfl (Nat.le_of_ble_eq_true rfl) (fun r M1 hr => ?_)
    obtain ⟨rfl, rfl⟩ := hr
    refine x_goto 21 dX7_wholeOf_17 (by decide) ?_
    refine x_reti dX7_wholeOf_21 rfl ?_
    refine ⟨?_, rfl⟩
    unfold zwholeN
    first | (rw [if_pos (by omega)]; rfl) | (rw [if_neg (by omega)])

set_option maxRecDepth 100000 in
set_option maxHeartbeats 4000000 in
theorem c_X7_partsOf {d sz : Nat} {S : zSh} {M : zMem} {a : Nat} {k : Nat → Int} (h : SH S sz a) (hs : SR M a k) (hi : KI k) {x : Int} (hx : 0 ≤ x ∧ x < k 75) : zX d 0 0 mX7_partsOf [zn a, zi x] sz S M (zJ sz S (fun r M' => r = 1000000000000 / k (23 + x.toNat) ∧ M' = M)) := by
  have i1 := hi.1
  have i3 := hi.2.1 x.toNat (by omega)
  have e := hs.2.2.1 x.toNat (by omega)
  refine zX_of pl_RX7 [some (zn a), some (zi x)] 0 rfl rfl ?_
  refine x_aload_n 1 rfl dX7_partsOf_0 0 rfl rfl ?_
  refine x_getr 4 rfl fX7_9 dX7_partsOf_1 (shl0 h) (shs0 h) (by decide) (a + 1) rfl ?_
  refine x_iload_n 5 rfl dX7_partsOf_4 1 rfl rfl ?_
  refine x_iald 6 rfl dX7_partsOf_5 (shl1 h) (shs1 h) (by omega) (by omega) ?_
  refine x_iconst 7 rfl dX7_partsOf_6 (by decide) ?_
  refine x_icmp_ge 10 14 rfl dX7_partsOf_7 (by decide) (fun c7 => ?_) (fun c7 => ?_)
  · refine x_ldc2 (x := 1000000000000) 17 rfl klX7_100 (by decide) dX7_partsOf_14 ?_
    refine x_aload_n 18 rfl dX7_partsOf_17 0 rfl rfl ?_
    refine x_getr 21 rfl fX7_9 dX7_partsOf_18 (shl0 h) (shs0 h) (by decide) (a + 1) rfl ?_
    refine x_iload_n 22 rfl dX7_partsOf_21 1 rfl rfl ?_
    refine x_iald 23 rfl dX7_partsOf_22 (shl1 h) (shs1 h) (by omega) (by omega) ?_
    refine x_i2l 24 rfl dX7_partsOf_23 ?_
    refine x_ldiv 25 rfl dX7_partsOf_24 (by omega) ?_
    refine x_retj dX7_partsOf_25 rfl ?_
    refine ⟨?_, rfl⟩
    first | (exfalso; omega) | (rw [z_ltdiv (by decide) (by decide) (by omega), e])
  · refine x_lconst (x := 0) 11 rfl dX7_partsOf_10 rfl ?_
    refine x_goto 25 dX7_partsOf_11 (by decide) ?_
    refine x_retj dX7_partsOf_25 rfl ?_
    refine ⟨?_, rfl⟩
    first | (exfalso; omega) | (rw [z_ltdiv (by decide) (by decide) (by omega), e])
