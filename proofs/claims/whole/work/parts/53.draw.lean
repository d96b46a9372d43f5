/-! how many whales a draw takes; the acts of the reference -/
def zwb (k : Nat → Int) (g : Nat) (d : Int) : Int := min (k (19 + g)) (if d < k (39 + 3 * g + 2) then 3 else if d < k (39 + 3 * g + 2) + k (39 + 3 * g + 1) then 2 else if d < k (39 + 3 * g + 2) + k (39 + 3 * g + 1) + k (39 + 3 * g) then 1 else 0)

set_option maxRecDepth 100000 in
set_option maxHeartbeats 4000000 in
theorem c_X11_whalesBy {d sz : Nat} {S : zSh} {M : zMem} (hL : LY S sz) (hi : KI (M 57)) {x y : Int} (hx : 0 ≤ x ∧ x < 4) : zX (d + 1) 0 0 mX11_whalesBy [zn 55, zi x, zi y] sz S M (zI sz S (fun r M' => r = zwb (M 57) x.toNat y ∧ M' = M)) := by
  have i2 := hi.2.2.1 x.toNat (by omega)
  have e2 : ((39 : Int) + 3 * x + 2).toNat = 39 + 3 * x.toNat + 2 := by omega
  have e1 : ((39 : Int) + 3 * x + 1).toNat = 39 + 3 * x.toNat + 1 := by omega
  have e0 : ((39 : Int) + 3 * x).toNat = 39 + 3 * x.toNat := by omega
  have e19 : ((19 : Int) + x).toNat = 19 + x.toNat := by omega
  refine zX_of pl_RX11 [some (zn 55), some (zi x), some (zi y), none, none, none] 3 rfl rfl ?_
  refine x_aload_n 1 rfl dX11_whalesBy_0 0 rfl rfl ?_
  refine x_getr 4 rfl fX11_24 dX11_whalesBy_1 (lyl55 hL) (lys55 hL) (by decide) (57) rfl ?_
  refine x_bipush 6 rfl dX11_whalesBy_4 (by decide) ?_
  refine x_iconst 7 rfl dX11_whalesBy_6 (by decide) ?_
  refine x_iload_n 8 rfl dX11_whalesBy_7 1 rfl rfl ?_
  refine y_imul 9 rfl dX11_whalesBy_8 (by omega) ?_
  refine y_iadd 10 rfl dX11_whalesBy_9 (by omega) ?_
  refine x_iconst 11 rfl dX11_whalesBy_10 (by decide) ?_
  refine y_iadd 12 rfl dX11_whalesBy_11 (by omega) ?_
  refine x_iald 13 rfl dX11_whalesBy_12 (lyl57 hL) (lys57 hL) (by omega) (by omega) ?_
  rw [e2]
  refine y_istore_n 14 rfl dX11_whalesBy_13 rfl rfl (ls' := [_, _, _, _, _, _]) rfl (by decide) ?_
  refine x_iload_n 15 rfl dX11_whalesBy_14 3 rfl rfl ?_
  refine x_aload_n 16 rfl dX11_whalesBy_15 0 rfl rfl ?_
  refine x_getr 19 rfl fX11_24 dX11_whalesBy_16 (lyl55 hL) (lys55 hL) (by decide) (57) rfl ?_
  refine x_bipush 21 rfl dX11_whalesBy_19 (by decide) ?_
  refine x_iconst 22 rfl dX11_whalesBy_21 (by decide) ?_
  refine x_iload_n 23 rfl dX11_whalesBy_22 1 rfl rfl ?_
  refine y_imul 24 rfl dX11_whalesBy_23 (by omega) ?_
  refine y_iadd 25 rfl dX11_whalesBy_24 (by omega) ?_
  refine x_iconst 26 rfl dX11_whalesBy_25 (by decide) ?_
  refine y_iadd 27 rfl dX11_whalesBy_26 (by omega) ?_
  refine x_iald 28 rfl dX11_whalesBy_27 (lyl57 hL) (lys57 hL) (by omega) (by omega) ?_
  rw [e1]
  refine y_iadd 29 rfl dX11_whalesBy_28 (by omega) ?_
  refine y_istore 31 rfl dX11_whalesBy_29 rfl (ls' := [_, _, _, _, _, _]) rfl (by decide) ?_
  refine x_iload 33 rfl dX11_whalesBy_31 rfl ?_
  refine x_aload_n 34 rfl dX11_whalesBy_33 0 rfl rfl ?_
  refine x_getr 37 rfl fX11_24 dX11_whalesBy_34 (lyl55 hL) (lys55 hL) (by decide) (57) rfl ?_
  refine x_bipush 39 rfl dX11_whalesBy_37 (by decide) ?_
  refine x_iconst 40 rfl dX11_whalesBy_39 (by decide) ?_
  refine x_iload_n 41 rfl dX11_whalesBy_40 1 rfl rfl ?_
  refine y_imul 42 rfl dX11_whalesBy_41 (by omega) ?_
  refine y_iadd 43 rfl dX11_whalesBy_42 (by omega) ?_
  refine x_iald 44 rfl dX11_whalesBy_43 (lyl57 hL) (lys57 hL) (by omega) (by omega) ?_
  rw [e0]
  refine y_iadd 45 rfl dX11_whalesBy_44 (by omega) ?_
  refine y_istore 47 rfl dX11_whalesBy_45 rfl (ls' := [_, _, _, _, _, _]) rfl (by decide) ?_
  refine x_aload_n 48 rfl dX11_whalesBy_47 0 rfl rfl ?_
  refine x_getr 51 rfl fX11_24 dX11_whalesBy_48 (lyl55 hL) (lys55 hL) (by decide) (57) rfl ?_
  refine x_bipush 53 rfl dX11_whalesBy_51 (by decide) ?_
  refine x_iload_n 54 rfl dX11_whalesBy_53 1 rfl rfl ?_
  refine y_iadd 55 rfl dX11_whalesBy_54 (by omega) ?_
  refine x_iald 56 rfl dX11_whalesBy_55 (lyl57 hL) (lys57 hL) (by omega) (by omega) ?_
  rw [e19]
  refine x_iload_n 57 rfl dX11_whalesBy_56 2 rfl rfl ?_
  refine x_iload_n 58 rfl dX11_whalesBy_57 3 rfl rfl ?_
  refine x_icmp_ge 61 65 rfl dX11_whalesBy_58 (by decide) (fun c58 => ?_) (fun c58 => ?_)
  · refine x_iload_n 66 rfl dX11_whalesBy_65 2 rfl rfl ?_
    refine x_iload 68 rfl dX11_whalesBy_66 rfl ?_
    refine x_icmp_ge 71 75 rfl dX11_whalesBy_68 (by decide) (fun c68 => ?_) (fun c68 => ?_)
    · refine x_iload_n 76 rfl dX11_whalesBy_75 2 rfl rfl ?_
      refine x_iload 78 rfl dX11_whalesBy_76 rfl ?_
      refine x_icmp_ge 81 85 rfl dX11_whalesBy_78 (by decide) (fun c78 => ?_) (fun c78 => ?_)
      · refine x_iconst 86 rfl dX11_whalesBy_85 (by decide) ?_
        refine x_cSi 89 rfl lX11_325 dX11_whalesBy_86 c_X11_lesser rfl rfl (Nat.le_of_ble_eq_true rfl) (fun r M1 hr1 => ?_)
        obtain ⟨rfl, hM1⟩ := hr1
        rw [hM1]
        refine x_reti dX11_whalesBy_89 rfl ?_
        refine ⟨?_, rfl⟩
        unfold zwb
        first
          | (rw [if_pos (by omega)]; done)
          | (rw [if_neg (by omega), if_pos (by omega)]; done)
          | (rw [if_neg (by omega), if_neg (by omega), if_pos (by omega)]; done)
          | (rw [if_neg (by omega), if_neg (by omega), if_neg (by omega)]; done)
      · refine x_iconst 82 rfl dX11_whalesBy_81 (by decide) ?_
        refine x_goto 86 dX11_whalesBy_82 (by decide) ?_
        refine x_cSi 89 rfl lX11_325 dX11_whalesBy_86 c_X11_lesser rfl rfl (Nat.le_of_ble_eq_true rfl) (fun r M1 hr1 => ?_)
        obtain ⟨rfl, hM1⟩ := hr1
        rw [hM1]
        refine x_reti dX11_whalesBy_89 rfl ?_
        refine ⟨?_, rfl⟩
        unfold zwb
        first
          | (rw [if_pos (by omega)]; done)
          | (rw [if_neg (by omega), if_pos (by omega)]; done)
          | (rw [if_neg (by omega), if_neg (by omega), if_pos (by omega)]; done)
          | (rw [if_neg (by omega), if_neg (by omega), if_neg (by omega)]; done)
    · refine x_iconst 72 rfl dX11_whalesBy_71 (by decide) ?_
      refine x_goto 86 dX11_whalesBy_72 (by decide) ?_
      refine x_cSi 89 rfl lX11_325 dX11_whalesBy_86 c_X11_lesser rfl rfl (Nat.le_of_ble_eq_true rfl) (fun r M1 hr1 => ?_)
      obtain ⟨rfl, hM1⟩ := hr1
      rw [hM1]
      refine x_reti dX11_whalesBy_89 rfl ?_
      refine ⟨?_, rfl⟩
      unfold zwb
      first
        | (rw [if_pos (by omega)]; done)
        | (rw [if_neg (by omega), if_pos (by omega)]; done)
        | (rw [if_neg (by omega), if_neg (by omega), if_pos (by omega)]; done)
        | (rw [if_neg (by omega), if_neg (by omega), if_neg (by omega)]; done)
  · refine x_iconst 62 rfl dX11_whalesBy_61 (by decide) ?_
    refine x_goto 86 dX11_whalesBy_62 (by decide) ?_
    refine x_cSi 89 rfl lX11_325 dX11_whalesBy_86 c_X11_lesser rfl rfl (Nat.le_of_ble_eq_true rfl) (fun r M1 hr1 => ?_)
    obtain ⟨rfl, hM1⟩ := hr1
    rw [hM1]
    refine x_reti dX11_whalesBy_89 rfl ?_
    refine ⟨?_, rfl⟩
    unfold zwb
    first
      | (rw [if_pos (by omega)]; done)
      | (rw [if_neg (by omega), if_pos (by omega)]; done)
      | (rw [if_neg (by omega), if_neg (by omega), if_pos (by omega)]; done)
      | (rw [if_neg (by omega), if_neg (by omega), if_neg (by omega)]; done)

set_option maxRecDepth 100000 in
set_option maxHeartbeats 4000000 in
theorem c_X4_takenBy {d sz : Nat} {S : zSh} {M : zMem} {a : Nat} (h : SH S sz a) {k : Nat → Int} (hs : SR M a k) (hi : KI k) {x y : Int} (hx : 0 ≤ x ∧ x < 4)  : zX (d + 1) 0 0 mX4_takenBy [zn a, zi x, zi y] sz S M (zI sz S (fun r M' => r = zwb k x.toNat y ∧ M' = M)) := by
  have i2 := hi.2.2.1 x.toNat (by omega)
  have q4 := hs.2.2.2.2.2.1 x.toNat (by omega)
  have z3 : zch k x.toNat (3 : Int).toNat = k (39 + 3 * x.toNat + 2) := rfl
  have z2 : zch k x.toNat (2 : Int).toNat = k (39 + 3 * x.toNat + 1) := rfl
  have z1 : zch k x.toNat (1 : Int).toNat = k (39 + 3 * x.toNat) := rfl
  have go1 : y ≥ k (39 + 3 * x.toNat + 2) + k (39 + 3 * x.toNat + 1) + k (39 + 3 * x.toNat) → zW mX4_takenBy (d + 1) 0 0 [] (zI sz S (fun r M' => r = zwb k x.toNat y ∧ M' = M)) 5 [some (zn a), some (zi x), some (zi y), some (zi (k (39 + 3 * x.toNat + 2) + k (39 + 3 * x.toNat + 1) + k (39 + 3 * x.toNat))), some (zi 0)] [] sz S M := by
    intro h9
    refine x_iload 7 rfl dX4_takenBy_5 rfl ?_
    refine x_if_le 10 43 rfl dX4_takenBy_7 (by decide) (fun c7 => ?_) (fun c7 => ?_)
    · refine x_iconst 44 rfl dX4_takenBy_43 (by decide) ?_
      refine x_reti dX4_takenBy_44 rfl ?_
      refine ⟨?_, rfl⟩
      unfold zwb
      rw [if_neg (by omega), if_neg (by omega), if_neg (by omega)]
      omega
    · exfalso; omega
  have go2 : y ≥ k (39 + 3 * x.toNat + 2) + k (39 + 3 * x.toNat + 1) → zW mX4_takenBy (d + 1) 0 0 [] (zI sz S (fun r M' => r = zwb k x.toNat y ∧ M' = M)) 5 [some (zn a), some (zi x), some (zi y), some (zi (k (39 + 3 * x.toNat + 2) + k (39 + 3 * x.toNat + 1))), some (zi 1)] [] sz S M := by
    intro h9
    refine x_iload 7 rfl dX4_takenBy_5 rfl ?_
    refine x_if_le 10 43 rfl dX4_takenBy_7 (by decide) (fun c7 => ?_) (fun c7 => ?_)
    · exfalso; omega
    · refine x_iload_n 11 rfl dX4_takenBy_10 3 rfl rfl ?_
      refine x_aload_n 12 rfl dX4_takenBy_11 0 rfl rfl ?_
      refine x_iload_n 13 rfl dX4_takenBy_12 1 rfl rfl ?_
      refine x_iload 15 rfl dX4_takenBy_13 rfl ?_
      refine x_cVi 18 rfl lX4_123 dX4_takenBy_15 (shl0 h) (shs0 h) (c_X7_chanceOf h hs hi hx (by decide)) rfl rfl (Nat.le_of_ble_eq_true rfl) (fun r M1 hr1 => ?_)
      obtain ⟨rfl, hM1⟩ := hr1
      rw [hM1]
      rw [z1]
      refine y_iadd 19 rfl dX4_takenBy_18 (by omega) ?_
      refine y_istore_n 20 rfl dX4_takenBy_19 rfl rfl (ls' := [_, _, _, _, _]) rfl (by decide) ?_
      refine x_iload_n 21 rfl dX4_takenBy_20 2 rfl rfl ?_
      refine x_iload_n 22 rfl dX4_takenBy_21 3 rfl rfl ?_
      refine x_icmp_ge 25 37 rfl dX4_takenBy_22 (by decide) (fun c22 => ?_) (fun c22 => ?_)
      · refine w_iinc 40 rfl dX4_takenBy_37 rfl (by decide) (by omega) rfl (ls' := [_, _, _, _, _]) rfl (by decide) ?_
        refine x_goto 5 dX4_takenBy_40 (by decide) ?_
        exact go1 (by omega)
      · refine x_iload 27 rfl dX4_takenBy_25 rfl ?_
        refine x_aload_n 28 rfl dX4_takenBy_27 0 rfl rfl ?_
        refine x_getr 31 rfl fX4_60 dX4_takenBy_28 (shl0 h) (shs0 h) (by decide) (a + 4) rfl ?_
        refine x_iload_n 32 rfl dX4_takenBy_31 1 rfl rfl ?_
        refine x_iald 33 rfl dX4_takenBy_32 (shl4 h) (shs4 h) (by omega) (by omega) ?_
        rw [q4]
        refine x_cSi 36 rfl lX4_84 dX4_takenBy_33 c_min rfl rfl (Nat.le_of_ble_eq_true rfl) (fun r M1 hr1 => ?_)
        obtain ⟨rfl, hM1⟩ := hr1
        rw [hM1]
        refine x_reti dX4_takenBy_36 rfl ?_
        refine ⟨?_, rfl⟩
        unfold zwb
        rw [if_neg (by omega), if_neg (by omega), if_pos (by omega)]
        omega
  have go3 : y ≥ k (39 + 3 * x.toNat + 2) → zW mX4_takenBy (d + 1) 0 0 [] (zI sz S (fun r M' => r = zwb k x.toNat y ∧ M' = M)) 5 [some (zn a), some (zi x), some (zi y), some (zi (k (39 + 3 * x.toNat + 2))), some (zi 2)] [] sz S M := by
    intro h9
    refine x_iload 7 rfl dX4_takenBy_5 rfl ?_
    refine x_if_le 10 43 rfl dX4_takenBy_7 (by decide) (fun c7 => ?_) (fun c7 => ?_)
    · exfalso; omega
    · refine x_iload_n 11 rfl dX4_takenBy_10 3 rfl rfl ?_
      refine x_aload_n 12 rfl dX4_takenBy_11 0 rfl rfl ?_
      refine x_iload_n 13 rfl dX4_takenBy_12 1 rfl rfl ?_
      refine x_iload 15 rfl dX4_takenBy_13 rfl ?_
      refine x_cVi 18 rfl lX4_123 dX4_takenBy_15 (shl0 h) (shs0 h) (c_X7_chanceOf h hs hi hx (by decide)) rfl rfl (Nat.le_of_ble_eq_true rfl) (fun r M1 hr1 => ?_)
      obtain ⟨rfl, hM1⟩ := hr1
      rw [hM1]
      rw [z2]
      refine y_iadd 19 rfl dX4_takenBy_18 (by omega) ?_
      refine y_istore_n 20 rfl dX4_takenBy_19 rfl rfl (ls' := [_, _, _, _, _]) rfl (by decide) ?_
      refine x_iload_n 21 rfl dX4_takenBy_20 2 rfl rfl ?_
      refine x_iload_n 22 rfl dX4_takenBy_21 3 rfl rfl ?_
      refine x_icmp_ge 25 37 rfl dX4_takenBy_22 (by decide) (fun c22 => ?_) (fun c22 => ?_)
      · refine w_iinc 40 rfl dX4_takenBy_37 rfl (by decide) (by omega) rfl (ls' := [_, _, _, _, _]) rfl (by decide) ?_
        refine x_goto 5 dX4_takenBy_40 (by decide) ?_
        exact go2 (by omega)
      · refine x_iload 27 rfl dX4_takenBy_25 rfl ?_
        refine x_aload_n 28 rfl dX4_takenBy_27 0 rfl rfl ?_
        refine x_getr 31 rfl fX4_60 dX4_takenBy_28 (shl0 h) (shs0 h) (by decide) (a + 4) rfl ?_
        refine x_iload_n 32 rfl dX4_takenBy_31 1 rfl rfl ?_
        refine x_iald 33 rfl dX4_takenBy_32 (shl4 h) (shs4 h) (by omega) (by omega) ?_
        rw [q4]
        refine x_cSi 36 rfl lX4_84 dX4_takenBy_33 c_min rfl rfl (Nat.le_of_ble_eq_true rfl) (fun r M1 hr1 => ?_)
        obtain ⟨rfl, hM1⟩ := hr1
        rw [hM1]
        refine x_reti dX4_takenBy_36 rfl ?_
        refine ⟨?_, rfl⟩
        unfold zwb
        rw [if_neg (by omega), if_pos (by omega)]
        omega
  have go4 : zW mX4_takenBy (d + 1) 0 0 [] (zI sz S (fun r M' => r = zwb k x.toNat y ∧ M' = M)) 5 [some (zn a), some (zi x), some (zi y), some (zi 0), some (zi 3)] [] sz S M := by
    refine x_iload 7 rfl dX4_takenBy_5 rfl ?_
    refine x_if_le 10 43 rfl dX4_takenBy_7 (by decide) (fun c7 => ?_) (fun c7 => ?_)
    · exfalso; omega
    · refine x_iload_n 11 rfl dX4_takenBy_10 3 rfl rfl ?_
      refine x_aload_n 12 rfl dX4_takenBy_11 0 rfl rfl ?_
      refine x_iload_n 13 rfl dX4_takenBy_12 1 rfl rfl ?_
      refine x_iload 15 rfl dX4_takenBy_13 rfl ?_
      refine x_cVi 18 rfl lX4_123 dX4_takenBy_15 (shl0 h) (shs0 h) (c_X7_chanceOf h hs hi hx (by decide)) rfl rfl (Nat.le_of_ble_eq_true rfl) (fun r M1 hr1 => ?_)
      obtain ⟨rfl, hM1⟩ := hr1
      rw [hM1]
      rw [z3]
      refine y_iadd 19 rfl dX4_takenBy_18 (by omega) ?_
      refine y_istore_n 20 rfl dX4_takenBy_19 rfl rfl (ls' := [_, _, _, _, _]) rfl (by decide) ?_
      refine x_iload_n 21 rfl dX4_takenBy_20 2 rfl rfl ?_
      refine x_iload_n 22 rfl dX4_takenBy_21 3 rfl rfl ?_
      refine x_icmp_ge 25 37 rfl dX4_takenBy_22 (by decide) (fun c22 => ?_) (fun c22 => ?_)
      · refine w_iinc 40 rfl dX4_takenBy_37 rfl (by decide) (by omega) rfl (ls' := [_, _, _, _, _]) rfl (by decide) ?_
        refine x_goto 5 dX4_takenBy_40 (by decide) ?_
        rw [Int.zero_add]
        exact go3 (by omega)
      · refine x_iload 27 rfl dX4_takenBy_25 rfl ?_
        refine x_aload_n 28 rfl dX4_takenBy_27 0 rfl rfl ?_
        refine x_getr 31 rfl fX4_60 dX4_takenBy_28 (shl0 h) (shs0 h) (by decide) (a + 4) rfl ?_
        refine x_iload_n 32 rfl dX4_takenBy_31 1 rfl rfl ?_
        refine x_iald 33 rfl dX4_takenBy_32 (shl4 h) (shs4 h) (by omega) (by omega) ?_
        rw [q4]
        refine x_cSi 36 rfl lX4_84 dX4_takenBy_33 c_min rfl rfl (Nat.le_of_ble_eq_true rfl) (fun r M1 hr1 => ?_)
        obtain ⟨rfl, hM1⟩ := hr1
        rw [hM1]
        refine x_reti dX4_takenBy_36 rfl ?_
        refine ⟨?_, rfl⟩
        unfold zwb
        rw [if_pos (by omega)]
        omega
  refine zX_of pl_RX4 [some (zn a), some (zi x), some (zi y), none, none] 2 rfl rfl ?_
  refine x_iconst 1 rfl dX4_takenBy_0 (by decide) ?_
  refine y_istore_n 2 rfl dX4_takenBy_1 rfl rfl (ls' := [_, _, _, _, _]) rfl (by decide) ?_
  refine x_iconst 3 rfl dX4_takenBy_2 (by decide) ?_
  refine y_istore 5 rfl dX4_takenBy_3 rfl (ls' := [_, _, _, _, _]) rfl (by decide) ?_
  exact go4
