/-! row -/
/-- a ground of these four numbers comes -/
def zgc (k : Nat → Int) (a b c d : Int) : Prop := k 76 < 4 ∧ ((0 ≤ a ∧ a ≤ 99) ∧ (0 ≤ b ∧ b ≤ 10) ∧ (0 ≤ c ∧ c ≤ 10) ∧ (0 ≤ d ∧ d ≤ 10) ∧ b + c + d ≤ 10)

set_option maxRecDepth 100000 in
set_option maxHeartbeats 4000000 in
theorem c_X10_groundCame {d sz : Nat} {S : zSh} {M : zMem} (hL : LY S sz) {k : Nat → Int} (hs : SR M 1 k) (hi : KI k) {n : Nat} (hn : n + 3 < 400) : zX (d + 1) 0 0 mX10_groundCame [zn 0, zi (n : Int)] sz S M (zI sz S (fun r M' => (¬ zgc k (M 31 (n + 0)) (M 31 (n + 1)) (M 31 (n + 2)) (M 31 (n + 3)) ∧ r = 0 ∧ M' = M) ∨ (zgc k (M 31 (n + 0)) (M 31 (n + 1)) (M 31 (n + 2)) (M 31 (n + 3)) ∧ r = 1 ∧ (∀ i, ¬ (1 ≤ i ∧ i < 1 + 11) → M' i = M i) ∧ M' 11 = M 11 ∧ SR M' 1 (kGround k (M 31 (n + 0)) (M 31 (n + 1)) (M 31 (n + 2)) (M 31 (n + 3)))))) := by
  have i1 := hi.1
  have e5 := hs.1.2.2.1
  refine zX_of pl_RX10 [some (zn 0), some (zi (n : Int)), none, none, none, none] 4 rfl rfl ?_
  refine x_aload_n 1 rfl dX10_groundCame_0 0 rfl rfl ?_
  refine x_getr 4 rfl fX10_36 dX10_groundCame_1 (lyl0 hL) (lys0 hL) (by decide) (30) rfl ?_
  refine x_iload_n 5 rfl dX10_groundCame_4 1 rfl rfl ?_
  refine x_cVi 8 rfl lX10_303 dX10_groundCame_5 (lyl30 hL) (lys30 hL) (c_X8_byteAt hL) rfl rfl (Nat.le_of_ble_eq_true rfl) (fun b1 M1 hb1 => ?_)
  obtain ⟨hb1a, hM1⟩ := hb1
  rw [hM1]
  rw [if_pos (by omega), show ((n : Int)).toNat = n + 0 by omega] at hb1a
  subst hb1a
  refine y_istore_n 9 rfl dX10_groundCame_8 rfl rfl (ls' := [_, _, _, _, _, _]) rfl (by decide) ?_
  refine x_aload_n 10 rfl dX10_groundCame_9 0 rfl rfl ?_
  refine x_getr 13 rfl fX10_36 dX10_groundCame_10 (lyl0 hL) (lys0 hL) (by decide) (30) rfl ?_
  refine x_iload_n 14 rfl dX10_groundCame_13 1 rfl rfl ?_
  refine x_iconst 15 rfl dX10_groundCame_14 (by decide) ?_
  refine y_iadd 16 rfl dX10_groundCame_15 (by omega) ?_
  refine x_cVi 19 rfl lX10_303 dX10_groundCame_16 (lyl30 hL) (lys30 hL) (c_X8_byteAt hL) rfl rfl (Nat.le_of_ble_eq_true rfl) (fun b2 M2 hb2 => ?_)
  obtain ⟨hb2a, hM2⟩ := hb2
  rw [hM2]
  rw [if_pos (by omega), show ((n : Int) + 1).toNat = n + 1 by omega] at hb2a
  subst hb2a
  refine y_istore_n 20 rfl dX10_groundCame_19 rfl rfl (ls' := [_, _, _, _, _, _]) rfl (by decide) ?_
  refine x_aload_n 21 rfl dX10_groundCame_20 0 rfl rfl ?_
  refine x_getr 24 rfl fX10_36 dX10_groundCame_21 (lyl0 hL) (lys0 hL) (by decide) (30) rfl ?_
  refine x_iload_n 25 rfl dX10_groundCame_24 1 rfl rfl ?_
  refine x_iconst 26 rfl dX10_groundCame_25 (by decide) ?_
  refine y_iadd 27 rfl dX10_groundCame_26 (by omega) ?_
  refine x_cVi 30 rfl lX10_303 dX10_groundCame_27 (lyl30 hL) (lys30 hL) (c_X8_byteAt hL) rfl rfl (Nat.le_of_ble_eq_true rfl) (fun b3 M3 hb3 => ?_)
  obtain ⟨hb3a, hM3⟩ := hb3
  rw [hM3]
  rw [if_pos (by omega), show ((n : Int) + 2).toNat = n + 2 by omega] at hb3a
  subst hb3a
  refine y_istore 32 rfl dX10_groundCame_30 rfl (ls' := [_, _, _, _, _, _]) rfl (by decide) ?_
  refine x_aload_n 33 rfl dX10_groundCame_32 0 rfl rfl ?_
  refine x_getr 36 rfl fX10_36 dX10_groundCame_33 (lyl0 hL) (lys0 hL) (by decide) (30) rfl ?_
  refine x_iload_n 37 rfl dX10_groundCame_36 1 rfl rfl ?_
  refine x_iconst 38 rfl dX10_groundCame_37 (by decide) ?_
  refine y_iadd 39 rfl dX10_groundCame_38 (by omega) ?_
  refine x_cVi 42 rfl lX10_303 dX10_groundCame_39 (lyl30 hL) (lys30 hL) (c_X8_byteAt hL) rfl rfl (Nat.le_of_ble_eq_true rfl) (fun b4 M4 hb4 => ?_)
  obtain ⟨hb4a, hM4⟩ := hb4
  rw [hM4]
  rw [if_pos (by omega), show ((n : Int) + 3).toNat = n + 3 by omega] at hb4a
  subst hb4a
  refine y_istore 44 rfl dX10_groundCame_42 rfl (ls' := [_, _, _, _, _, _]) rfl (by decide) ?_
  refine x_aload_n 45 rfl dX10_groundCame_44 0 rfl rfl ?_
  refine x_getr 48 rfl fX10_10 dX10_groundCame_45 (lyl0 hL) (lys0 hL) (by decide) (1) rfl ?_
  refine x_geti 51 rfl fX10_143 dX10_groundCame_48 (lyl1 hL) (lys1 hL) (by decide) ?_
  refine x_iconst 52 rfl dX10_groundCame_51 (by decide) ?_
  refine x_icmp_ge 55 67 rfl dX10_groundCame_52 (by decide) (fun c52 => ?_) (fun c52 => ?_)
  · refine x_iconst 68 rfl dX10_groundCame_67 (by decide) ?_
    refine x_retz dX10_groundCame_68 rfl (by omega) ?_
    exact Or.inl ⟨fun h9 => by have := h9.1; omega, rfl, rfl⟩
  · refine x_iload_n 56 rfl dX10_groundCame_55 2 rfl rfl ?_
    refine x_iload_n 57 rfl dX10_groundCame_56 3 rfl rfl ?_
    refine x_iload 59 rfl dX10_groundCame_57 rfl ?_
    refine x_iload 61 rfl dX10_groundCame_59 rfl ?_
    refine x_cSi 64 rfl lX10_139 dX10_groundCame_61 c_X7_groundCanBe rfl rfl (Nat.le_of_ble_eq_true rfl) (fun r5 M5 hr5 => ?_)
    obtain ⟨hr6, hM5⟩ := hr5
    rw [hM5]
    refine x_if_ne 67 69 rfl dX10_groundCame_64 (by decide) (fun c64 => ?_) (fun c64 => ?_)
    · refine x_aload_n 70 rfl dX10_groundCame_69 0 rfl rfl ?_
      refine x_getr 73 rfl fX10_10 dX10_groundCame_70 (lyl0 hL) (lys0 hL) (by decide) (1) rfl ?_
      refine x_iload_n 74 rfl dX10_groundCame_73 2 rfl rfl ?_
      refine x_iload_n 75 rfl dX10_groundCame_74 3 rfl rfl ?_
      refine x_iload 77 rfl dX10_groundCame_75 rfl ?_
      refine x_iload 79 rfl dX10_groundCame_77 rfl ?_
      refine x_cVi 82 rfl lX10_146 dX10_groundCame_79 (lyl1 hL) (lys1 hL) (c_X7_addGround (ly_sh1 hL) hs hi (by omega)) rfl rfl (Nat.le_of_ble_eq_true rfl) (fun r7 M7 hr7 => ?_)
      obtain ⟨hr8, hf7, hl7, hs7⟩ := hr7
      refine x_popi 83 rfl dX10_groundCame_82 ?_
      refine x_iconst 84 rfl dX10_groundCame_83 (by decide) ?_
      refine x_retz dX10_groundCame_84 rfl (by omega) ?_
      refine Or.inr ⟨⟨by omega, ?_⟩, rfl, hf7, hl7, hs7⟩
      exact Decidable.byContradiction (fun h9 => by rw [if_neg h9] at hr6; omega)
    · refine x_iconst 68 rfl dX10_groundCame_67 (by decide) ?_
      refine x_retz dX10_groundCame_68 rfl (by omega) ?_
      refine Or.inl ⟨fun h9 => ?_, rfl, rfl⟩
      rw [if_pos h9.2] at hr6
      omega
