theorem kSign_eq (k : Nat → Int) (x y : Int) (h : 0 ≤ k 75) : ku (ku (ku (ku (ku k (23 + k 75).toNat x) (3 + k 75).toNat y) (31 + k 75).toNat (k 2)) (11 + k 75).toNat 1) 75 (k 75 + 1) = kSign k x y := by
  unfold kSign
  rw [show (23 + k 75).toNat = 23 + (k 75).toNat by omega, show (3 + k 75).toNat = 3 + (k 75).toNat by omega, show (31 + k 75).toNat = 31 + (k 75).toNat by omega, show (11 + k 75).toNat = 11 + (k 75).toNat by omega]
theorem z_mup_self {M : zMem} {a : Nat} : z_mup M a (M a) = M := by
  funext u
  by_cases h : u = a
  · subst h; simp [z_mup]
  · simp [z_mup, h]
def zSet (M : zMem) (k : Nat → Int) : zMem := z_up (z_up (z_mup M 57 k) 55 32 0) 55 0 0

set_option maxRecDepth 100000 in
set_option maxHeartbeats 4000000 in
theorem c_X11_sign {d sz : Nat} {S : zSh} {M : zMem} (hL : LY S sz) (hi : KI (M 57)) (hr : ∀ i, i < 7 → 0 ≤ M 56 i ∧ M 56 i ≤ 1000000) {x y : Int} : zX (d + 2) 0 0 mX11_sign [zn 55, zi x, zi y] sz S M (zI sz S (fun r M' => (¬ ((1 ≤ x ∧ x ≤ 999) ∧ 0 ≤ y ∧ y ≤ 9999) ∧ r = -1 ∧ M' = zRef M (-1)) ∨ (((1 ≤ x ∧ x ≤ 999) ∧ 0 ≤ y ∧ y ≤ 9999) ∧ M 57 75 = 8 ∧ r = -5 ∧ M' = zRef M (-5)) ∨ (((1 ≤ x ∧ x ≤ 999) ∧ 0 ≤ y ∧ y ≤ 9999) ∧ M 57 75 < 8 ∧ r = M 57 75 ∧ M' = zSet M (kSign (M 57) x y)))) := by
  have i1 := hi.1
  refine zX_of pl_RX11 [some (zn 55), some (zi x), some (zi y), none] 1 rfl rfl ?_
  refine x_iload_n 1 rfl dX11_sign_0 1 rfl rfl ?_
  refine x_iconst 2 rfl dX11_sign_1 (by decide) ?_
  refine x_sipush 5 rfl dX11_sign_2 (by decide) ?_
  refine x_cSi 8 rfl lX11_90 dX11_sign_5 c_X11_lies rfl rfl (Nat.le_of_ble_eq_true rfl) (fun r M1 hr1 => ?_)
  obtain ⟨rfl, hM1⟩ := hr1
  rw [hM1]
  refine x_if_eq 11 22 rfl dX11_sign_8 (by decide) (fun c8 => ?_) (fun c8 => ?_)
  · refine x_aload_n 23 rfl dX11_sign_22 0 rfl rfl ?_
    refine x_iconst 24 rfl dX11_sign_23 (by decide) ?_
    refine x_cVi 27 rfl lX11_94 dX11_sign_24 (lyl55 hL) (lys55 hL) (c_X11_refuses hL hr (x := -1) (by decide)) rfl rfl (Nat.le_of_ble_eq_true rfl) (fun r M1 hr1 => ?_)
    obtain ⟨rfl, hM1⟩ := hr1
    rw [hM1]
    refine x_reti dX11_sign_27 rfl ?_
    left
    refine ⟨?_, rfl, rfl⟩
    first | (split at c8 <;> split at c19 <;> omega) | (split at c8 <;> omega)
  · refine x_iload_n 12 rfl dX11_sign_11 2 rfl rfl ?_
    refine x_iconst 13 rfl dX11_sign_12 (by decide) ?_
    refine x_sipush 16 rfl dX11_sign_13 (by decide) ?_
    refine x_cSi 19 rfl lX11_90 dX11_sign_16 c_X11_lies rfl rfl (Nat.le_of_ble_eq_true rfl) (fun r M1 hr1 => ?_)
    obtain ⟨rfl, hM1⟩ := hr1
    rw [hM1]
    refine x_if_ne 22 28 rfl dX11_sign_19 (by decide) (fun c19 => ?_) (fun c19 => ?_)
    · refine x_aload_n 29 rfl dX11_sign_28 0 rfl rfl ?_
      refine x_getr 32 rfl fX11_24 dX11_sign_29 (lyl55 hL) (lys55 hL) (by decide) (57) rfl ?_
      refine x_bipush 34 rfl dX11_sign_32 (by decide) ?_
      refine x_ialk 35 rfl dX11_sign_34 (lyl57 hL) (lys57 hL) 75 rfl (by decide) ?_
      try simp (disch := omega) only [z_up_ne, z_up_nk, z_up_eq, z_mup_ne, z_mup_eq, Int.reduceToNat, Int.toNat_natCast]
      refine y_istore_n 36 rfl dX11_sign_35 rfl rfl (ls' := [_, _, _, _]) rfl (by decide) ?_
      refine x_iload_n 37 rfl dX11_sign_36 3 rfl rfl ?_
      refine x_bipush 39 rfl dX11_sign_37 (by decide) ?_
      refine x_icmp_ne 42 49 rfl dX11_sign_39 (by decide) (fun c39 => ?_) (fun c39 => ?_)
      · refine x_aload_n 50 rfl dX11_sign_49 0 rfl rfl ?_
        refine x_getr 53 rfl fX11_24 dX11_sign_50 (lyl55 hL) (lys55 hL) (by decide) (57) rfl ?_
        refine x_bipush 55 rfl dX11_sign_53 (by decide) ?_
        refine x_iload_n 56 rfl dX11_sign_55 3 rfl rfl ?_
        refine y_iadd 57 rfl dX11_sign_56 (by omega) ?_
        refine x_iload_n 58 rfl dX11_sign_57 1 rfl rfl ?_
        refine x_iast 59 rfl dX11_sign_58 (lyl57 hL) (lys57 hL) (by omega) (by omega) ?_
        refine x_aload_n 60 rfl dX11_sign_59 0 rfl rfl ?_
        refine x_getr 63 rfl fX11_24 dX11_sign_60 (lyl55 hL) (lys55 hL) (by decide) (57) rfl ?_
        refine x_iconst 64 rfl dX11_sign_63 (by decide) ?_
        refine x_iload_n 65 rfl dX11_sign_64 3 rfl rfl ?_
        refine y_iadd 66 rfl dX11_sign_65 (by omega) ?_
        refine x_iload_n 67 rfl dX11_sign_66 2 rfl rfl ?_
        refine x_iast 68 rfl dX11_sign_67 (lyl57 hL) (lys57 hL) (by omega) (by omega) ?_
        refine x_aload_n 69 rfl dX11_sign_68 0 rfl rfl ?_
        refine x_getr 72 rfl fX11_24 dX11_sign_69 (lyl55 hL) (lys55 hL) (by decide) (57) rfl ?_
        refine x_bipush 74 rfl dX11_sign_72 (by decide) ?_
        refine x_iload_n 75 rfl dX11_sign_74 3 rfl rfl ?_
        refine y_iadd 76 rfl dX11_sign_75 (by omega) ?_
        refine x_aload_n 77 rfl dX11_sign_76 0 rfl rfl ?_
        refine x_getr 80 rfl fX11_24 dX11_sign_77 (lyl55 hL) (lys55 hL) (by decide) (57) rfl ?_
        refine x_iconst 81 rfl dX11_sign_80 (by decide) ?_
        refine x_ialk 82 rfl dX11_sign_81 (lyl57 hL) (lys57 hL) 2 rfl (by decide) ?_
        try simp (disch := omega) only [z_up_ne, z_up_nk, z_up_eq, z_mup_ne, z_mup_eq, Int.reduceToNat, Int.toNat_natCast]
        refine x_iast 83 rfl dX11_sign_82 (lyl57 hL) (lys57 hL) (by omega) (by omega) ?_
        refine x_aload_n 84 rfl dX11_sign_83 0 rfl rfl ?_
        refine x_getr 87 rfl fX11_24 dX11_sign_84 (lyl55 hL) (lys55 hL) (by decide) (57) rfl ?_
        refine x_bipush 89 rfl dX11_sign_87 (by decide) ?_
        refine x_iload_n 90 rfl dX11_sign_89 3 rfl rfl ?_
        refine y_iadd 91 rfl dX11_sign_90 (by omega) ?_
        refine x_iconst 92 rfl dX11_sign_91 (by decide) ?_
        refine x_iast 93 rfl dX11_sign_92 (lyl57 hL) (lys57 hL) (by omega) (by omega) ?_
        refine x_aload_n 94 rfl dX11_sign_93 0 rfl rfl ?_
        refine x_getr 97 rfl fX11_24 dX11_sign_94 (lyl55 hL) (lys55 hL) (by decide) (57) rfl ?_
        refine x_bipush 99 rfl dX11_sign_97 (by decide) ?_
        refine x_dup2ir 100 rfl dX11_sign_99 ?_
        refine x_ialk 101 rfl dX11_sign_100 (lyl57 hL) (lys57 hL) 75 rfl (by decide) ?_
        try simp (disch := omega) only [z_up_ne, z_up_nk, z_up_eq, z_mup_ne, z_mup_eq, Int.reduceToNat, Int.toNat_natCast]
        refine x_iconst 102 rfl dX11_sign_101 (by decide) ?_
        refine y_iadd 103 rfl dX11_sign_102 (by omega) ?_
        refine x_iastk 104 rfl dX11_sign_103 (lyl57 hL) (lys57 hL) 75 rfl (by decide) ?_
        refine x_aload_n 105 rfl dX11_sign_104 0 rfl rfl ?_
        refine x_iload_n 106 rfl dX11_sign_105 3 rfl rfl ?_
        refine x_cVi 109 rfl lX11_97 dX11_sign_106 (lyl55 hL) (lys55 hL) (c_X11_settled hL) rfl rfl (Nat.le_of_ble_eq_true rfl) (fun r M1 hr1 => ?_)
        obtain ⟨rfl, hM1⟩ := hr1
        rw [hM1]
        refine x_reti dX11_sign_109 rfl ?_
        right; right
        refine ⟨by split at c8 <;> split at c19 <;> omega, by omega, rfl, ?_⟩
        unfold zSet
        rw [← kSign_eq _ _ _ (by omega)]
        simp only [← z_mupm, z_mup_self]
      · refine x_aload_n 43 rfl dX11_sign_42 0 rfl rfl ?_
        refine x_bipush 45 rfl dX11_sign_43 (by decide) ?_
        refine x_cVi 48 rfl lX11_94 dX11_sign_45 (lyl55 hL) (lys55 hL) (c_X11_refuses hL hr (x := -5) (by decide)) rfl rfl (Nat.le_of_ble_eq_true rfl) (fun r M1 hr1 => ?_)
        obtain ⟨rfl, hM1⟩ := hr1
        rw [hM1]
        refine x_reti dX11_sign_48 rfl ?_
        right; left
        exact ⟨by split at c8 <;> split at c19 <;> omega, by omega, rfl, rfl⟩
    · refine x_aload_n 23 rfl dX11_sign_22 0 rfl rfl ?_
      refine x_iconst 24 rfl dX11_sign_23 (by decide) ?_
      refine x_cVi 27 rfl lX11_94 dX11_sign_24 (lyl55 hL) (lys55 hL) (c_X11_refuses hL hr (x := -1) (by decide)) rfl rfl (Nat.le_of_ble_eq_true rfl) (fun r M1 hr1 => ?_)
      obtain ⟨rfl, hM1⟩ := hr1
      rw [hM1]
      refine x_reti dX11_sign_27 rfl ?_
      left
      refine ⟨?_, rfl, rfl⟩
      first | (split at c8 <;> split at c19 <;> omega) | (split at c8 <;> omega)

theorem kGround_eq (k : Nat → Int) (x y z u : Int) (h : 0 ≤ k 76) : ku (ku (ku (ku (ku k (19 + k 76).toNat x) (39 + 3 * k 76).toNat y) (39 + 3 * k 76 + 1).toNat z) (39 + 3 * k 76 + 2).toNat u) 76 (k 76 + 1) = kGround k x y z u := by
  unfold kGround
  rw [show (19 + k 76).toNat = 19 + (k 76).toNat by omega, show (39 + 3 * k 76).toNat = 39 + 3 * (k 76).toNat by omega, show (39 + 3 * k 76 + 1).toNat = 39 + 3 * (k 76).toNat + 1 by omega, show (39 + 3 * k 76 + 2).toNat = 39 + 3 * (k 76).toNat + 2 by omega]
theorem kWord_eq (k : Nat → Int) (x y : Int) (h : 0 ≤ k 77) : ku (ku (ku k (57 + 2 * k 77).toNat x) (57 + 2 * k 77 + 1).toNat y) 77 (k 77 + 1) = kWord k x y := by
  unfold kWord
  rw [show (57 + 2 * k 77).toNat = 57 + 2 * (k 77).toNat by omega, show (57 + 2 * k 77 + 1).toNat = 57 + 2 * (k 77).toNat + 1 by omega]
theorem kGround_76 (k : Nat → Int) (x y z u : Int) : kGround k x y z u 76 = k 76 + 1 := by simp [kGround, ku]

set_option maxRecDepth 100000 in
set_option maxHeartbeats 4000000 in
theorem c_X11_addsGround {d sz : Nat} {S : zSh} {M : zMem} (hL : LY S sz) (hi : KI (M 57)) {x y z u : Int} (h4 : M 57 76 < 4) : zX d 0 0 mX11_addsGround [zn 55, zi x, zi y, zi z, zi u] sz S M (zU sz S (fun M' => M' = z_mup M 57 (kGround (M 57) x y z u))) := by
  have i1 := hi.1
  refine zX_of pl_RX11 [some (zn 55), some (zi x), some (zi y), some (zi z), some (zi u), none] 1 rfl rfl ?_
  refine x_aload_n 1 rfl dX11_addsGround_0 0 rfl rfl ?_
  refine x_getr 4 rfl fX11_24 dX11_addsGround_1 (lyl55 hL) (lys55 hL) (by decide) (57) rfl ?_
  refine x_bipush 6 rfl dX11_addsGround_4 (by decide) ?_
  refine x_ialk 7 rfl dX11_addsGround_6 (lyl57 hL) (lys57 hL) 76 rfl (by decide) ?_
  refine y_istore 9 rfl dX11_addsGround_7 rfl (ls' := [_, _, _, _, _, _]) rfl (by decide) ?_
  refine x_aload_n 10 rfl dX11_addsGround_9 0 rfl rfl ?_
  refine x_getr 13 rfl fX11_24 dX11_addsGround_10 (lyl55 hL) (lys55 hL) (by decide) (57) rfl ?_
  refine x_bipush 15 rfl dX11_addsGround_13 (by decide) ?_
  refine x_iload 17 rfl dX11_addsGround_15 rfl ?_
  refine y_iadd 18 rfl dX11_addsGround_17 (by omega) ?_
  refine x_iload_n 19 rfl dX11_addsGround_18 1 rfl rfl ?_
  refine x_iast 20 rfl dX11_addsGround_19 (lyl57 hL) (lys57 hL) (by omega) (by omega) ?_
  refine x_aload_n 21 rfl dX11_addsGround_20 0 rfl rfl ?_
  refine x_getr 24 rfl fX11_24 dX11_addsGround_21 (lyl55 hL) (lys55 hL) (by decide) (57) rfl ?_
  refine x_bipush 26 rfl dX11_addsGround_24 (by decide) ?_
  refine x_iconst 27 rfl dX11_addsGround_26 (by decide) ?_
  refine x_iload 29 rfl dX11_addsGround_27 rfl ?_
  refine y_imul 30 rfl dX11_addsGround_29 (by omega) ?_
  refine y_iadd 31 rfl dX11_addsGround_30 (by omega) ?_
  refine x_iload_n 32 rfl dX11_addsGround_31 2 rfl rfl ?_
  refine x_iast 33 rfl dX11_addsGround_32 (lyl57 hL) (lys57 hL) (by omega) (by omega) ?_
  refine x_aload_n 34 rfl dX11_addsGround_33 0 rfl rfl ?_
  refine x_getr 37 rfl fX11_24 dX11_addsGround_34 (lyl55 hL) (lys55 hL) (by decide) (57) rfl ?_
  refine x_bipush 39 rfl dX11_addsGround_37 (by decide) ?_
  refine x_iconst 40 rfl dX11_addsGround_39 (by decide) ?_
  refine x_iload 42 rfl dX11_addsGround_40 rfl ?_
  refine y_imul 43 rfl dX11_addsGround_42 (by omega) ?_
  refine y_iadd 44 rfl dX11_addsGround_43 (by omega) ?_
  refine x_iconst 45 rfl dX11_addsGround_44 (by decide) ?_
  refine y_iadd 46 rfl dX11_addsGround_45 (by omega) ?_
  refine x_iload_n 47 rfl dX11_addsGround_46 3 rfl rfl ?_
  refine x_iast 48 rfl dX11_addsGround_47 (lyl57 hL) (lys57 hL) (by omega) (by omega) ?_
  refine x_aload_n 49 rfl dX11_addsGround_48 0 rfl rfl ?_
  refine x_getr 52 rfl fX11_24 dX11_addsGround_49 (lyl55 hL) (lys55 hL) (by decide) (57) rfl ?_
  refine x_bipush 54 rfl dX11_addsGround_52 (by decide) ?_
  refine x_iconst 55 rfl dX11_addsGround_54 (by decide) ?_
  refine x_iload 57 rfl dX11_addsGround_55 rfl ?_
  refine y_imul 58 rfl dX11_addsGround_57 (by omega) ?_
  refine y_iadd 59 rfl dX11_addsGround_58 (by omega) ?_
  refine x_iconst 60 rfl dX11_addsGround_59 (by decide) ?_
  refine y_iadd 61 rfl dX11_addsGround_60 (by omega) ?_
  refine x_iload 63 rfl dX11_addsGround_61 rfl ?_
  refine x_iast 64 rfl dX11_addsGround_63 (lyl57 hL) (lys57 hL) (by omega) (by omega) ?_
  refine x_aload_n 65 rfl dX11_addsGround_64 0 rfl rfl ?_
  refine x_getr 68 rfl fX11_24 dX11_addsGround_65 (lyl55 hL) (lys55 hL) (by decide) (57) rfl ?_
  refine x_bipush 70 rfl dX11_addsGround_68 (by decide) ?_
  refine x_dup2ir 71 rfl dX11_addsGround_70 ?_
  refine x_ialk 72 rfl dX11_addsGround_71 (lyl57 hL) (lys57 hL) 76 rfl (by decide) ?_
  try simp (disch := omega) only [z_up_ne, z_up_nk, z_up_eq, z_mup_ne, z_mup_eq, Int.reduceToNat, Int.toNat_natCast]
  refine x_iconst 73 rfl dX11_addsGround_72 (by decide) ?_
  refine y_iadd 74 rfl dX11_addsGround_73 (by omega) ?_
  refine x_iastk 75 rfl dX11_addsGround_74 (lyl57 hL) (lys57 hL) 76 rfl (by decide) ?_
  refine x_retu dX11_addsGround_75 rfl ?_
  rw [← kGround_eq _ _ _ _ _ (by omega)]
  simp only [← z_mupm, z_mup_self]

set_option maxRecDepth 100000 in
set_option maxHeartbeats 4000000 in
theorem c_X11_ground {d sz : Nat} {S : zSh} {M : zMem} (hL : LY S sz) (hi : KI (M 57)) (hr : ∀ i, i < 7 → 0 ≤ M 56 i ∧ M 56 i ≤ 1000000) {x y z u : Int} : zX (d + 2) 0 0 mX11_ground [zn 55, zi x, zi y, zi z, zi u] sz S M (zI sz S (fun r M' => (¬ ((0 ≤ x ∧ x ≤ 99) ∧ (0 ≤ y ∧ y ≤ 10) ∧ (0 ≤ z ∧ z ≤ 10) ∧ (0 ≤ u ∧ u ≤ 10) ∧ y + z + u ≤ 10) ∧ r = -1 ∧ M' = zRef M (-1)) ∨ (((0 ≤ x ∧ x ≤ 99) ∧ (0 ≤ y ∧ y ≤ 10) ∧ (0 ≤ z ∧ z ≤ 10) ∧ (0 ≤ u ∧ u ≤ 10) ∧ y + z + u ≤ 10) ∧ M 57 76 = 4 ∧ r = -5 ∧ M' = zRef M (-5)) ∨ (((0 ≤ x ∧ x ≤ 99) ∧ (0 ≤ y ∧ y ≤ 10) ∧ (0 ≤ z ∧ z ≤ 10) ∧ (0 ≤ u ∧ u ≤ 10) ∧ y + z + u ≤ 10) ∧ M 57 76 < 4 ∧ r = M 57 76 ∧ M' = zSet M (kGround (M 57) x y z u)))) := by
  have i1 := hi.1
  refine zX_of pl_RX11 [some (zn 55), some (zi x), some (zi y), some (zi z), some (zi u)] 0 rfl rfl ?_
  refine x_iload_n 1 rfl dX11_ground_0 1 rfl rfl ?_
  refine x_iload_n 2 rfl dX11_ground_1 2 rfl rfl ?_
  refine x_iload_n 3 rfl dX11_ground_2 3 rfl rfl ?_
  refine x_iload 5 rfl dX11_ground_3 rfl ?_
  refine x_cSi 8 rfl lX11_121 dX11_ground_5 c_X11_canGround rfl rfl (Nat.le_of_ble_eq_true rfl) (fun r M1 hr1 => ?_)
  obtain ⟨rfl, hM1⟩ := hr1
  rw [hM1]
  refine x_if_ne 11 17 rfl dX11_ground_8 (by decide) (fun c8 => ?_) (fun c8 => ?_)
  · refine x_aload_n 18 rfl dX11_ground_17 0 rfl rfl ?_
    refine x_getr 21 rfl fX11_24 dX11_ground_18 (lyl55 hL) (lys55 hL) (by decide) (57) rfl ?_
    refine x_bipush 23 rfl dX11_ground_21 (by decide) ?_
    refine x_ialk 24 rfl dX11_ground_23 (lyl57 hL) (lys57 hL) 76 rfl (by decide) ?_
    try simp (disch := omega) only [z_up_ne, z_up_nk, z_up_eq, z_mup_ne, z_mup_eq, Int.reduceToNat, Int.toNat_natCast]
    refine x_iconst 25 rfl dX11_ground_24 (by decide) ?_
    refine x_icmp_ne 28 35 rfl dX11_ground_25 (by decide) (fun c25 => ?_) (fun c25 => ?_)
    · refine x_aload_n 36 rfl dX11_ground_35 0 rfl rfl ?_
      refine x_iload_n 37 rfl dX11_ground_36 1 rfl rfl ?_
      refine x_iload_n 38 rfl dX11_ground_37 2 rfl rfl ?_
      refine x_iload_n 39 rfl dX11_ground_38 3 rfl rfl ?_
      refine x_iload 41 rfl dX11_ground_39 rfl ?_
      refine x_cVu 44 rfl lX11_125 dX11_ground_41 (lyl55 hL) (lys55 hL) (c_X11_addsGround hL hi (by omega)) rfl rfl (Nat.le_of_ble_eq_true rfl) (fun M1 hM1 => ?_)
      rw [hM1]
      refine x_aload_n 45 rfl dX11_ground_44 0 rfl rfl ?_
      refine x_aload_n 46 rfl dX11_ground_45 0 rfl rfl ?_
      refine x_getr 49 rfl fX11_24 dX11_ground_46 (lyl55 hL) (lys55 hL) (by decide) (57) rfl ?_
      refine x_bipush 51 rfl dX11_ground_49 (by decide) ?_
      refine x_ialk 52 rfl dX11_ground_51 (lyl57 hL) (lys57 hL) 76 rfl (by decide) ?_
      try simp (disch := omega) only [z_up_ne, z_up_nk, z_up_eq, z_mup_ne, z_mup_eq, Int.reduceToNat, Int.toNat_natCast]
      rw [kGround_76]
      refine x_iconst 53 rfl dX11_ground_52 (by decide) ?_
      refine y_isub 54 rfl dX11_ground_53 (by omega) ?_
      refine x_cVi 57 rfl lX11_97 dX11_ground_54 (lyl55 hL) (lys55 hL) (c_X11_settled hL) rfl rfl (Nat.le_of_ble_eq_true rfl) (fun r M1 hr1 => ?_)
      obtain ⟨rfl, hM1⟩ := hr1
      rw [hM1]
      refine x_reti dX11_ground_57 rfl ?_
      right; right
      exact ⟨by split at c8 <;> omega, by omega, by omega, rfl⟩
    · refine x_aload_n 29 rfl dX11_ground_28 0 rfl rfl ?_
      refine x_bipush 31 rfl dX11_ground_29 (by decide) ?_
      refine x_cVi 34 rfl lX11_94 dX11_ground_31 (lyl55 hL) (lys55 hL) (c_X11_refuses hL hr (x := -5) (by decide)) rfl rfl (Nat.le_of_ble_eq_true rfl) (fun r M1 hr1 => ?_)
      obtain ⟨rfl, hM1⟩ := hr1
      rw [hM1]
      refine x_reti dX11_ground_34 rfl ?_
      right; left
      exact ⟨by split at c8 <;> omega, by omega, rfl, rfl⟩
  · refine x_aload_n 12 rfl dX11_ground_11 0 rfl rfl ?_
    refine x_iconst 13 rfl dX11_ground_12 (by decide) ?_
    refine x_cVi 16 rfl lX11_94 dX11_ground_13 (lyl55 hL) (lys55 hL) (c_X11_refuses hL hr (x := -1) (by decide)) rfl rfl (Nat.le_of_ble_eq_true rfl) (fun r M1 hr1 => ?_)
    obtain ⟨rfl, hM1⟩ := hr1
    rw [hM1]
    refine x_reti dX11_ground_16 rfl ?_
    left
    refine ⟨?_, rfl, rfl⟩
    split at c8 <;> omega

set_option maxRecDepth 100000 in
set_option maxHeartbeats 4000000 in
theorem c_X11_price {d sz : Nat} {S : zSh} {M : zMem} (hL : LY S sz) (hi : KI (M 57)) (hr : ∀ i, i < 7 → 0 ≤ M 56 i ∧ M 56 i ≤ 1000000) {x y : Int} : zX (d + 1) 0 0 mX11_price [zn 55, zi x, zi y] sz S M (zI sz S (fun r M' => (¬ ((0 ≤ x ∧ x ≤ 5) ∧ 0 ≤ y ∧ y ≤ 99) ∧ r = -1 ∧ M' = zRef M (-1)) ∨ (((0 ≤ x ∧ x ≤ 5) ∧ 0 ≤ y ∧ y ≤ 99) ∧ r = M 57 (51 + x.toNat) ∧ M' = z_up (z_mup M 57 (ku (M 57) (51 + x.toNat) y)) 55 0 0))) := by
  have i1 := hi.1
  refine zX_of pl_RX11 [some (zn 55), some (zi x), some (zi y), none] 1 rfl rfl ?_
  refine x_iload_n 1 rfl dX11_price_0 1 rfl rfl ?_
  refine x_iconst 2 rfl dX11_price_1 (by decide) ?_
  refine x_iconst 3 rfl dX11_price_2 (by decide) ?_
  refine x_cSi 6 rfl lX11_90 dX11_price_3 c_X11_lies rfl rfl (Nat.le_of_ble_eq_true rfl) (fun r M1 hr1 => ?_)
  obtain ⟨rfl, hM1⟩ := hr1
  rw [hM1]
  refine x_if_eq 9 19 rfl dX11_price_6 (by decide) (fun c6 => ?_) (fun c6 => ?_)
  · refine x_aload_n 20 rfl dX11_price_19 0 rfl rfl ?_
    refine x_iconst 21 rfl dX11_price_20 (by decide) ?_
    refine x_cVi 24 rfl lX11_94 dX11_price_21 (lyl55 hL) (lys55 hL) (c_X11_refuses hL hr (x := -1) (by decide)) rfl rfl (Nat.le_of_ble_eq_true rfl) (fun r M1 hr1 => ?_)
    obtain ⟨rfl, hM1⟩ := hr1
    rw [hM1]
    refine x_reti dX11_price_24 rfl ?_
    left
    refine ⟨?_, rfl, rfl⟩
    first | (split at c6 <;> split at c16 <;> omega) | (split at c6 <;> omega)
  · refine x_iload_n 10 rfl dX11_price_9 2 rfl rfl ?_
    refine x_iconst 11 rfl dX11_price_10 (by decide) ?_
    refine x_bipush 13 rfl dX11_price_11 (by decide) ?_
    refine x_cSi 16 rfl lX11_90 dX11_price_13 c_X11_lies rfl rfl (Nat.le_of_ble_eq_true rfl) (fun r M1 hr1 => ?_)
    obtain ⟨rfl, hM1⟩ := hr1
    rw [hM1]
    refine x_if_ne 19 25 rfl dX11_price_16 (by decide) (fun c16 => ?_) (fun c16 => ?_)
    · have hb : (0 ≤ x ∧ x ≤ 5) ∧ 0 ≤ y ∧ y ≤ 99 := by split at c6 <;> split at c16 <;> omega
      have e : (51 + x).toNat = 51 + x.toNat := by omega
      refine x_aload_n 26 rfl dX11_price_25 0 rfl rfl ?_
      refine x_getr 29 rfl fX11_24 dX11_price_26 (lyl55 hL) (lys55 hL) (by decide) (57) rfl ?_
      refine x_bipush 31 rfl dX11_price_29 (by decide) ?_
      refine x_iload_n 32 rfl dX11_price_31 1 rfl rfl ?_
      refine y_iadd 33 rfl dX11_price_32 (by omega) ?_
      refine x_iald 34 rfl dX11_price_33 (lyl57 hL) (lys57 hL) (by omega) (by omega) ?_
      try simp (disch := omega) only [z_up_ne, z_up_nk, z_up_eq, z_mup_ne, z_mup_eq, Int.reduceToNat, Int.toNat_natCast]
      refine y_istore_n 35 rfl dX11_price_34 rfl rfl (ls' := [_, _, _, _]) rfl (by decide) ?_
      refine x_aload_n 36 rfl dX11_price_35 0 rfl rfl ?_
      refine x_getr 39 rfl fX11_24 dX11_price_36 (lyl55 hL) (lys55 hL) (by decide) (57) rfl ?_
      refine x_bipush 41 rfl dX11_price_39 (by decide) ?_
      refine x_iload_n 42 rfl dX11_price_41 1 rfl rfl ?_
      refine y_iadd 43 rfl dX11_price_42 (by omega) ?_
      refine x_iload_n 44 rfl dX11_price_43 2 rfl rfl ?_
      refine x_iast 45 rfl dX11_price_44 (lyl57 hL) (lys57 hL) (by omega) (by omega) ?_
      refine x_aload_n 46 rfl dX11_price_45 0 rfl rfl ?_
      refine x_iload_n 47 rfl dX11_price_46 3 rfl rfl ?_
      refine x_cVi 50 rfl lX11_14 dX11_price_47 (lyl55 hL) (lys55 hL) (c_X11_good hL) rfl rfl (Nat.le_of_ble_eq_true rfl) (fun r M1 hr1 => ?_)
      obtain ⟨rfl, hM1⟩ := hr1
      rw [hM1]
      refine x_reti dX11_price_50 rfl ?_
      right
      refine ⟨hb, by rw [e], ?_⟩
      rw [e, ← z_upm]
    · refine x_aload_n 20 rfl dX11_price_19 0 rfl rfl ?_
      refine x_iconst 21 rfl dX11_price_20 (by decide) ?_
      refine x_cVi 24 rfl lX11_94 dX11_price_21 (lyl55 hL) (lys55 hL) (c_X11_refuses hL hr (x := -1) (by decide)) rfl rfl (Nat.le_of_ble_eq_true rfl) (fun r M1 hr1 => ?_)
      obtain ⟨rfl, hM1⟩ := hr1
      rw [hM1]
      refine x_reti dX11_price_24 rfl ?_
      left
      refine ⟨?_, rfl, rfl⟩
      first | (split at c6 <;> split at c16 <;> omega) | (split at c6 <;> omega)

set_option maxRecDepth 100000 in
set_option maxHeartbeats 4000000 in
theorem c_X11_isTerm {d sz : Nat} {S : zSh} {M : zMem} (hL : LY S sz) (hi : KI (M 57)) {x y : Int} : zX (d + 1) 0 0 mX11_isTerm [zn 55, zi x, zi y] sz S M (zI sz S (fun r M' => r = (if (x = 0 ∧ 0 ≤ y ∧ y ≤ 71) ∨ (x = 1 ∧ 1 ≤ y ∧ M 57 0 ≤ y ∧ y ≤ 999) ∨ (x = 2 ∧ 0 ≤ y ∧ y ≤ 9) then 1 else 0) ∧ M' = M)) := by
  have i1 := hi.1
  refine zX_of pl_RX11 [some (zn 55), some (zi x), some (zi y)] 0 rfl rfl ?_
  refine x_iload_n 1 rfl dX11_isTerm_0 1 rfl rfl ?_
  refine x_tsC (0) 28 0 dX11_isTerm_1 (by decide) (by decide) (by decide) rfl (by decide) (fun c1 => ?_) (fun c1_0 => ?_)
  · refine x_iload_n 29 rfl dX11_isTerm_28 2 rfl rfl ?_
    refine x_iconst 30 rfl dX11_isTerm_29 (by decide) ?_
    refine x_bipush 32 rfl dX11_isTerm_30 (by decide) ?_
    refine x_cSi 35 rfl lX11_90 dX11_isTerm_32 c_X11_lies rfl rfl (Nat.le_of_ble_eq_true rfl) (fun r M1 hr1 => ?_)
    obtain ⟨rfl, hM1⟩ := hr1
    rw [hM1]
    refine x_retz dX11_isTerm_35 rfl (by omega) ?_
    refine ⟨?_, rfl⟩
    split <;> split <;> omega
  refine x_tsC (1) 36 1 dX11_isTerm_1 (by decide) (by decide) (by decide) rfl (by decide) (fun c1 => ?_) (fun c1_1 => ?_)
  · refine x_iload_n 37 rfl dX11_isTerm_36 2 rfl rfl ?_
    refine x_iconst 38 rfl dX11_isTerm_37 (by decide) ?_
    refine x_aload_n 39 rfl dX11_isTerm_38 0 rfl rfl ?_
    refine x_getr 42 rfl fX11_24 dX11_isTerm_39 (lyl55 hL) (lys55 hL) (by decide) (57) rfl ?_
    refine x_iconst 43 rfl dX11_isTerm_42 (by decide) ?_
    refine x_ialk 44 rfl dX11_isTerm_43 (lyl57 hL) (lys57 hL) 0 rfl (by decide) ?_
    refine x_cSi 47 rfl lX11_136 dX11_isTerm_44 c_X11_greater rfl rfl (Nat.le_of_ble_eq_true rfl) (fun r M1 hr1 => ?_)
    obtain ⟨rfl, hM1⟩ := hr1
    rw [hM1]
    refine x_sipush 50 rfl dX11_isTerm_47 (by decide) ?_
    refine x_cSi 53 rfl lX11_90 dX11_isTerm_50 c_X11_lies rfl rfl (Nat.le_of_ble_eq_true rfl) (fun r M1 hr1 => ?_)
    obtain ⟨rfl, hM1⟩ := hr1
    rw [hM1]
    refine x_retz dX11_isTerm_53 rfl (by omega) ?_
    refine ⟨?_, rfl⟩
    split <;> split <;> omega
  refine x_tsC (2) 54 2 dX11_isTerm_1 (by decide) (by decide) (by decide) rfl (by decide) (fun c1 => ?_) (fun c1_2 => ?_)
  · refine x_iload_n 55 rfl dX11_isTerm_54 2 rfl rfl ?_
    refine x_iconst 56 rfl dX11_isTerm_55 (by decide) ?_
    refine x_bipush 58 rfl dX11_isTerm_56 (by decide) ?_
    refine x_cSi 61 rfl lX11_90 dX11_isTerm_58 c_X11_lies rfl rfl (Nat.le_of_ble_eq_true rfl) (fun r M1 hr1 => ?_)
    obtain ⟨rfl, hM1⟩ := hr1
    rw [hM1]
    refine x_retz dX11_isTerm_61 rfl (by omega) ?_
    refine ⟨?_, rfl⟩
    split <;> split <;> omega
  refine x_tsOut 62 dX11_isTerm_1 (by omega) (by decide) ?_
  refine x_iconst 63 rfl dX11_isTerm_62 (by decide) ?_
  refine x_retz dX11_isTerm_63 rfl (by omega) ?_
  refine ⟨?_, rfl⟩
  split <;> omega

def tix (x : Int) : Nat := if x = 0 then 2 else 72 + x.toNat

set_option maxRecDepth 100000 in
set_option maxHeartbeats 4000000 in
theorem c_X11_terms {d sz : Nat} {S : zSh} {M : zMem} (hL : LY S sz) (hi : KI (M 57)) (hr : ∀ i, i < 7 → 0 ≤ M 56 i ∧ M 56 i ≤ 1000000) {x y : Int} : zX (d + 2) 0 0 mX11_terms [zn 55, zi x, zi y] sz S M (zI sz S (fun r M' => (¬ ((x = 0 ∧ 0 ≤ y ∧ y ≤ 71) ∨ (x = 1 ∧ 1 ≤ y ∧ M 57 0 ≤ y ∧ y ≤ 999) ∨ (x = 2 ∧ 0 ≤ y ∧ y ≤ 9)) ∧ r = -1 ∧ M' = zRef M (-1)) ∨ (((x = 0 ∧ 0 ≤ y ∧ y ≤ 71) ∨ (x = 1 ∧ 1 ≤ y ∧ M 57 0 ≤ y ∧ y ≤ 999) ∨ (x = 2 ∧ 0 ≤ y ∧ y ≤ 9)) ∧ r = M 57 (tix x) ∧ M' = zSet M (ku (M 57) (tix x) y)))) := by
  have i1 := hi.1
  refine zX_of pl_RX11 [some (zn 55), some (zi x), some (zi y), none, none] 2 rfl rfl ?_
  refine x_aload_n 1 rfl dX11_terms_0 0 rfl rfl ?_
  refine x_iload_n 2 rfl dX11_terms_1 1 rfl rfl ?_
  refine x_iload_n 3 rfl dX11_terms_2 2 rfl rfl ?_
  refine x_cVi 6 rfl lX11_139 dX11_terms_3 (lyl55 hL) (lys55 hL) (c_X11_isTerm hL hi) rfl rfl (Nat.le_of_ble_eq_true rfl) (fun r M1 hr1 => ?_)
  obtain ⟨rfl, hM1⟩ := hr1
  rw [hM1]
  refine x_if_ne 9 15 rfl dX11_terms_6 (by decide) (fun c6 => ?_) (fun c6 => ?_)
  · have hb : ((x = 0 ∧ 0 ≤ y ∧ y ≤ 71) ∨ (x = 1 ∧ 1 ≤ y ∧ M 57 0 ≤ y ∧ y ≤ 999) ∨ (x = 2 ∧ 0 ≤ y ∧ y ≤ 9)) := by split at c6 <;> omega
    refine x_iload_n 16 rfl dX11_terms_15 1 rfl rfl ?_
    refine x_if_ne 19 23 rfl dX11_terms_16 (by decide) (fun c16 => ?_) (fun c16 => ?_)
    · refine x_bipush 25 rfl dX11_terms_23 (by decide) ?_
      refine x_iload_n 26 rfl dX11_terms_25 1 rfl rfl ?_
      refine y_iadd 27 rfl dX11_terms_26 (by omega) ?_
      refine x_iconst 28 rfl dX11_terms_27 (by decide) ?_
      refine y_isub 29 rfl dX11_terms_28 (by omega) ?_
      refine y_istore_n 30 rfl dX11_terms_29 rfl rfl (ls' := [_, _, _, _, _]) rfl (by decide) ?_
      refine x_aload_n 31 rfl dX11_terms_30 0 rfl rfl ?_
      refine x_getr 34 rfl fX11_24 dX11_terms_31 (lyl55 hL) (lys55 hL) (by decide) (57) rfl ?_
      refine x_iload_n 35 rfl dX11_terms_34 3 rfl rfl ?_
      refine x_iald 36 rfl dX11_terms_35 (lyl57 hL) (lys57 hL) (by omega) (by omega) ?_
      try simp (disch := omega) only [z_up_ne, z_up_nk, z_up_eq, z_mup_ne, z_mup_eq, Int.reduceToNat, Int.toNat_natCast]
      refine y_istore 38 rfl dX11_terms_36 rfl (ls' := [_, _, _, _, _]) rfl (by decide) ?_
      refine x_aload_n 39 rfl dX11_terms_38 0 rfl rfl ?_
      refine x_getr 42 rfl fX11_24 dX11_terms_39 (lyl55 hL) (lys55 hL) (by decide) (57) rfl ?_
      refine x_iload_n 43 rfl dX11_terms_42 3 rfl rfl ?_
      refine x_iload_n 44 rfl dX11_terms_43 2 rfl rfl ?_
      refine x_iast 45 rfl dX11_terms_44 (lyl57 hL) (lys57 hL) (by omega) (by omega) ?_
      refine x_aload_n 46 rfl dX11_terms_45 0 rfl rfl ?_
      refine x_iload 48 rfl dX11_terms_46 rfl ?_
      refine x_cVi 51 rfl lX11_97 dX11_terms_48 (lyl55 hL) (lys55 hL) (c_X11_settled hL) rfl rfl (Nat.le_of_ble_eq_true rfl) (fun r M1 hr1 => ?_)
      obtain ⟨rfl, hM1⟩ := hr1
      rw [hM1]
      refine x_reti dX11_terms_51 rfl ?_
      right
      have e : tix x = 2 ∨ tix x = (73 + x - 1).toNat := by unfold tix; split <;> omega
      first
        | have e : tix x = 2 := by unfold tix; rw [if_pos (by omega)]
          refine ⟨hb, by rw [e]; try rfl, ?_⟩
          rw [e]; unfold zSet; rw [← z_upm]; try rfl
        | have e : tix x = (73 + x - 1).toNat := by unfold tix; rw [if_neg (by omega)]; omega
          refine ⟨hb, by rw [e], ?_⟩
          rw [e]; unfold zSet; rw [← z_upm]
    · refine x_iconst 20 rfl dX11_terms_19 (by decide) ?_
      refine x_goto 29 dX11_terms_20 (by decide) ?_
      refine y_istore_n 30 rfl dX11_terms_29 rfl rfl (ls' := [_, _, _, _, _]) rfl (by decide) ?_
      refine x_aload_n 31 rfl dX11_terms_30 0 rfl rfl ?_
      refine x_getr 34 rfl fX11_24 dX11_terms_31 (lyl55 hL) (lys55 hL) (by decide) (57) rfl ?_
      refine x_iload_n 35 rfl dX11_terms_34 3 rfl rfl ?_
      refine x_iald 36 rfl dX11_terms_35 (lyl57 hL) (lys57 hL) (by omega) (by omega) ?_
      try simp (disch := omega) only [z_up_ne, z_up_nk, z_up_eq, z_mup_ne, z_mup_eq, Int.reduceToNat, Int.toNat_natCast]
      refine y_istore 38 rfl dX11_terms_36 rfl (ls' := [_, _, _, _, _]) rfl (by decide) ?_
      refine x_aload_n 39 rfl dX11_terms_38 0 rfl rfl ?_
      refine x_getr 42 rfl fX11_24 dX11_terms_39 (lyl55 hL) (lys55 hL) (by decide) (57) rfl ?_
      refine x_iload_n 43 rfl dX11_terms_42 3 rfl rfl ?_
      refine x_iload_n 44 rfl dX11_terms_43 2 rfl rfl ?_
      refine x_iast 45 rfl dX11_terms_44 (lyl57 hL) (lys57 hL) (by omega) (by omega) ?_
      refine x_aload_n 46 rfl dX11_terms_45 0 rfl rfl ?_
      refine x_iload 48 rfl dX11_terms_46 rfl ?_
      refine x_cVi 51 rfl lX11_97 dX11_terms_48 (lyl55 hL) (lys55 hL) (c_X11_settled hL) rfl rfl (Nat.le_of_ble_eq_true rfl) (fun r M1 hr1 => ?_)
      obtain ⟨rfl, hM1⟩ := hr1
      rw [hM1]
      refine x_reti dX11_terms_51 rfl ?_
      right
      have e : tix x = 2 ∨ tix x = (73 + x - 1).toNat := by unfold tix; split <;> omega
      first
        | have e : tix x = 2 := by unfold tix; rw [if_pos (by omega)]
          refine ⟨hb, by rw [e]; try rfl, ?_⟩
          rw [e]; unfold zSet; rw [← z_upm]; try rfl
        | have e : tix x = (73 + x - 1).toNat := by unfold tix; rw [if_neg (by omega)]; omega
          refine ⟨hb, by rw [e], ?_⟩
          rw [e]; unfold zSet; rw [← z_upm]
  · refine x_aload_n 10 rfl dX11_terms_9 0 rfl rfl ?_
    refine x_iconst 11 rfl dX11_terms_10 (by decide) ?_
    refine x_cVi 14 rfl lX11_94 dX11_terms_11 (lyl55 hL) (lys55 hL) (c_X11_refuses hL hr (x := -1) (by decide)) rfl rfl (Nat.le_of_ble_eq_true rfl) (fun r M1 hr1 => ?_)
    obtain ⟨rfl, hM1⟩ := hr1
    rw [hM1]
    refine x_reti dX11_terms_14 rfl ?_
    left
    refine ⟨?_, rfl, rfl⟩
    split at c6 <;> omega

set_option maxRecDepth 100000 in
set_option maxHeartbeats 4000000 in
theorem c_X11_spray {d sz : Nat} {S : zSh} {M : zMem} (hL : LY S sz)  : zX d 0 0 mX11_spray [zn 55] sz S M (zI sz S (fun r M' => r = M 55 6 ∧ M' = M)) := by
  refine zX_of pl_RX11 [some (zn 55)] 0 rfl rfl ?_
  refine x_aload_n 1 rfl dX11_spray_0 0 rfl rfl ?_
  refine x_geti 4 rfl fX11_146 dX11_spray_1 (lyl55 hL) (lys55 hL) (by decide) ?_
  refine x_reti dX11_spray_4 rfl ?_
  exact ⟨rfl, rfl⟩

set_option maxRecDepth 100000 in
set_option maxHeartbeats 4000000 in
theorem c_X11_fault {d sz : Nat} {S : zSh} {M : zMem} (hL : LY S sz)  : zX d 0 0 mX11_fault [zn 55] sz S M (zI sz S (fun r M' => r = M 55 14 ∧ M' = M)) := by
  refine zX_of pl_RX11 [some (zn 55)] 0 rfl rfl ?_
  refine x_aload_n 1 rfl dX11_fault_0 0 rfl rfl ?_
  refine x_geti 4 rfl fX11_47 dX11_fault_1 (lyl55 hL) (lys55 hL) (by decide) ?_
  refine x_reti dX11_fault_4 rfl ?_
  exact ⟨rfl, rfl⟩

set_option maxRecDepth 100000 in
set_option maxHeartbeats 4000000 in
theorem c_X11_stopped {d sz : Nat} {S : zSh} {M : zMem} (hL : LY S sz)  : zX d 0 0 mX11_stopped [zn 55] sz S M (zI sz S (fun r M' => r = M 55 35 ∧ M' = M)) := by
  refine zX_of pl_RX11 [some (zn 55)] 0 rfl rfl ?_
  refine x_aload_n 1 rfl dX11_stopped_0 0 rfl rfl ?_
  refine x_geti 4 rfl fX11_78 dX11_stopped_1 (lyl55 hL) (lys55 hL) (by decide) ?_
  refine x_reti dX11_stopped_4 rfl ?_
  exact ⟨rfl, rfl⟩

set_option maxRecDepth 100000 in
set_option maxHeartbeats 4000000 in
theorem c_X11_status {d sz : Nat} {S : zSh} {M : zMem} (hL : LY S sz)  : zX d 0 0 mX11_status [zn 55] sz S M (zI sz S (fun r M' => r = M 55 0 ∧ M' = M)) := by
  refine zX_of pl_RX11 [some (zn 55)] 0 rfl rfl ?_
  refine x_aload_n 1 rfl dX11_status_0 0 rfl rfl ?_
  refine x_geti 4 rfl fX11_3 dX11_status_1 (lyl55 hL) (lys55 hL) (by decide) ?_
  refine x_reti dX11_status_4 rfl ?_
  exact ⟨rfl, rfl⟩

set_option maxRecDepth 100000 in
set_option maxHeartbeats 4000000 in
theorem c_X11_end {d sz : Nat} {S : zSh} {M : zMem} (hL : LY S sz) {x : Int} : zX (d + 1) 0 0 mX11_end [zn 55, zi x] sz S M (zI sz S (fun r M' => (¬ (0 ≤ x ∧ x ≤ M 55 13) ∧ r = -1 ∧ M' = M) ∨ ((0 ≤ x ∧ x ≤ M 55 13) ∧ r = x ∧ M' = z_up M 55 13 x))) := by
  refine zX_of pl_RX11 [some (zn 55), some (zi x)] 0 rfl rfl ?_
  refine x_iload_n 1 rfl dX11_end_0 1 rfl rfl ?_
  refine x_iconst 2 rfl dX11_end_1 (by decide) ?_
  refine x_aload_n 3 rfl dX11_end_2 0 rfl rfl ?_
  refine x_geti 6 rfl fX11_143 dX11_end_3 (lyl55 hL) (lys55 hL) (by decide) ?_
  refine x_cSi 9 rfl lX11_90 dX11_end_6 c_X11_lies rfl rfl (Nat.le_of_ble_eq_true rfl) (fun r M1 hr1 => ?_)
  obtain ⟨rfl, hM1⟩ := hr1
  rw [hM1]
  refine x_if_ne 12 14 rfl dX11_end_9 (by decide) (fun c9 => ?_) (fun c9 => ?_)
  · refine x_aload_n 15 rfl dX11_end_14 0 rfl rfl ?_
    refine x_iload_n 16 rfl dX11_end_15 1 rfl rfl ?_
    refine x_puti 19 rfl fX11_143 dX11_end_16 (lyl55 hL) (lys55 hL) (by decide) ?_
    refine x_iload_n 20 rfl dX11_end_19 1 rfl rfl ?_
    refine x_reti dX11_end_20 rfl ?_
    right
    exact ⟨by split at c9 <;> omega, rfl, rfl⟩
  · refine x_iconst 13 rfl dX11_end_12 (by decide) ?_
    refine x_reti dX11_end_13 rfl ?_
    left
    exact ⟨by split at c9 <;> omega, rfl, rfl⟩

set_option maxRecDepth 100000 in
set_option maxHeartbeats 4000000 in
theorem c_X11_force {d sz : Nat} {S : zSh} {M : zMem} (hL : LY S sz) (hi : KI (M 57)) (hr : ∀ i, i < 7 → 0 ≤ M 56 i ∧ M 56 i ≤ 1000000) {x : Int} : zX (d + 1) 0 0 mX11_force [zn 55, zi x] sz S M (zI sz S (fun r M' => (¬ (-1 ≤ x ∧ x < M 57 78) ∧ r = -2 ∧ M' = zRef M (-2)) ∨ ((-1 ≤ x ∧ x < M 57 78) ∧ r = M 57 79 ∧ M' = z_up (z_mup M 57 (ku (M 57) 79 x)) 55 0 0))) := by
  have i1 := hi.1
  refine zX_of pl_RX11 [some (zn 55), some (zi x), none] 1 rfl rfl ?_
  refine x_iload_n 1 rfl dX11_force_0 1 rfl rfl ?_
  refine x_iconst 2 rfl dX11_force_1 (by decide) ?_
  refine x_aload_n 3 rfl dX11_force_2 0 rfl rfl ?_
  refine x_getr 6 rfl fX11_24 dX11_force_3 (lyl55 hL) (lys55 hL) (by decide) (57) rfl ?_
  refine x_bipush 8 rfl dX11_force_6 (by decide) ?_
  refine x_ialk 9 rfl dX11_force_8 (lyl57 hL) (lys57 hL) 78 rfl (by decide) ?_
  refine x_iconst 10 rfl dX11_force_9 (by decide) ?_
  refine y_isub 11 rfl dX11_force_10 (by omega) ?_
  refine x_cSi 14 rfl lX11_90 dX11_force_11 c_X11_lies rfl rfl (Nat.le_of_ble_eq_true rfl) (fun r M1 hr1 => ?_)
  obtain ⟨rfl, hM1⟩ := hr1
  rw [hM1]
  refine x_if_ne 17 24 rfl dX11_force_14 (by decide) (fun c14 => ?_) (fun c14 => ?_)
  · refine x_aload_n 25 rfl dX11_force_24 0 rfl rfl ?_
    refine x_getr 28 rfl fX11_24 dX11_force_25 (lyl55 hL) (lys55 hL) (by decide) (57) rfl ?_
    refine x_bipush 30 rfl dX11_force_28 (by decide) ?_
    refine x_ialk 31 rfl dX11_force_30 (lyl57 hL) (lys57 hL) 79 rfl (by decide) ?_
    refine y_istore_n 32 rfl dX11_force_31 rfl rfl (ls' := [_, _, _]) rfl (by decide) ?_
    refine x_aload_n 33 rfl dX11_force_32 0 rfl rfl ?_
    refine x_getr 36 rfl fX11_24 dX11_force_33 (lyl55 hL) (lys55 hL) (by decide) (57) rfl ?_
    refine x_bipush 38 rfl dX11_force_36 (by decide) ?_
    refine x_iload_n 39 rfl dX11_force_38 1 rfl rfl ?_
    refine x_iastk 40 rfl dX11_force_39 (lyl57 hL) (lys57 hL) 79 rfl (by decide) ?_
    refine x_aload_n 41 rfl dX11_force_40 0 rfl rfl ?_
    refine x_iload_n 42 rfl dX11_force_41 2 rfl rfl ?_
    refine x_cVi 45 rfl lX11_14 dX11_force_42 (lyl55 hL) (lys55 hL) (c_X11_good hL) rfl rfl (Nat.le_of_ble_eq_true rfl) (fun r M1 hr1 => ?_)
    obtain ⟨rfl, hM1⟩ := hr1
    rw [hM1]
    refine x_reti dX11_force_45 rfl ?_
    right
    refine ⟨by split at c14 <;> omega, rfl, ?_⟩
    rw [← z_upm]
  · refine x_aload_n 18 rfl dX11_force_17 0 rfl rfl ?_
    refine x_bipush 20 rfl dX11_force_18 (by decide) ?_
    refine x_cVi 23 rfl lX11_94 dX11_force_20 (lyl55 hL) (lys55 hL) (c_X11_refuses hL hr (x := -2) (by decide)) rfl rfl (Nat.le_of_ble_eq_true rfl) (fun r M1 hr1 => ?_)
    obtain ⟨rfl, hM1⟩ := hr1
    rw [hM1]
    refine x_reti dX11_force_23 rfl ?_
    left
    exact ⟨by split at c14 <;> omega, rfl, rfl⟩

set_option maxRecDepth 100000 in
set_option maxHeartbeats 4000000 in
theorem c_X11_word {d sz : Nat} {S : zSh} {M : zMem} (hL : LY S sz) (hi : KI (M 57)) (hr : ∀ i, i < 7 → 0 ≤ M 56 i ∧ M 56 i ≤ 1000000) {x y : Int} : zX (d + 2) 0 0 mX11_word [zn 55, zi x, zi y] sz S M (zI sz S (fun r M' => (¬ (0 ≤ y ∧ y ≤ 999999) ∧ r = -1 ∧ M' = zRef M (-1)) ∨ ((0 ≤ y ∧ y ≤ 999999) ∧ ¬ (0 ≤ x ∧ x < M 57 75) ∧ r = -2 ∧ M' = zRef M (-2)) ∨ ((0 ≤ y ∧ y ≤ 999999) ∧ (0 ≤ x ∧ x < M 57 75) ∧ M 57 77 = 8 ∧ r = -5 ∧ M' = zRef M (-5)) ∨ ((0 ≤ y ∧ y ≤ 999999) ∧ (0 ≤ x ∧ x < M 57 75) ∧ M 57 77 < 8 ∧ r = M 57 77 + 1 ∧ M' = z_up (z_mup M 57 (kWord (M 57) x y)) 55 0 0))) := by
  have i1 := hi.1
  refine zX_of pl_RX11 [some (zn 55), some (zi x), some (zi y), none] 1 rfl rfl ?_
  refine x_iload_n 1 rfl dX11_word_0 2 rfl rfl ?_
  refine x_iconst 2 rfl dX11_word_1 (by decide) ?_
  refine x_ldc_w (x := 999999) 5 rfl kX11_343 (by decide) dX11_word_2 ?_
  refine x_cSi 8 rfl lX11_90 dX11_word_5 c_X11_lies rfl rfl (Nat.le_of_ble_eq_true rfl) (fun r M1 hr1 => ?_)
  obtain ⟨rfl, hM1⟩ := hr1
  rw [hM1]
  refine x_if_ne 11 17 rfl dX11_word_8 (by decide) (fun c8 => ?_) (fun c8 => ?_)
  · refine x_aload_n 18 rfl dX11_word_17 0 rfl rfl ?_
    refine x_iload_n 19 rfl dX11_word_18 1 rfl rfl ?_
    refine x_cVi 22 rfl lX11_100 dX11_word_19 (lyl55 hL) (lys55 hL) (c_X11_isHand hL hi) rfl rfl (Nat.le_of_ble_eq_true rfl) (fun r M1 hr1 => ?_)
    obtain ⟨rfl, hM1⟩ := hr1
    rw [hM1]
    refine x_if_ne 25 32 rfl dX11_word_22 (by decide) (fun c22 => ?_) (fun c22 => ?_)
    · refine x_aload_n 33 rfl dX11_word_32 0 rfl rfl ?_
      refine x_getr 36 rfl fX11_24 dX11_word_33 (lyl55 hL) (lys55 hL) (by decide) (57) rfl ?_
      refine x_bipush 38 rfl dX11_word_36 (by decide) ?_
      refine x_ialk 39 rfl dX11_word_38 (lyl57 hL) (lys57 hL) 77 rfl (by decide) ?_
      try simp (disch := omega) only [z_up_ne, z_up_nk, z_up_eq, z_mup_ne, z_mup_eq, Int.reduceToNat, Int.toNat_natCast]
      refine y_istore_n 40 rfl dX11_word_39 rfl rfl (ls' := [_, _, _, _]) rfl (by decide) ?_
      refine x_iload_n 41 rfl dX11_word_40 3 rfl rfl ?_
      refine x_bipush 43 rfl dX11_word_41 (by decide) ?_
      refine x_icmp_ne 46 53 rfl dX11_word_43 (by decide) (fun c43 => ?_) (fun c43 => ?_)
      · refine x_aload_n 54 rfl dX11_word_53 0 rfl rfl ?_
        refine x_getr 57 rfl fX11_24 dX11_word_54 (lyl55 hL) (lys55 hL) (by decide) (57) rfl ?_
        refine x_bipush 59 rfl dX11_word_57 (by decide) ?_
        refine x_iconst 60 rfl dX11_word_59 (by decide) ?_
        refine x_iload_n 61 rfl dX11_word_60 3 rfl rfl ?_
        refine y_imul 62 rfl dX11_word_61 (by omega) ?_
        refine y_iadd 63 rfl dX11_word_62 (by omega) ?_
        refine x_iload_n 64 rfl dX11_word_63 1 rfl rfl ?_
        refine x_iast 65 rfl dX11_word_64 (lyl57 hL) (lys57 hL) (by omega) (by omega) ?_
        refine x_aload_n 66 rfl dX11_word_65 0 rfl rfl ?_
        refine x_getr 69 rfl fX11_24 dX11_word_66 (lyl55 hL) (lys55 hL) (by decide) (57) rfl ?_
        refine x_bipush 71 rfl dX11_word_69 (by decide) ?_
        refine x_iconst 72 rfl dX11_word_71 (by decide) ?_
        refine x_iload_n 73 rfl dX11_word_72 3 rfl rfl ?_
        refine y_imul 74 rfl dX11_word_73 (by omega) ?_
        refine y_iadd 75 rfl dX11_word_74 (by omega) ?_
        refine x_iconst 76 rfl dX11_word_75 (by decide) ?_
        refine y_iadd 77 rfl dX11_word_76 (by omega) ?_
        refine x_iload_n 78 rfl dX11_word_77 2 rfl rfl ?_
        refine x_iast 79 rfl dX11_word_78 (lyl57 hL) (lys57 hL) (by omega) (by omega) ?_
        refine x_aload_n 80 rfl dX11_word_79 0 rfl rfl ?_
        refine x_getr 83 rfl fX11_24 dX11_word_80 (lyl55 hL) (lys55 hL) (by decide) (57) rfl ?_
        refine x_bipush 85 rfl dX11_word_83 (by decide) ?_
        refine x_dup2ir 86 rfl dX11_word_85 ?_
        refine x_ialk 87 rfl dX11_word_86 (lyl57 hL) (lys57 hL) 77 rfl (by decide) ?_
        try simp (disch := omega) only [z_up_ne, z_up_nk, z_up_eq, z_mup_ne, z_mup_eq, Int.reduceToNat, Int.toNat_natCast]
        refine x_iconst 88 rfl dX11_word_87 (by decide) ?_
        refine y_iadd 89 rfl dX11_word_88 (by omega) ?_
        refine x_iastk 90 rfl dX11_word_89 (lyl57 hL) (lys57 hL) 77 rfl (by decide) ?_
        refine x_aload_n 91 rfl dX11_word_90 0 rfl rfl ?_
        refine x_iload_n 92 rfl dX11_word_91 3 rfl rfl ?_
        refine x_iconst 93 rfl dX11_word_92 (by decide) ?_
        refine y_iadd 94 rfl dX11_word_93 (by omega) ?_
        refine x_cVi 97 rfl lX11_14 dX11_word_94 (lyl55 hL) (lys55 hL) (c_X11_good hL) rfl rfl (Nat.le_of_ble_eq_true rfl) (fun r M1 hr1 => ?_)
        obtain ⟨rfl, hM1⟩ := hr1
        rw [hM1]
        refine x_reti dX11_word_97 rfl ?_
        right; right; right
        refine ⟨by split at c8 <;> omega, by split at c22 <;> omega, by omega, rfl, ?_⟩
        rw [← kWord_eq _ _ _ (by omega)]
        simp only [← z_mupm, z_mup_self]
      · refine x_aload_n 47 rfl dX11_word_46 0 rfl rfl ?_
        refine x_bipush 49 rfl dX11_word_47 (by decide) ?_
        refine x_cVi 52 rfl lX11_94 dX11_word_49 (lyl55 hL) (lys55 hL) (c_X11_refuses hL hr (x := -5) (by decide)) rfl rfl (Nat.le_of_ble_eq_true rfl) (fun r M1 hr1 => ?_)
        obtain ⟨rfl, hM1⟩ := hr1
        rw [hM1]
        refine x_reti dX11_word_52 rfl ?_
        right; right; left
        exact ⟨by split at c8 <;> omega, by split at c22 <;> omega, by omega, rfl, rfl⟩
    · refine x_aload_n 26 rfl dX11_word_25 0 rfl rfl ?_
      refine x_bipush 28 rfl dX11_word_26 (by decide) ?_
      refine x_cVi 31 rfl lX11_94 dX11_word_28 (lyl55 hL) (lys55 hL) (c_X11_refuses hL hr (x := -2) (by decide)) rfl rfl (Nat.le_of_ble_eq_true rfl) (fun r M1 hr1 => ?_)
      obtain ⟨rfl, hM1⟩ := hr1
      rw [hM1]
      refine x_reti dX11_word_31 rfl ?_
      right; left
      exact ⟨by split at c8 <;> omega, by split at c22 <;> omega, rfl, rfl⟩
  · refine x_aload_n 12 rfl dX11_word_11 0 rfl rfl ?_
    refine x_iconst 13 rfl dX11_word_12 (by decide) ?_
    refine x_cVi 16 rfl lX11_94 dX11_word_13 (lyl55 hL) (lys55 hL) (c_X11_refuses hL hr (x := -1) (by decide)) rfl rfl (Nat.le_of_ble_eq_true rfl) (fun r M1 hr1 => ?_)
    obtain ⟨rfl, hM1⟩ := hr1
    rw [hM1]
    refine x_reti dX11_word_16 rfl ?_
    left
    exact ⟨by split at c8 <;> omega, rfl, rfl⟩

set_option maxRecDepth 100000 in
set_option maxHeartbeats 4000000 in
theorem c_X11_forget {d sz : Nat} {S : zSh} {M : zMem} (hL : LY S sz)  : zX d 0 0 mX11_forget [zn 55] sz S M (zI sz S (fun r M' => r = M 57 77 ∧ M' = z_mup M 57 (ku (M 57) 77 0))) := by
  refine zX_of pl_RX11 [some (zn 55), none] 1 rfl rfl ?_
  refine x_aload_n 1 rfl dX11_forget_0 0 rfl rfl ?_
  refine x_getr 4 rfl fX11_24 dX11_forget_1 (lyl55 hL) (lys55 hL) (by decide) (57) rfl ?_
  refine x_bipush 6 rfl dX11_forget_4 (by decide) ?_
  refine x_ialk 7 rfl dX11_forget_6 (lyl57 hL) (lys57 hL) 77 rfl (by decide) ?_
  refine y_istore_n 8 rfl dX11_forget_7 rfl rfl (ls' := [_, _]) rfl (by decide) ?_
  refine x_aload_n 9 rfl dX11_forget_8 0 rfl rfl ?_
  refine x_getr 12 rfl fX11_24 dX11_forget_9 (lyl55 hL) (lys55 hL) (by decide) (57) rfl ?_
  refine x_bipush 14 rfl dX11_forget_12 (by decide) ?_
  refine x_iconst 15 rfl dX11_forget_14 (by decide) ?_
  refine x_iastk 16 rfl dX11_forget_15 (lyl57 hL) (lys57 hL) 77 rfl (by decide) ?_
  refine x_iload_n 17 rfl dX11_forget_16 1 rfl rfl ?_
  refine x_reti dX11_forget_17 rfl ?_
  exact ⟨rfl, by rw [← z_upm]⟩

set_option maxRecDepth 100000 in
set_option maxHeartbeats 4000000 in
theorem c_X11_canSail {d sz : Nat} {S : zSh} {M : zMem} (hL : LY S sz) (hi : KI (M 57))  : zX (d + 1) 0 0 mX11_canSail [zn 55] sz S M (zI sz S (fun r M' => r = (if 0 < zcrew (M 57) ∧ M 57 2 < 71 then 1 else 0) ∧ M' = M)) := by
  have i1 := hi.1
  refine zX_of pl_RX11 [some (zn 55)] 0 rfl rfl ?_
  refine x_aload_n 1 rfl dX11_canSail_0 0 rfl rfl ?_
  refine x_cVi 4 rfl lX11_108 dX11_canSail_1 (lyl55 hL) (lys55 hL) (c_X11_crewNow hL hi) rfl rfl (Nat.le_of_ble_eq_true rfl) (fun r M1 hr1 => ?_)
  obtain ⟨rfl, hM1⟩ := hr1
  rw [hM1]
  refine x_if_le 7 22 rfl dX11_canSail_4 (by decide) (fun c4 => ?_) (fun c4 => ?_)
  · refine x_iconst 23 rfl dX11_canSail_22 (by decide) ?_
    refine x_retz dX11_canSail_23 rfl (by omega) ?_
    refine ⟨?_, rfl⟩
    split <;> omega
  · refine x_aload_n 8 rfl dX11_canSail_7 0 rfl rfl ?_
    refine x_getr 11 rfl fX11_24 dX11_canSail_8 (lyl55 hL) (lys55 hL) (by decide) (57) rfl ?_
    refine x_iconst 12 rfl dX11_canSail_11 (by decide) ?_
    refine x_ialk 13 rfl dX11_canSail_12 (lyl57 hL) (lys57 hL) 2 rfl (by decide) ?_
    refine x_bipush 15 rfl dX11_canSail_13 (by decide) ?_
    refine x_icmp_ge 18 22 rfl dX11_canSail_15 (by decide) (fun c15 => ?_) (fun c15 => ?_)
    · refine x_iconst 23 rfl dX11_canSail_22 (by decide) ?_
      refine x_retz dX11_canSail_23 rfl (by omega) ?_
      refine ⟨?_, rfl⟩
      split <;> omega
    · refine x_iconst 19 rfl dX11_canSail_18 (by decide) ?_
      refine x_goto 23 dX11_canSail_19 (by decide) ?_
      refine x_retz dX11_canSail_23 rfl (by omega) ?_
      refine ⟨?_, rfl⟩
      split <;> omega

set_option maxRecDepth 100000 in
set_option maxHeartbeats 4000000 in
theorem c_X11_goodOr {d sz : Nat} {S : zSh} {M : zMem} (hL : LY S sz) (hr : ∀ i, i < 7 → 0 ≤ M 56 i ∧ M 56 i ≤ 1000000) {x : Int} (hx : -6 ≤ x ∧ x ≤ 1000000) : zX (d + 1) 0 0 mX11_goodOr [zn 55, zi x] sz S M (zI sz S (fun r M' => r = x ∧ M' = (if x < 0 then zRef M x else z_up M 55 0 0))) := by
  refine zX_of pl_RX11 [some (zn 55), some (zi x)] 0 rfl rfl ?_
  refine x_iload_n 1 rfl dX11_goodOr_0 1 rfl rfl ?_
  refine x_if_ge 4 12 rfl dX11_goodOr_1 (by decide) (fun c1 => ?_) (fun c1 => ?_)
  · refine x_aload_n 13 rfl dX11_goodOr_12 0 rfl rfl ?_
    refine x_iload_n 14 rfl dX11_goodOr_13 1 rfl rfl ?_
    refine x_cVi 17 rfl lX11_14 dX11_goodOr_14 (lyl55 hL) (lys55 hL) (c_X11_good hL) rfl rfl (Nat.le_of_ble_eq_true rfl) (fun r M1 hr1 => ?_)
    obtain ⟨rfl, hM1⟩ := hr1
    rw [hM1]
    refine x_reti dX11_goodOr_17 rfl ?_
    refine ⟨rfl, ?_⟩
    first | (rw [if_pos (by omega)]; done) | (rw [if_neg (by omega)]; done)
  · refine x_aload_n 5 rfl dX11_goodOr_4 0 rfl rfl ?_
    refine x_iload_n 6 rfl dX11_goodOr_5 1 rfl rfl ?_
    refine x_cVi 9 rfl lX11_94 dX11_goodOr_6 (lyl55 hL) (lys55 hL) (c_X11_refuses hL hr (x := x) (by omega)) rfl rfl (Nat.le_of_ble_eq_true rfl) (fun r M1 hr1 => ?_)
    obtain ⟨rfl, hM1⟩ := hr1
    rw [hM1]
    refine x_goto 17 dX11_goodOr_9 (by decide) ?_
    refine x_reti dX11_goodOr_17 rfl ?_
    refine ⟨rfl, ?_⟩
    first | (rw [if_pos (by omega)]; done) | (rw [if_neg (by omega)]; done)
