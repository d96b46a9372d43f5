/-! at -/
def zat (Lw : List gC) (k : Nat → Int) (x w : Int) : Int := if 0 ≤ x ∧ x < k 76 then (if w = 0 then k (19 + x.toNat) else if 1 ≤ w ∧ w ≤ 3 then k (39 + 3 * x.toNat + (w.toNat - 1)) else if w = 4 then zcasks Lw k x.toNat (zcrew k) else -1) else -1
theorem zat_0 {Lw : List gC} {k : Nat → Int} {x w : Int} (h : ¬ (0 ≤ x ∧ x < k 76)) : zat Lw k x w = -1 := by
  unfold zat
  rw [if_neg h]
theorem zat_1 {Lw : List gC} {k : Nat → Int} {x w : Int} (h : 0 ≤ x ∧ x < k 76) (hw : w = 0) : zat Lw k x w = k (19 + x.toNat) := by
  unfold zat
  rw [if_pos h, if_pos hw]
theorem zat_2 {Lw : List gC} {k : Nat → Int} {x w : Int} (h : 0 ≤ x ∧ x < k 76) (hw : 1 ≤ w ∧ w ≤ 3) : zat Lw k x w = k (39 + 3 * x.toNat + (w.toNat - 1)) := by
  unfold zat
  rw [if_pos h, if_neg (by omega), if_pos hw]
theorem zat_4 {Lw : List gC} {k : Nat → Int} {x w : Int} (h : 0 ≤ x ∧ x < k 76) (hw : w = 4) : zat Lw k x w = zcasks Lw k x.toNat (zcrew k) := by
  unfold zat
  rw [if_pos h, if_neg (by omega), if_neg (by omega), if_pos hw]
theorem zat_9 {Lw : List gC} {k : Nat → Int} {x w : Int} (hw : w < 0 ∨ 4 < w) : zat Lw k x w = -1 := by
  unfold zat
  split
  · rw [if_neg (by omega), if_neg (by omega), if_neg (by omega)]
  · rfl

set_option maxRecDepth 100000 in
set_option maxHeartbeats 4000000 in
theorem c_X11_at {d sz : Nat} {S : zSh} {M : zMem} (hL : LY S sz) (hi : KI (M 57)) {Lw : List gC} (hLw : LwI (M 57) Lw) {x y : Int} : zX (d + 44) 0 0 mX11_at [zn 55, zi x, zi y] sz S M (zI sz S (fun r M' => r = zat Lw (M 57) x y ∧ mF M M')) := by
  have i1 := hi.1
  have i3 := zcrew_in hi
  refine zX_of pl_RX11 [some (zn 55), some (zi x), some (zi y)] 0 rfl rfl ?_
  refine x_aload_n 1 rfl dX11_at_0 0 rfl rfl ?_
  refine x_iload_n 2 rfl dX11_at_1 1 rfl rfl ?_
  refine x_cVi 5 rfl lX11_129 dX11_at_2 (lyl55 hL) (lys55 hL) (c_X11_isGround hL hi) rfl rfl (Nat.le_of_ble_eq_true rfl) (fun r1 M1 hr1 => ?_)
  obtain ⟨hr2, hM1⟩ := hr1
  rw [hM1]
  refine x_if_ne 8 10 rfl dX11_at_5 (by decide) (fun c5 => ?_) (fun c5 => ?_)
  · have hx : 0 ≤ x ∧ x < M 57 76 := Decidable.byContradiction (fun h9 => by rw [if_neg h9] at hr2; omega)
    refine x_iload_n 11 rfl dX11_at_10 2 rfl rfl ?_
    refine x_tsC (0) 44 0 dX11_at_11 (by decide) (by decide) (by decide) rfl (by decide) (fun c11 => ?_) (fun c11_0 => ?_)
    · refine x_aload_n 45 rfl dX11_at_44 0 rfl rfl ?_
      refine x_getr 48 rfl fX11_24 dX11_at_45 (lyl55 hL) (lys55 hL) (by decide) (57) rfl ?_
      refine x_bipush 50 rfl dX11_at_48 (by decide) ?_
      refine x_iload_n 51 rfl dX11_at_50 1 rfl rfl ?_
      refine y_iadd 52 rfl dX11_at_51 (by omega) ?_
      refine x_iald 53 rfl dX11_at_52 (lyl57 hL) (lys57 hL) (by omega) (by omega) ?_
      refine x_reti dX11_at_53 rfl ?_
      refine ⟨?_, mF_refl⟩
      rw [zat_1 hx (by omega), show ((19 : Int) + x).toNat = 19 + x.toNat by omega]
    refine x_tsC (1) 54 1 dX11_at_11 (by decide) (by decide) (by decide) rfl (by decide) (fun c11 => ?_) (fun c11_1 => ?_)
    · refine x_aload_n 55 rfl dX11_at_54 0 rfl rfl ?_
      refine x_getr 58 rfl fX11_24 dX11_at_55 (lyl55 hL) (lys55 hL) (by decide) (57) rfl ?_
      refine x_bipush 60 rfl dX11_at_58 (by decide) ?_
      refine x_iconst 61 rfl dX11_at_60 (by decide) ?_
      refine x_iload_n 62 rfl dX11_at_61 1 rfl rfl ?_
      refine y_imul 63 rfl dX11_at_62 (by omega) ?_
      refine y_iadd 64 rfl dX11_at_63 (by omega) ?_
      refine x_iload_n 65 rfl dX11_at_64 2 rfl rfl ?_
      refine y_iadd 66 rfl dX11_at_65 (by omega) ?_
      refine x_iconst 67 rfl dX11_at_66 (by decide) ?_
      refine y_isub 68 rfl dX11_at_67 (by omega) ?_
      refine x_iald 69 rfl dX11_at_68 (lyl57 hL) (lys57 hL) (by omega) (by omega) ?_
      refine x_reti dX11_at_69 rfl ?_
      refine ⟨?_, mF_refl⟩
      rw [zat_2 hx (by omega), show ((39 : Int) + 3 * x + y - 1).toNat = 39 + 3 * x.toNat + (y.toNat - 1) by omega]
    refine x_tsC (2) 54 2 dX11_at_11 (by decide) (by decide) (by decide) rfl (by decide) (fun c11 => ?_) (fun c11_2 => ?_)
    · refine x_aload_n 55 rfl dX11_at_54 0 rfl rfl ?_
      refine x_getr 58 rfl fX11_24 dX11_at_55 (lyl55 hL) (lys55 hL) (by decide) (57) rfl ?_
      refine x_bipush 60 rfl dX11_at_58 (by decide) ?_
      refine x_iconst 61 rfl dX11_at_60 (by decide) ?_
      refine x_iload_n 62 rfl dX11_at_61 1 rfl rfl ?_
      refine y_imul 63 rfl dX11_at_62 (by omega) ?_
      refine y_iadd 64 rfl dX11_at_63 (by omega) ?_
      refine x_iload_n 65 rfl dX11_at_64 2 rfl rfl ?_
      refine y_iadd 66 rfl dX11_at_65 (by omega) ?_
      refine x_iconst 67 rfl dX11_at_66 (by decide) ?_
      refine y_isub 68 rfl dX11_at_67 (by omega) ?_
      refine x_iald 69 rfl dX11_at_68 (lyl57 hL) (lys57 hL) (by omega) (by omega) ?_
      refine x_reti dX11_at_69 rfl ?_
      refine ⟨?_, mF_refl⟩
      rw [zat_2 hx (by omega), show ((39 : Int) + 3 * x + y - 1).toNat = 39 + 3 * x.toNat + (y.toNat - 1) by omega]
    refine x_tsC (3) 54 3 dX11_at_11 (by decide) (by decide) (by decide) rfl (by decide) (fun c11 => ?_) (fun c11_3 => ?_)
    · refine x_aload_n 55 rfl dX11_at_54 0 rfl rfl ?_
      refine x_getr 58 rfl fX11_24 dX11_at_55 (lyl55 hL) (lys55 hL) (by decide) (57) rfl ?_
      refine x_bipush 60 rfl dX11_at_58 (by decide) ?_
      refine x_iconst 61 rfl dX11_at_60 (by decide) ?_
      refine x_iload_n 62 rfl dX11_at_61 1 rfl rfl ?_
      refine y_imul 63 rfl dX11_at_62 (by omega) ?_
      refine y_iadd 64 rfl dX11_at_63 (by omega) ?_
      refine x_iload_n 65 rfl dX11_at_64 2 rfl rfl ?_
      refine y_iadd 66 rfl dX11_at_65 (by omega) ?_
      refine x_iconst 67 rfl dX11_at_66 (by decide) ?_
      refine y_isub 68 rfl dX11_at_67 (by omega) ?_
      refine x_iald 69 rfl dX11_at_68 (lyl57 hL) (lys57 hL) (by omega) (by omega) ?_
      refine x_reti dX11_at_69 rfl ?_
      refine ⟨?_, mF_refl⟩
      rw [zat_2 hx (by omega), show ((39 : Int) + 3 * x + y - 1).toNat = 39 + 3 * x.toNat + (y.toNat - 1) by omega]
    refine x_tsC (4) 70 4 dX11_at_11 (by decide) (by decide) (by decide) rfl (by decide) (fun c11 => ?_) (fun c11_4 => ?_)
    · refine x_aload_n 71 rfl dX11_at_70 0 rfl rfl ?_
      refine x_iload_n 72 rfl dX11_at_71 1 rfl rfl ?_
      refine x_aload_n 73 rfl dX11_at_72 0 rfl rfl ?_
      refine x_cVi 76 rfl lX11_108 dX11_at_73 (lyl55 hL) (lys55 hL) (c_X11_crewNow hL hi) rfl rfl (Nat.le_of_ble_eq_true rfl) (fun r3 M3 hr3 => ?_)
      obtain ⟨rfl, hM3⟩ := hr3
      rw [hM3]
      refine x_cVi 79 rfl lX11_132 dX11_at_76 (lyl55 hL) (lys55 hL) (c_X11_casksIn hL hi hLw (by omega) i3) rfl rfl (Nat.le_of_ble_eq_true rfl) (fun r4 M4 hr4 => ?_)
      obtain ⟨hr5, hm4⟩ := hr4
      refine x_reti dX11_at_79 rfl ?_
      exact ⟨by rw [hr5, zat_4 hx (by omega)], hm4⟩
    refine x_tsOut 80 dX11_at_11 (by omega) (by decide) ?_
    refine x_iconst 81 rfl dX11_at_80 (by decide) ?_
    refine x_reti dX11_at_81 rfl ?_
    exact ⟨by rw [zat_9 (by omega)], mF_refl⟩
  · refine x_iconst 9 rfl dX11_at_8 (by decide) ?_
    refine x_reti dX11_at_9 rfl ?_
    refine ⟨?_, mF_refl⟩
    rw [zat_0 (fun h9 => by rw [if_pos h9] at hr2; omega)]

set_option maxRecDepth 100000 in
set_option maxHeartbeats 4000000 in
theorem c_X10_at {d sz : Nat} {S : zSh} {M : zMem} (hL : LY S sz) {k : Nat → Int} (hs : SR M 1 k) (hi : KI k) {Lw : List gC} (hLw : LwC S sz M 1 k Lw) (hv : v42 M) {x y : Int} : zX (d + 4) 0 0 mX10_at [zn 0, zi x, zi y] sz S M (zI sz S (fun r M' => r = zat Lw k x y ∧ jF M M')) := by
  have i1 := hi.1
  have i3 := zcrew_in hi
  refine zX_of pl_RX10 [some (zn 0), some (zi x), some (zi y)] 0 rfl rfl ?_
  refine x_aload_n 1 rfl dX10_at_0 0 rfl rfl ?_
  refine x_getr 4 rfl fX10_10 dX10_at_1 (lyl0 hL) (lys0 hL) (by decide) (1) rfl ?_
  refine x_iload_n 5 rfl dX10_at_4 1 rfl rfl ?_
  refine x_cVi 8 rfl lX10_150 dX10_at_5 (lyl1 hL) (lys1 hL) (c_X7_hasGround (ly_sh1 hL) hs hi) rfl rfl (Nat.le_of_ble_eq_true rfl) (fun r1 M1 hr1 => ?_)
  obtain ⟨hr2, hM1⟩ := hr1
  rw [hM1]
  refine x_if_ne 11 13 rfl dX10_at_8 (by decide) (fun c8 => ?_) (fun c8 => ?_)
  · have hx : 0 ≤ x ∧ x < k 76 := Decidable.byContradiction (fun h9 => by rw [if_neg h9] at hr2; omega)
    have q4 : M 5 x.toNat = k (19 + x.toNat) := hs.2.2.2.2.2.1 x.toNat (by omega)
    refine x_iload_n 14 rfl dX10_at_13 2 rfl rfl ?_
    refine x_if_ne 17 27 rfl dX10_at_14 (by decide) (fun c14 => ?_) (fun c14 => ?_)
    · refine x_iload_n 28 rfl dX10_at_27 2 rfl rfl ?_
      refine x_iconst 29 rfl dX10_at_28 (by decide) ?_
      refine x_icmp_lt 32 47 rfl dX10_at_29 (by decide) (fun c29 => ?_) (fun c29 => ?_)
      · refine x_iload_n 48 rfl dX10_at_47 2 rfl rfl ?_
        refine x_iconst 49 rfl dX10_at_48 (by decide) ?_
        refine x_icmp_ne 52 74 rfl dX10_at_49 (by decide) (fun c49 => ?_) (fun c49 => ?_)
        · refine x_iconst 75 rfl dX10_at_74 (by decide) ?_
          refine x_reti dX10_at_75 rfl ?_
          exact ⟨by rw [zat_9 (by omega)], jF_refl hv⟩
        · refine x_aload_n 53 rfl dX10_at_52 0 rfl rfl ?_
          refine x_getr 56 rfl fX10_50 dX10_at_53 (lyl0 hL) (lys0 hL) (by decide) (39) rfl ?_
          refine x_aload_n 57 rfl dX10_at_56 0 rfl rfl ?_
          refine x_getr 60 rfl fX10_10 dX10_at_57 (lyl0 hL) (lys0 hL) (by decide) (1) rfl ?_
          refine x_iload_n 61 rfl dX10_at_60 1 rfl rfl ?_
          refine x_aload_n 62 rfl dX10_at_61 0 rfl rfl ?_
          refine x_getr 65 rfl fX10_10 dX10_at_62 (lyl0 hL) (lys0 hL) (by decide) (1) rfl ?_
          refine x_cVi 68 rfl lX10_128 dX10_at_65 (lyl1 hL) (lys1 hL) (c_X7_crewSize (ly_sh1 hL) hs hi) rfl rfl (Nat.le_of_ble_eq_true rfl) (fun r5 M5 hr5 => ?_)
          obtain ⟨rfl, hM5⟩ := hr5
          rw [hM5]
          refine x_cVi 71 rfl lX10_159 dX10_at_68 (lyl39 hL) (lys39 hL) (c_X1_casksOf hL (ly_sh1 hL) (by decide) hs hi hLw hv (by omega) i3) rfl rfl (Nat.le_of_ble_eq_true rfl) (fun r6 M6 hr6 => ?_)
          obtain ⟨hr7, hm6⟩ := hr6
          refine x_goto 75 dX10_at_71 (by decide) ?_
          refine x_reti dX10_at_75 rfl ?_
          exact ⟨by rw [hr7, zat_4 hx (by omega)], hm6⟩
      · refine x_iload_n 33 rfl dX10_at_32 2 rfl rfl ?_
        refine x_iconst 34 rfl dX10_at_33 (by decide) ?_
        refine x_icmp_gt 37 47 rfl dX10_at_34 (by decide) (fun c34 => ?_) (fun c34 => ?_)
        · refine x_iload_n 48 rfl dX10_at_47 2 rfl rfl ?_
          refine x_iconst 49 rfl dX10_at_48 (by decide) ?_
          refine x_icmp_ne 52 74 rfl dX10_at_49 (by decide) (fun c49 => ?_) (fun c49 => ?_)
          · refine x_iconst 75 rfl dX10_at_74 (by decide) ?_
            refine x_reti dX10_at_75 rfl ?_
            exact ⟨by rw [zat_9 (by omega)], jF_refl hv⟩
          · refine x_aload_n 53 rfl dX10_at_52 0 rfl rfl ?_
            refine x_getr 56 rfl fX10_50 dX10_at_53 (lyl0 hL) (lys0 hL) (by decide) (39) rfl ?_
            refine x_aload_n 57 rfl dX10_at_56 0 rfl rfl ?_
            refine x_getr 60 rfl fX10_10 dX10_at_57 (lyl0 hL) (lys0 hL) (by decide) (1) rfl ?_
            refine x_iload_n 61 rfl dX10_at_60 1 rfl rfl ?_
            refine x_aload_n 62 rfl dX10_at_61 0 rfl rfl ?_
            refine x_getr 65 rfl fX10_10 dX10_at_62 (lyl0 hL) (lys0 hL) (by decide) (1) rfl ?_
            refine x_cVi 68 rfl lX10_128 dX10_at_65 (lyl1 hL) (lys1 hL) (c_X7_crewSize (ly_sh1 hL) hs hi) rfl rfl (Nat.le_of_ble_eq_true rfl) (fun r5 M5 hr5 => ?_)
            obtain ⟨rfl, hM5⟩ := hr5
            rw [hM5]
            refine x_cVi 71 rfl lX10_159 dX10_at_68 (lyl39 hL) (lys39 hL) (c_X1_casksOf hL (ly_sh1 hL) (by decide) hs hi hLw hv (by omega) i3) rfl rfl (Nat.le_of_ble_eq_true rfl) (fun r6 M6 hr6 => ?_)
            obtain ⟨hr7, hm6⟩ := hr6
            refine x_goto 75 dX10_at_71 (by decide) ?_
            refine x_reti dX10_at_75 rfl ?_
            exact ⟨by rw [hr7, zat_4 hx (by omega)], hm6⟩
        · refine x_aload_n 38 rfl dX10_at_37 0 rfl rfl ?_
          refine x_getr 41 rfl fX10_10 dX10_at_38 (lyl0 hL) (lys0 hL) (by decide) (1) rfl ?_
          refine x_iload_n 42 rfl dX10_at_41 1 rfl rfl ?_
          refine x_iload_n 43 rfl dX10_at_42 2 rfl rfl ?_
          refine x_cVi 46 rfl lX10_156 dX10_at_43 (lyl1 hL) (lys1 hL) (c_X7_chanceOf (ly_sh1 hL) hs hi (by omega) (by omega)) rfl rfl (Nat.le_of_ble_eq_true rfl) (fun r3 M3 hr3 => ?_)
          obtain ⟨hr4, hM3⟩ := hr3
          refine x_reti dX10_at_46 rfl ?_
          refine ⟨?_, by rw [hM3]; exact jF_refl hv⟩
          rw [hr4, zat_2 hx (by omega)]
          unfold zch
          rw [if_neg (by omega), show 39 + 3 * x.toNat + y.toNat - 1 = 39 + 3 * x.toNat + (y.toNat - 1) by omega]
    · refine x_aload_n 18 rfl dX10_at_17 0 rfl rfl ?_
      refine x_getr 21 rfl fX10_10 dX10_at_18 (lyl0 hL) (lys0 hL) (by decide) (1) rfl ?_
      refine x_getr 24 rfl fX10_153 dX10_at_21 (lyl1 hL) (lys1 hL) (by decide) (5) rfl ?_
      refine x_iload_n 25 rfl dX10_at_24 1 rfl rfl ?_
      refine x_iald 26 rfl dX10_at_25 (lyl5 hL) (lys5 hL) (by omega) (by omega) ?_
      refine x_reti dX10_at_26 rfl ?_
      exact ⟨by rw [zat_1 hx (by omega), q4], jF_refl hv⟩
  · refine x_iconst 12 rfl dX10_at_11 (by decide) ?_
    refine x_reti dX10_at_12 rfl ?_
    refine ⟨?_, jF_refl hv⟩
    rw [zat_0 (fun h9 => by rw [if_pos h9] at hr2; omega)]
