def cRef (M : zMem) (x : Int) : zMem := z_up (z_up M 0 15 x) 54 (-x).toNat (M 54 (-x).toNat + 1)
/-- a call of the class that wasn't refused: the ship is another one -/
def cOK (clr : Bool) (M M' : zMem) (k' : Nat → Int) : Prop := (∀ i, ¬ (1 ≤ i ∧ i < 12) → i ≠ 24 → i ≠ 0 → M' i = M i) ∧ M' 11 = M 11 ∧ M' 0 = ku (M 0) 15 0 ∧ M' 24 = (if clr = true then ku (M 24) 3 0 else M 24) ∧ SR M' 1 k'
theorem cOK_clr {M M2 : zMem} {k' : Nat → Int} (h1 : ∀ i, ¬ (1 ≤ i ∧ i < 12) → M2 i = z_up M 24 3 0 i) (h2 : M2 11 = z_up M 24 3 0 11) (h3 : SR M2 1 k') : cOK true M (z_up M2 0 15 0) k' := by
  refine ⟨fun i a b c => ?_, ?_, ?_, ?_, ?_⟩
  · rw [z_up_ne c, h1 i a, z_up_ne b]
  · rw [z_up_ne (by decide), h2, z_up_ne (by decide)]
  · rw [z_upm, z_mup_eq, h1 0 (by omega), z_up_ne (by decide)]
  · rw [z_up_ne (by decide), h1 24 (by omega), z_upm, z_mup_eq]; rfl
  · exact SR_frame h3 (fun i a b => by rw [z_up_ne (by omega)])
theorem cOK_not {M M2 : zMem} {k' : Nat → Int} (h1 : ∀ i, ¬ (1 ≤ i ∧ i < 12) → M2 i = M i) (h2 : M2 11 = M 11) (h3 : SR M2 1 k') : cOK false M (z_up M2 0 15 0) k' := by
  refine ⟨fun i a b c => ?_, ?_, ?_, ?_, ?_⟩
  · rw [z_up_ne c, h1 i a]
  · rw [z_up_ne (by decide), h2]
  · rw [z_upm, z_mup_eq, h1 0 (by omega)]
  · rw [z_up_ne (by decide), h1 24 (by omega)]; rfl
  · exact SR_frame h3 (fun i a b => by rw [z_up_ne (by omega)])

set_option maxRecDepth 100000 in
set_option maxHeartbeats 4000000 in
theorem c_X10_refuse {d sz : Nat} {S : zSh} {M : zMem} (hL : LY S sz) (hr : ∀ i, i < 7 → 0 ≤ M 54 i ∧ M 54 i ≤ 1000000) {x : Int} (hx : -6 ≤ x ∧ x ≤ -1) : zX d 0 0 mX10_refuse [zn 0, zi x] sz S M (zI sz S (fun r M' => r = x ∧ M' = cRef M x)) := by
  have hr1 := hr (-x).toNat (by omega)
  refine zX_of pl_RX10 [some (zn 0), some (zi x)] 0 rfl rfl ?_
  refine x_aload_n 1 rfl dX10_refuse_0 0 rfl rfl ?_
  refine x_iload_n 2 rfl dX10_refuse_1 1 rfl rfl ?_
  refine x_puti 5 rfl fX10_300 dX10_refuse_2 (lyl0 hL) (lys0 hL) (by decide) ?_
  refine x_iload_n 6 rfl dX10_refuse_5 1 rfl rfl ?_
  refine y_ineg 7 rfl dX10_refuse_6 (by omega) ?_
  refine x_if_le 10 31 rfl dX10_refuse_7 (by decide) (fun c7 => ?_) (fun c7 => ?_)
  · refine x_iload_n 32 rfl dX10_refuse_31 1 rfl rfl ?_
    refine x_reti dX10_refuse_32 rfl ?_
    first | exact ⟨rfl, rfl⟩ | (exfalso; omega)
  · refine x_iload_n 11 rfl dX10_refuse_10 1 rfl rfl ?_
    refine y_ineg 12 rfl dX10_refuse_11 (by omega) ?_
    refine x_aload_n 13 rfl dX10_refuse_12 0 rfl rfl ?_
    refine x_getr 16 rfl fX10_86 dX10_refuse_13 (lyl0 hL) (lys0 hL) (by decide) (54) rfl ?_
    refine x_alen (t := 0) 17 rfl dX10_refuse_16 (lyl54 hL) (lys54 hL) (Or.inl rfl) (by decide) ?_
    refine x_icmp_ge 20 31 rfl dX10_refuse_17 (by decide) (fun c17 => ?_) (fun c17 => ?_)
    · refine x_iload_n 32 rfl dX10_refuse_31 1 rfl rfl ?_
      refine x_reti dX10_refuse_32 rfl ?_
      first | exact ⟨rfl, rfl⟩ | (exfalso; omega)
    · refine x_aload_n 21 rfl dX10_refuse_20 0 rfl rfl ?_
      refine x_getr 24 rfl fX10_86 dX10_refuse_21 (lyl0 hL) (lys0 hL) (by decide) (54) rfl ?_
      refine x_iload_n 25 rfl dX10_refuse_24 1 rfl rfl ?_
      refine y_ineg 26 rfl dX10_refuse_25 (by omega) ?_
      refine x_dup2ir 27 rfl dX10_refuse_26 ?_
      refine x_iald 28 rfl dX10_refuse_27 (lyl54 hL) (lys54 hL) (by omega) (by omega) ?_
      try simp (disch := omega) only [z_up_ne, z_up_nk, z_up_eq, z_mup_ne, z_mup_eq, Int.reduceToNat, Int.toNat_natCast]
      refine x_iconst 29 rfl dX10_refuse_28 (by decide) ?_
      refine y_iadd 30 rfl dX10_refuse_29 (by omega) ?_
      refine x_iast 31 rfl dX10_refuse_30 (lyl54 hL) (lys54 hL) (by omega) (by omega) ?_
      refine x_iload_n 32 rfl dX10_refuse_31 1 rfl rfl ?_
      refine x_reti dX10_refuse_32 rfl ?_
      first | exact ⟨rfl, rfl⟩ | (exfalso; omega)

set_option maxRecDepth 100000 in
set_option maxHeartbeats 4000000 in
theorem c_X10_accept {d sz : Nat} {S : zSh} {M : zMem} (hL : LY S sz) {x : Int} : zX d 0 0 mX10_accept [zn 0, zi x] sz S M (zI sz S (fun r M' => r = x ∧ M' = z_up M 0 15 0)) := by
  refine zX_of pl_RX10 [some (zn 0), some (zi x)] 0 rfl rfl ?_
  refine x_aload_n 1 rfl dX10_accept_0 0 rfl rfl ?_
  refine x_iconst 2 rfl dX10_accept_1 (by decide) ?_
  refine x_puti 5 rfl fX10_300 dX10_accept_2 (lyl0 hL) (lys0 hL) (by decide) ?_
  refine x_iload_n 6 rfl dX10_accept_5 1 rfl rfl ?_
  refine x_reti dX10_accept_6 rfl ?_
  exact ⟨rfl, rfl⟩

set_option maxRecDepth 100000 in
set_option maxHeartbeats 4000000 in
theorem c_X10_answer {d sz : Nat} {S : zSh} {M : zMem} (hL : LY S sz) (hr : ∀ i, i < 7 → 0 ≤ M 54 i ∧ M 54 i ≤ 1000000) {x : Int} (hx : -6 ≤ x ∧ x ≤ 1000000) : zX (d + 1) 0 0 mX10_answer [zn 0, zi x] sz S M (zI sz S (fun r M' => r = x ∧ M' = (if x < 0 then cRef M x else z_up M 0 15 0))) := by
  refine zX_of pl_RX10 [some (zn 0), some (zi x)] 0 rfl rfl ?_
  refine x_iload_n 1 rfl dX10_answer_0 1 rfl rfl ?_
  refine x_if_ge 4 12 rfl dX10_answer_1 (by decide) (fun c1 => ?_) (fun c1 => ?_)
  · refine x_aload_n 13 rfl dX10_answer_12 0 rfl rfl ?_
    refine x_iload_n 14 rfl dX10_answer_13 1 rfl rfl ?_
    refine x_cVi 17 rfl lX10_104 dX10_answer_14 (lyl0 hL) (lys0 hL) (c_X10_accept hL) rfl rfl (Nat.le_of_ble_eq_true rfl) (fun r M1 hr1 => ?_)
    obtain ⟨rfl, hM1⟩ := hr1
    rw [hM1]
    refine x_reti dX10_answer_17 rfl ?_
    refine ⟨rfl, ?_⟩
    first | (rw [if_pos (by omega)]; done) | (rw [if_neg (by omega)]; done)
  · refine x_aload_n 5 rfl dX10_answer_4 0 rfl rfl ?_
    refine x_iload_n 6 rfl dX10_answer_5 1 rfl rfl ?_
    refine x_cVi 9 rfl lX10_90 dX10_answer_6 (lyl0 hL) (lys0 hL) (c_X10_refuse hL hr (x := x) (by omega)) rfl rfl (Nat.le_of_ble_eq_true rfl) (fun r M1 hr1 => ?_)
    obtain ⟨rfl, hM1⟩ := hr1
    rw [hM1]
    refine x_goto 17 dX10_answer_9 (by decide) ?_
    refine x_reti dX10_answer_17 rfl ?_
    refine ⟨rfl, ?_⟩
    first | (rw [if_pos (by omega)]; done) | (rw [if_neg (by omega)]; done)

set_option maxRecDepth 100000 in
set_option maxHeartbeats 4000000 in
theorem c_X10_sign {d sz : Nat} {S : zSh} {M : zMem} (hL : LY S sz) (hr : ∀ i, i < 7 → 0 ≤ M 54 i ∧ M 54 i ≤ 1000000) {k : Nat → Int} (hs : SR M 1 k) (hi : KI k) {x y : Int} : zX (d + 1) 0 0 mX10_sign [zn 0, zi x, zi y] sz S M (zI sz S (fun r M' => (¬ ((1 ≤ x ∧ x ≤ 999) ∧ 0 ≤ y ∧ y ≤ 9999) ∧ r = -1 ∧ M' = cRef M (-1)) ∨ (((1 ≤ x ∧ x ≤ 999) ∧ 0 ≤ y ∧ y ≤ 9999) ∧ k 75 = 8 ∧ r = -5 ∧ M' = cRef M (-5)) ∨ (((1 ≤ x ∧ x ≤ 999) ∧ 0 ≤ y ∧ y ≤ 9999) ∧ k 75 < 8 ∧ r = k 75 ∧ cOK true M M' (kSign k x y)))) := by
  have i1 := hi.1
  have e0 := hs.1.1
  refine zX_of pl_RX10 [some (zn 0), some (zi x), some (zi y)] 0 rfl rfl ?_
  refine x_iload_n 1 rfl dX10_sign_0 1 rfl rfl ?_
  refine x_iconst 2 rfl dX10_sign_1 (by decide) ?_
  refine x_icmp_lt 5 23 rfl dX10_sign_2 (by decide) (fun c2 => ?_) (fun c2 => ?_)
  · refine x_aload_n 24 rfl dX10_sign_23 0 rfl rfl ?_
    refine x_iconst 25 rfl dX10_sign_24 (by decide) ?_
    refine x_cVi 28 rfl lX10_90 dX10_sign_25 (lyl0 hL) (lys0 hL) (c_X10_refuse hL hr (x := -1) (by decide)) rfl rfl (Nat.le_of_ble_eq_true rfl) (fun r M1 hr1 => ?_)
    obtain ⟨rfl, hM1⟩ := hr1
    rw [hM1]
    refine x_reti dX10_sign_28 rfl ?_
    left; exact ⟨by omega, rfl, rfl⟩
  · refine x_iload_n 6 rfl dX10_sign_5 1 rfl rfl ?_
    refine x_sipush 9 rfl dX10_sign_6 (by decide) ?_
    refine x_icmp_gt 12 23 rfl dX10_sign_9 (by decide) (fun c9 => ?_) (fun c9 => ?_)
    · refine x_aload_n 24 rfl dX10_sign_23 0 rfl rfl ?_
      refine x_iconst 25 rfl dX10_sign_24 (by decide) ?_
      refine x_cVi 28 rfl lX10_90 dX10_sign_25 (lyl0 hL) (lys0 hL) (c_X10_refuse hL hr (x := -1) (by decide)) rfl rfl (Nat.le_of_ble_eq_true rfl) (fun r M1 hr1 => ?_)
      obtain ⟨rfl, hM1⟩ := hr1
      rw [hM1]
      refine x_reti dX10_sign_28 rfl ?_
      left; exact ⟨by omega, rfl, rfl⟩
    · refine x_iload_n 13 rfl dX10_sign_12 2 rfl rfl ?_
      refine x_if_lt 16 23 rfl dX10_sign_13 (by decide) (fun c13 => ?_) (fun c13 => ?_)
      · refine x_aload_n 24 rfl dX10_sign_23 0 rfl rfl ?_
        refine x_iconst 25 rfl dX10_sign_24 (by decide) ?_
        refine x_cVi 28 rfl lX10_90 dX10_sign_25 (lyl0 hL) (lys0 hL) (c_X10_refuse hL hr (x := -1) (by decide)) rfl rfl (Nat.le_of_ble_eq_true rfl) (fun r M1 hr1 => ?_)
        obtain ⟨rfl, hM1⟩ := hr1
        rw [hM1]
        refine x_reti dX10_sign_28 rfl ?_
        left; exact ⟨by omega, rfl, rfl⟩
      · refine x_iload_n 17 rfl dX10_sign_16 2 rfl rfl ?_
        refine x_sipush 20 rfl dX10_sign_17 (by decide) ?_
        refine x_icmp_le 23 29 rfl dX10_sign_20 (by decide) (fun c20 => ?_) (fun c20 => ?_)
        · refine x_aload_n 30 rfl dX10_sign_29 0 rfl rfl ?_
          refine x_getr 33 rfl fX10_10 dX10_sign_30 (lyl0 hL) (lys0 hL) (by decide) (1) rfl ?_
          refine x_geti 36 rfl fX10_94 dX10_sign_33 (lyl1 hL) (lys1 hL) (by decide) ?_
          refine x_bipush 38 rfl dX10_sign_36 (by decide) ?_
          refine x_icmp_lt 41 48 rfl dX10_sign_38 (by decide) (fun c38 => ?_) (fun c38 => ?_)
          · refine x_aload_n 49 rfl dX10_sign_48 0 rfl rfl ?_
            refine x_getr 52 rfl fX10_26 dX10_sign_49 (lyl0 hL) (lys0 hL) (by decide) (24) rfl ?_
            refine x_cVu 55 rfl lX10_97 dX10_sign_52 (lyl24 hL) (lys24 hL) (c_X2_clear (ly_lg24 hL)) rfl rfl (Nat.le_of_ble_eq_true rfl) (fun M1 hM1 => ?_)
            rw [hM1]
            have hs1 : SR (z_up M 24 3 0) 1 k := SR_frame hs (fun i a b => by rw [z_up_ne (by omega)])
            refine x_aload_n 56 rfl dX10_sign_55 0 rfl rfl ?_
            refine x_aload_n 57 rfl dX10_sign_56 0 rfl rfl ?_
            refine x_getr 60 rfl fX10_10 dX10_sign_57 (lyl0 hL) (lys0 hL) (by decide) (1) rfl ?_
            refine x_iload_n 61 rfl dX10_sign_60 1 rfl rfl ?_
            refine x_iload_n 62 rfl dX10_sign_61 2 rfl rfl ?_
            refine x_cVi 65 rfl lX10_100 dX10_sign_62 (lyl1 hL) (lys1 hL) (c_X7_enlist (ly_sh1 hL) hs1 hi (by omega)) rfl rfl (Nat.le_of_ble_eq_true rfl) (fun r M2 hr2 => ?_)
            obtain ⟨rfl, g1, g2, g3⟩ := hr2
            refine x_cVi 68 rfl lX10_104 dX10_sign_65 (lyl0 hL) (lys0 hL) (c_X10_accept hL) rfl rfl (Nat.le_of_ble_eq_true rfl) (fun r M1 hr1 => ?_)
            obtain ⟨rfl, hM1⟩ := hr1
            rw [hM1]
            refine x_reti dX10_sign_68 rfl ?_
            right; right; exact ⟨by omega, by omega, rfl, cOK_clr g1 g2 g3⟩
          · refine x_aload_n 42 rfl dX10_sign_41 0 rfl rfl ?_
            refine x_bipush 44 rfl dX10_sign_42 (by decide) ?_
            refine x_cVi 47 rfl lX10_90 dX10_sign_44 (lyl0 hL) (lys0 hL) (c_X10_refuse hL hr (x := -5) (by decide)) rfl rfl (Nat.le_of_ble_eq_true rfl) (fun r M1 hr1 => ?_)
            obtain ⟨rfl, hM1⟩ := hr1
            rw [hM1]
            refine x_reti dX10_sign_47 rfl ?_
            right; left; exact ⟨by omega, by omega, rfl, rfl⟩
        · refine x_aload_n 24 rfl dX10_sign_23 0 rfl rfl ?_
          refine x_iconst 25 rfl dX10_sign_24 (by decide) ?_
          refine x_cVi 28 rfl lX10_90 dX10_sign_25 (lyl0 hL) (lys0 hL) (c_X10_refuse hL hr (x := -1) (by decide)) rfl rfl (Nat.le_of_ble_eq_true rfl) (fun r M1 hr1 => ?_)
          obtain ⟨rfl, hM1⟩ := hr1
          rw [hM1]
          refine x_reti dX10_sign_28 rfl ?_
          left; exact ⟨by omega, rfl, rfl⟩

set_option maxRecDepth 100000 in
set_option maxHeartbeats 4000000 in
theorem c_X10_ground {d sz : Nat} {S : zSh} {M : zMem} (hL : LY S sz) (hr : ∀ i, i < 7 → 0 ≤ M 54 i ∧ M 54 i ≤ 1000000) {k : Nat → Int} (hs : SR M 1 k) (hi : KI k) {x y z u : Int} : zX (d + 1) 0 0 mX10_ground [zn 0, zi x, zi y, zi z, zi u] sz S M (zI sz S (fun r M' => (¬ ((0 ≤ x ∧ x ≤ 99) ∧ (0 ≤ y ∧ y ≤ 10) ∧ (0 ≤ z ∧ z ≤ 10) ∧ (0 ≤ u ∧ u ≤ 10) ∧ y + z + u ≤ 10) ∧ r = -1 ∧ M' = cRef M (-1)) ∨ (((0 ≤ x ∧ x ≤ 99) ∧ (0 ≤ y ∧ y ≤ 10) ∧ (0 ≤ z ∧ z ≤ 10) ∧ (0 ≤ u ∧ u ≤ 10) ∧ y + z + u ≤ 10) ∧ k 76 = 4 ∧ r = -5 ∧ M' = cRef M (-5)) ∨ (((0 ≤ x ∧ x ≤ 99) ∧ (0 ≤ y ∧ y ≤ 10) ∧ (0 ≤ z ∧ z ≤ 10) ∧ (0 ≤ u ∧ u ≤ 10) ∧ y + z + u ≤ 10) ∧ k 76 < 4 ∧ r = k 76 ∧ cOK true M M' (kGround k x y z u)))) := by
  have i1 := hi.1
  have e0 := hs.1.2.2.1
  refine zX_of pl_RX10 [some (zn 0), some (zi x), some (zi y), some (zi z), some (zi u)] 0 rfl rfl ?_
  refine x_iload_n 1 rfl dX10_ground_0 1 rfl rfl ?_
  refine x_iload_n 2 rfl dX10_ground_1 2 rfl rfl ?_
  refine x_iload_n 3 rfl dX10_ground_2 3 rfl rfl ?_
  refine x_iload 5 rfl dX10_ground_3 rfl ?_
  refine x_cSi 8 rfl lX10_139 dX10_ground_5 c_X7_groundCanBe rfl rfl (Nat.le_of_ble_eq_true rfl) (fun r M1 hr1 => ?_)
  obtain ⟨rfl, hM1⟩ := hr1
  rw [hM1]
  refine x_if_ne 11 17 rfl dX10_ground_8 (by decide) (fun c8 => ?_) (fun c8 => ?_)
  · refine x_aload_n 18 rfl dX10_ground_17 0 rfl rfl ?_
    refine x_getr 21 rfl fX10_10 dX10_ground_18 (lyl0 hL) (lys0 hL) (by decide) (1) rfl ?_
    refine x_geti 24 rfl fX10_143 dX10_ground_21 (lyl1 hL) (lys1 hL) (by decide) ?_
    refine x_iconst 25 rfl dX10_ground_24 (by decide) ?_
    refine x_icmp_lt 28 35 rfl dX10_ground_25 (by decide) (fun c25 => ?_) (fun c25 => ?_)
    · refine x_aload_n 36 rfl dX10_ground_35 0 rfl rfl ?_
      refine x_getr 39 rfl fX10_26 dX10_ground_36 (lyl0 hL) (lys0 hL) (by decide) (24) rfl ?_
      refine x_cVu 42 rfl lX10_97 dX10_ground_39 (lyl24 hL) (lys24 hL) (c_X2_clear (ly_lg24 hL)) rfl rfl (Nat.le_of_ble_eq_true rfl) (fun M1 hM1 => ?_)
      rw [hM1]
      have hs1 : SR (z_up M 24 3 0) 1 k := SR_frame hs (fun i a b => by rw [z_up_ne (by omega)])
      refine x_aload_n 43 rfl dX10_ground_42 0 rfl rfl ?_
      refine x_aload_n 44 rfl dX10_ground_43 0 rfl rfl ?_
      refine x_getr 47 rfl fX10_10 dX10_ground_44 (lyl0 hL) (lys0 hL) (by decide) (1) rfl ?_
      refine x_iload_n 48 rfl dX10_ground_47 1 rfl rfl ?_
      refine x_iload_n 49 rfl dX10_ground_48 2 rfl rfl ?_
      refine x_iload_n 50 rfl dX10_ground_49 3 rfl rfl ?_
      refine x_iload 52 rfl dX10_ground_50 rfl ?_
      refine x_cVi 55 rfl lX10_146 dX10_ground_52 (lyl1 hL) (lys1 hL) (c_X7_addGround (ly_sh1 hL) hs1 hi (by omega)) rfl rfl (Nat.le_of_ble_eq_true rfl) (fun r M2 hr2 => ?_)
      obtain ⟨rfl, g1, g2, g3⟩ := hr2
      refine x_cVi 58 rfl lX10_104 dX10_ground_55 (lyl0 hL) (lys0 hL) (c_X10_accept hL) rfl rfl (Nat.le_of_ble_eq_true rfl) (fun r M1 hr1 => ?_)
      obtain ⟨rfl, hM1⟩ := hr1
      rw [hM1]
      refine x_reti dX10_ground_58 rfl ?_
      right; right; exact ⟨by split at c8 <;> omega, by omega, rfl, cOK_clr g1 g2 g3⟩
    · refine x_aload_n 29 rfl dX10_ground_28 0 rfl rfl ?_
      refine x_bipush 31 rfl dX10_ground_29 (by decide) ?_
      refine x_cVi 34 rfl lX10_90 dX10_ground_31 (lyl0 hL) (lys0 hL) (c_X10_refuse hL hr (x := -5) (by decide)) rfl rfl (Nat.le_of_ble_eq_true rfl) (fun r M1 hr1 => ?_)
      obtain ⟨rfl, hM1⟩ := hr1
      rw [hM1]
      refine x_reti dX10_ground_34 rfl ?_
      right; left; exact ⟨by split at c8 <;> omega, by omega, rfl, rfl⟩
  · refine x_aload_n 12 rfl dX10_ground_11 0 rfl rfl ?_
    refine x_iconst 13 rfl dX10_ground_12 (by decide) ?_
    refine x_cVi 16 rfl lX10_90 dX10_ground_13 (lyl0 hL) (lys0 hL) (c_X10_refuse hL hr (x := -1) (by decide)) rfl rfl (Nat.le_of_ble_eq_true rfl) (fun r M1 hr1 => ?_)
    obtain ⟨rfl, hM1⟩ := hr1
    rw [hM1]
    refine x_reti dX10_ground_16 rfl ?_
    left; exact ⟨by split at c8 <;> omega, rfl, rfl⟩

theorem SR_price {M : zMem} {a : Nat} {k : Nat → Int} (h : SR M a k) {y : Nat} (hy : y < 6) (v : Int) : SR (z_up M (a + 6) y v) a (ku k (51 + y) v) := by
  obtain ⟨⟨s1, s2, s3, s4, s5, s6, s7, s8⟩, ⟨s9, s10, s11⟩, q1, q2, q3, q4, q5, q6, q7, q8⟩ := h
  have em : zmask (ku k (51 + y) v) = zmask k := by simp only [zmask, ku]; repeat' rw [if_neg (by omega)]
  refine ⟨⟨?_, ?_, ?_, ?_, ?_, ?_, ?_, ?_⟩, ⟨?_, ?_, ?_⟩, ?_, ?_, ?_, ?_, ?_, ?_, ?_, ?_⟩
  · simp (disch := omega) only [z_up_ne, ku, if_neg]; exact s1
  · rw [em]; simp (disch := omega) only [z_up_ne]; exact s2
  · simp (disch := omega) only [z_up_ne, ku, if_neg]; exact s3
  · simp (disch := omega) only [z_up_ne, ku, if_neg]; exact s4
  · simp (disch := omega) only [z_up_ne, ku, if_neg]; exact s5
  · simp (disch := omega) only [z_up_ne, ku, if_neg]; exact s6
  · simp (disch := omega) only [z_up_ne, ku, if_neg]; exact s7
  · simp (disch := omega) only [z_up_ne, ku, if_neg]; exact s8
  · simp (disch := omega) only [z_up_ne, ku, if_neg]; exact s9
  · simp (disch := omega) only [z_up_ne, ku, if_neg]; exact s10
  · simp (disch := omega) only [z_up_ne, ku, if_neg]; exact s11
  · intro j hj; simp (disch := omega) only [z_up_ne, ku, if_neg]; exact q1 j hj
  · intro j hj; simp (disch := omega) only [z_up_ne, ku, if_neg]; exact q2 j hj
  · intro j hj; simp (disch := omega) only [z_up_ne, ku, if_neg]; exact q3 j hj
  · intro j hj; simp (disch := omega) only [z_up_ne, ku, if_neg]; exact q4 j hj
  · intro j hj; simp (disch := omega) only [z_up_ne, ku, if_neg]; exact q5 j hj
  · intro j hj
    rw [z_up_at]
    simp only [ku]
    by_cases e : j = y
    · rw [if_pos e, if_pos (by omega)]
    · rw [if_neg e, if_neg (by omega)]; exact q6 j hj
  · intro j hj; simp (disch := omega) only [z_up_ne, ku, if_neg]; exact q7 j hj
  · intro j hj; simp (disch := omega) only [z_up_ne, ku, if_neg]; exact q8 j hj

set_option maxRecDepth 100000 in
set_option maxHeartbeats 4000000 in
theorem c_X10_price {d sz : Nat} {S : zSh} {M : zMem} (hL : LY S sz) (hr : ∀ i, i < 7 → 0 ≤ M 54 i ∧ M 54 i ≤ 1000000) {k : Nat → Int} (hs : SR M 1 k) (hi : KI k) {x y : Int} : zX (d + 1) 0 0 mX10_price [zn 0, zi x, zi y] sz S M (zI sz S (fun r M' => (¬ ((0 ≤ x ∧ x ≤ 5) ∧ 0 ≤ y ∧ y ≤ 99) ∧ r = -1 ∧ M' = cRef M (-1)) ∨ (((0 ≤ x ∧ x ≤ 5) ∧ 0 ≤ y ∧ y ≤ 99) ∧ r = k (51 + x.toNat) ∧ cOK false M M' (ku k (51 + x.toNat) y)))) := by
  refine zX_of pl_RX10 [some (zn 0), some (zi x), some (zi y), none] 1 rfl rfl ?_
  refine x_iload_n 1 rfl dX10_price_0 1 rfl rfl ?_
  refine x_if_lt 4 20 rfl dX10_price_1 (by decide) (fun c1 => ?_) (fun c1 => ?_)
  · refine x_aload_n 21 rfl dX10_price_20 0 rfl rfl ?_
    refine x_iconst 22 rfl dX10_price_21 (by decide) ?_
    refine x_cVi 25 rfl lX10_90 dX10_price_22 (lyl0 hL) (lys0 hL) (c_X10_refuse hL hr (x := -1) (by decide)) rfl rfl (Nat.le_of_ble_eq_true rfl) (fun r M1 hr1 => ?_)
    obtain ⟨rfl, hM1⟩ := hr1
    rw [hM1]
    refine x_reti dX10_price_25 rfl ?_
    left; exact ⟨by omega, rfl, rfl⟩
  · refine x_iload_n 5 rfl dX10_price_4 1 rfl rfl ?_
    refine x_bipush 7 rfl dX10_price_5 (by decide) ?_
    refine x_icmp_ge 10 20 rfl dX10_price_7 (by decide) (fun c7 => ?_) (fun c7 => ?_)
    · refine x_aload_n 21 rfl dX10_price_20 0 rfl rfl ?_
      refine x_iconst 22 rfl dX10_price_21 (by decide) ?_
      refine x_cVi 25 rfl lX10_90 dX10_price_22 (lyl0 hL) (lys0 hL) (c_X10_refuse hL hr (x := -1) (by decide)) rfl rfl (Nat.le_of_ble_eq_true rfl) (fun r M1 hr1 => ?_)
      obtain ⟨rfl, hM1⟩ := hr1
      rw [hM1]
      refine x_reti dX10_price_25 rfl ?_
      left; exact ⟨by omega, rfl, rfl⟩
    · refine x_iload_n 11 rfl dX10_price_10 2 rfl rfl ?_
      refine x_if_lt 14 20 rfl dX10_price_11 (by decide) (fun c11 => ?_) (fun c11 => ?_)
      · refine x_aload_n 21 rfl dX10_price_20 0 rfl rfl ?_
        refine x_iconst 22 rfl dX10_price_21 (by decide) ?_
        refine x_cVi 25 rfl lX10_90 dX10_price_22 (lyl0 hL) (lys0 hL) (c_X10_refuse hL hr (x := -1) (by decide)) rfl rfl (Nat.le_of_ble_eq_true rfl) (fun r M1 hr1 => ?_)
        obtain ⟨rfl, hM1⟩ := hr1
        rw [hM1]
        refine x_reti dX10_price_25 rfl ?_
        left; exact ⟨by omega, rfl, rfl⟩
      · refine x_iload_n 15 rfl dX10_price_14 2 rfl rfl ?_
        refine x_bipush 17 rfl dX10_price_15 (by decide) ?_
        refine x_icmp_le 20 26 rfl dX10_price_17 (by decide) (fun c17 => ?_) (fun c17 => ?_)
        · refine x_aload_n 27 rfl dX10_price_26 0 rfl rfl ?_
          refine x_getr 30 rfl fX10_10 dX10_price_27 (lyl0 hL) (lys0 hL) (by decide) (1) rfl ?_
          refine x_getr 33 rfl fX10_163 dX10_price_30 (lyl1 hL) (lys1 hL) (by decide) (7) rfl ?_
          refine x_iload_n 34 rfl dX10_price_33 1 rfl rfl ?_
          refine x_iald 35 rfl dX10_price_34 (lyl7 hL) (lys7 hL) (by omega) (by omega) ?_
          refine y_istore_n 36 rfl dX10_price_35 rfl rfl (ls' := [_, _, _, _]) rfl (by decide) ?_
          refine x_aload_n 37 rfl dX10_price_36 0 rfl rfl ?_
          refine x_getr 40 rfl fX10_10 dX10_price_37 (lyl0 hL) (lys0 hL) (by decide) (1) rfl ?_
          refine x_getr 43 rfl fX10_163 dX10_price_40 (lyl1 hL) (lys1 hL) (by decide) (7) rfl ?_
          refine x_iload_n 44 rfl dX10_price_43 1 rfl rfl ?_
          refine x_iload_n 45 rfl dX10_price_44 2 rfl rfl ?_
          refine x_iast 46 rfl dX10_price_45 (lyl7 hL) (lys7 hL) (by omega) (by omega) ?_
          refine x_aload_n 47 rfl dX10_price_46 0 rfl rfl ?_
          refine x_iload_n 48 rfl dX10_price_47 3 rfl rfl ?_
          refine x_cVi 51 rfl lX10_104 dX10_price_48 (lyl0 hL) (lys0 hL) (c_X10_accept hL) rfl rfl (Nat.le_of_ble_eq_true rfl) (fun r M1 hr1 => ?_)
          obtain ⟨rfl, hM1⟩ := hr1
          rw [hM1]
          refine x_reti dX10_price_51 rfl ?_
          right; refine ⟨by omega, hs.2.2.2.2.2.2.2.1 x.toNat (by omega), cOK_not (fun i h1 => by rw [z_up_ne (by omega)]) (by rw [z_up_ne (by decide)]) (SR_price hs (by omega) y)⟩
        · refine x_aload_n 21 rfl dX10_price_20 0 rfl rfl ?_
          refine x_iconst 22 rfl dX10_price_21 (by decide) ?_
          refine x_cVi 25 rfl lX10_90 dX10_price_22 (lyl0 hL) (lys0 hL) (c_X10_refuse hL hr (x := -1) (by decide)) rfl rfl (Nat.le_of_ble_eq_true rfl) (fun r M1 hr1 => ?_)
          obtain ⟨rfl, hM1⟩ := hr1
          rw [hM1]
          refine x_reti dX10_price_25 rfl ?_
          left; exact ⟨by omega, rfl, rfl⟩

set_option maxRecDepth 100000 in
set_option maxHeartbeats 4000000 in
theorem c_X10_termCanBe {d sz : Nat} {S : zSh} {M : zMem} (hL : LY S sz) {k : Nat → Int} (hs : SR M 1 k) (hi : KI k) {x y : Int} : zX d 0 0 mX10_termCanBe [zn 0, zi x, zi y] sz S M (zI sz S (fun r M' => r = (if (x = 0 ∧ 0 ≤ y ∧ y ≤ 71) ∨ (x = 1 ∧ 1 ≤ y ∧ k 0 ≤ y ∧ y ≤ 999) ∨ (x = 2 ∧ 0 ≤ y ∧ y ≤ 9) then 1 else 0) ∧ M' = M)) := by
  have e := hs.1.2.2.2.1
  refine zX_of pl_RX10 [some (zn 0), some (zi x), some (zi y)] 0 rfl rfl ?_
  refine x_iload_n 1 rfl dX10_termCanBe_0 1 rfl rfl ?_
  refine x_tsC (0) 28 0 dX10_termCanBe_1 (by decide) (by decide) (by decide) rfl (by decide) (fun c1 => ?_) (fun c1_0 => ?_)
  · refine x_iload_n 29 rfl dX10_termCanBe_28 2 rfl rfl ?_
    refine x_if_lt 32 42 rfl dX10_termCanBe_29 (by decide) (fun c29 => ?_) (fun c29 => ?_)
    · refine x_iconst 43 rfl dX10_termCanBe_42 (by decide) ?_
      refine x_retz dX10_termCanBe_43 rfl (by omega) ?_
      refine ⟨?_, rfl⟩
      split <;> omega
    · refine x_iload_n 33 rfl dX10_termCanBe_32 2 rfl rfl ?_
      refine x_bipush 35 rfl dX10_termCanBe_33 (by decide) ?_
      refine x_icmp_gt 38 42 rfl dX10_termCanBe_35 (by decide) (fun c35 => ?_) (fun c35 => ?_)
      · refine x_iconst 43 rfl dX10_termCanBe_42 (by decide) ?_
        refine x_retz dX10_termCanBe_43 rfl (by omega) ?_
        refine ⟨?_, rfl⟩
        split <;> omega
      · refine x_iconst 39 rfl dX10_termCanBe_38 (by decide) ?_
        refine x_goto 43 dX10_termCanBe_39 (by decide) ?_
        refine x_retz dX10_termCanBe_43 rfl (by omega) ?_
        refine ⟨?_, rfl⟩
        split <;> omega
  refine x_tsC (1) 44 1 dX10_termCanBe_1 (by decide) (by decide) (by decide) rfl (by decide) (fun c1 => ?_) (fun c1_1 => ?_)
  · refine x_iload_n 45 rfl dX10_termCanBe_44 2 rfl rfl ?_
    refine x_iconst 46 rfl dX10_termCanBe_45 (by decide) ?_
    refine x_icmp_lt 49 71 rfl dX10_termCanBe_46 (by decide) (fun c46 => ?_) (fun c46 => ?_)
    · refine x_iconst 72 rfl dX10_termCanBe_71 (by decide) ?_
      refine x_retz dX10_termCanBe_72 rfl (by omega) ?_
      refine ⟨?_, rfl⟩
      split <;> omega
    · refine x_iload_n 50 rfl dX10_termCanBe_49 2 rfl rfl ?_
      refine x_sipush 53 rfl dX10_termCanBe_50 (by decide) ?_
      refine x_icmp_gt 56 71 rfl dX10_termCanBe_53 (by decide) (fun c53 => ?_) (fun c53 => ?_)
      · refine x_iconst 72 rfl dX10_termCanBe_71 (by decide) ?_
        refine x_retz dX10_termCanBe_72 rfl (by omega) ?_
        refine ⟨?_, rfl⟩
        split <;> omega
      · refine x_iload_n 57 rfl dX10_termCanBe_56 2 rfl rfl ?_
        refine x_aload_n 58 rfl dX10_termCanBe_57 0 rfl rfl ?_
        refine x_getr 61 rfl fX10_10 dX10_termCanBe_58 (lyl0 hL) (lys0 hL) (by decide) (1) rfl ?_
        refine x_geti 64 rfl fX10_293 dX10_termCanBe_61 (lyl1 hL) (lys1 hL) (by decide) ?_
        refine x_icmp_lt 67 71 rfl dX10_termCanBe_64 (by decide) (fun c64 => ?_) (fun c64 => ?_)
        · refine x_iconst 72 rfl dX10_termCanBe_71 (by decide) ?_
          refine x_retz dX10_termCanBe_72 rfl (by omega) ?_
          refine ⟨?_, rfl⟩
          split <;> omega
        · refine x_iconst 68 rfl dX10_termCanBe_67 (by decide) ?_
          refine x_goto 72 dX10_termCanBe_68 (by decide) ?_
          refine x_retz dX10_termCanBe_72 rfl (by omega) ?_
          refine ⟨?_, rfl⟩
          split <;> omega
  refine x_tsC (2) 73 2 dX10_termCanBe_1 (by decide) (by decide) (by decide) rfl (by decide) (fun c1 => ?_) (fun c1_2 => ?_)
  · refine x_iload_n 74 rfl dX10_termCanBe_73 2 rfl rfl ?_
    refine x_if_lt 77 87 rfl dX10_termCanBe_74 (by decide) (fun c74 => ?_) (fun c74 => ?_)
    · refine x_iconst 88 rfl dX10_termCanBe_87 (by decide) ?_
      refine x_retz dX10_termCanBe_88 rfl (by omega) ?_
      refine ⟨?_, rfl⟩
      split <;> omega
    · refine x_iload_n 78 rfl dX10_termCanBe_77 2 rfl rfl ?_
      refine x_bipush 80 rfl dX10_termCanBe_78 (by decide) ?_
      refine x_icmp_gt 83 87 rfl dX10_termCanBe_80 (by decide) (fun c80 => ?_) (fun c80 => ?_)
      · refine x_iconst 88 rfl dX10_termCanBe_87 (by decide) ?_
        refine x_retz dX10_termCanBe_88 rfl (by omega) ?_
        refine ⟨?_, rfl⟩
        split <;> omega
      · refine x_iconst 84 rfl dX10_termCanBe_83 (by decide) ?_
        refine x_goto 88 dX10_termCanBe_84 (by decide) ?_
        refine x_retz dX10_termCanBe_88 rfl (by omega) ?_
        refine ⟨?_, rfl⟩
        split <;> omega
  refine x_tsOut 89 dX10_termCanBe_1 (by omega) (by decide) ?_
  refine x_iconst 90 rfl dX10_termCanBe_89 (by decide) ?_
  refine x_retz dX10_termCanBe_90 rfl (by omega) ?_
  refine ⟨?_, rfl⟩
  split <;> omega

set_option maxRecDepth 100000 in
set_option maxHeartbeats 4000000 in
theorem c_X10_spray {d sz : Nat} {S : zSh} {M : zMem} (hL : LY S sz)  : zX d 0 0 mX10_spray [zn 0] sz S M (zI sz S (fun r M' => r = M 0 13 ∧ M' = M)) := by
  refine zX_of pl_RX10 [some (zn 0)] 0 rfl rfl ?_
  refine x_aload_n 1 rfl dX10_spray_0 0 rfl rfl ?_
  refine x_geti 4 rfl fX10_183 dX10_spray_1 (lyl0 hL) (lys0 hL) (by decide) ?_
  refine x_reti dX10_spray_4 rfl ?_
  exact ⟨rfl, rfl⟩

set_option maxRecDepth 100000 in
set_option maxHeartbeats 4000000 in
theorem c_X10_fault {d sz : Nat} {S : zSh} {M : zMem} (hL : LY S sz)  : zX d 0 0 mX10_fault [zn 0] sz S M (zI sz S (fun r M' => r = M 0 12 ∧ M' = M)) := by
  refine zX_of pl_RX10 [some (zn 0)] 0 rfl rfl ?_
  refine x_aload_n 1 rfl dX10_fault_0 0 rfl rfl ?_
  refine x_geti 4 rfl fX10_79 dX10_fault_1 (lyl0 hL) (lys0 hL) (by decide) ?_
  refine x_reti dX10_fault_4 rfl ?_
  exact ⟨rfl, rfl⟩

set_option maxRecDepth 100000 in
set_option maxHeartbeats 4000000 in
theorem c_X10_stopped {d sz : Nat} {S : zSh} {M : zMem} (hL : LY S sz)  : zX d 0 0 mX10_stopped [zn 0] sz S M (zI sz S (fun r M' => r = M 0 14 ∧ M' = M)) := by
  refine zX_of pl_RX10 [some (zn 0)] 0 rfl rfl ?_
  refine x_aload_n 1 rfl dX10_stopped_0 0 rfl rfl ?_
  refine x_geti 4 rfl fX10_83 dX10_stopped_1 (lyl0 hL) (lys0 hL) (by decide) ?_
  refine x_reti dX10_stopped_4 rfl ?_
  exact ⟨rfl, rfl⟩

set_option maxRecDepth 100000 in
set_option maxHeartbeats 4000000 in
theorem c_X10_status {d sz : Nat} {S : zSh} {M : zMem} (hL : LY S sz)  : zX d 0 0 mX10_status [zn 0] sz S M (zI sz S (fun r M' => r = M 0 15 ∧ M' = M)) := by
  refine zX_of pl_RX10 [some (zn 0)] 0 rfl rfl ?_
  refine x_aload_n 1 rfl dX10_status_0 0 rfl rfl ?_
  refine x_geti 4 rfl fX10_300 dX10_status_1 (lyl0 hL) (lys0 hL) (by decide) ?_
  refine x_reti dX10_status_4 rfl ?_
  exact ⟨rfl, rfl⟩

set_option maxRecDepth 100000 in
set_option maxHeartbeats 4000000 in
theorem c_X10_end {d sz : Nat} {S : zSh} {M : zMem} (hL : LY S sz) {x : Int} : zX d 0 0 mX10_end [zn 0, zi x] sz S M (zI sz S (fun r M' => (¬ (0 ≤ x ∧ x ≤ M 30 1) ∧ r = -1 ∧ M' = M) ∨ ((0 ≤ x ∧ x ≤ M 30 1) ∧ r = x ∧ M' = z_up M 30 1 x))) := by
  refine zX_of pl_RX10 [some (zn 0), some (zi x)] 0 rfl rfl ?_
  refine x_iload_n 1 rfl dX10_end_0 1 rfl rfl ?_
  refine x_if_lt 4 15 rfl dX10_end_1 (by decide) (fun c1 => ?_) (fun c1 => ?_)
  · refine x_iconst 16 rfl dX10_end_15 (by decide) ?_
    refine x_reti dX10_end_16 rfl ?_
    left; exact ⟨by omega, rfl, rfl⟩
  · refine x_iload_n 5 rfl dX10_end_4 1 rfl rfl ?_
    refine x_aload_n 6 rfl dX10_end_5 0 rfl rfl ?_
    refine x_getr 9 rfl fX10_36 dX10_end_6 (lyl0 hL) (lys0 hL) (by decide) (30) rfl ?_
    refine x_geti 12 rfl fX10_173 dX10_end_9 (lyl30 hL) (lys30 hL) (by decide) ?_
    refine x_icmp_le 15 17 rfl dX10_end_12 (by decide) (fun c12 => ?_) (fun c12 => ?_)
    · refine x_aload_n 18 rfl dX10_end_17 0 rfl rfl ?_
      refine x_getr 21 rfl fX10_36 dX10_end_18 (lyl0 hL) (lys0 hL) (by decide) (30) rfl ?_
      refine x_iload_n 22 rfl dX10_end_21 1 rfl rfl ?_
      refine x_puti 25 rfl fX10_173 dX10_end_22 (lyl30 hL) (lys30 hL) (by decide) ?_
      refine x_iload_n 26 rfl dX10_end_25 1 rfl rfl ?_
      refine x_reti dX10_end_26 rfl ?_
      right; exact ⟨by omega, rfl, rfl⟩
    · refine x_iconst 16 rfl dX10_end_15 (by decide) ?_
      refine x_reti dX10_end_16 rfl ?_
      left; exact ⟨by omega, rfl, rfl⟩

set_option maxRecDepth 100000 in
set_option maxHeartbeats 4000000 in
theorem c_X10_money {d sz : Nat} {S : zSh} {M : zMem} (hL : LY S sz) {k : Nat → Int} (hs : SR M 1 k) (hi : KI k) {x : Int} : zX (d + 4) 0 0 mX10_money [zn 0, zi x] sz S M (zI sz S (fun r M' => r = (if x = 0 then zmoney k (k 0) else if x = 1 then zmoney k (k 0) - zsum (zwholeN k) (k 75).toNat else -100000000) ∧ M' = M)) := by
  refine zX_of pl_RX10 [some (zn 0), some (zi x)] 0 rfl rfl ?_
  refine x_iload_n 1 rfl dX10_money_0 1 rfl rfl ?_
  refine x_if_ne 4 12 rfl dX10_money_1 (by decide) (fun c1 => ?_) (fun c1 => ?_)
  · refine x_iload_n 13 rfl dX10_money_12 1 rfl rfl ?_
    refine x_iconst 14 rfl dX10_money_13 (by decide) ?_
    refine x_icmp_ne 17 27 rfl dX10_money_14 (by decide) (fun c14 => ?_) (fun c14 => ?_)
    · refine x_ldc (x := -100000000) 29 rfl kX10_111 (by decide) dX10_money_27 ?_
      refine x_reti dX10_money_29 rfl ?_
      refine ⟨?_, rfl⟩
      first | (rw [if_pos (by omega)]; done) | (rw [if_neg (by omega), if_pos (by omega)]; done) | (rw [if_neg (by omega), if_neg (by omega)]; done)
    · refine x_aload_n 18 rfl dX10_money_17 0 rfl rfl ?_
      refine x_getr 21 rfl fX10_10 dX10_money_18 (lyl0 hL) (lys0 hL) (by decide) (1) rfl ?_
      refine x_cVi 24 rfl lX10_239 dX10_money_21 (lyl1 hL) (lys1 hL) (c_X7_ownersNow (ly_sh1 hL) hs hi) rfl rfl (Nat.le_of_ble_eq_true rfl) (fun r M1 hr1 => ?_)
      obtain ⟨rfl, hM1⟩ := hr1
      rw [hM1]
      refine x_goto 29 dX10_money_24 (by decide) ?_
      refine x_reti dX10_money_29 rfl ?_
      refine ⟨?_, rfl⟩
      first | (rw [if_pos (by omega)]; done) | (rw [if_neg (by omega), if_pos (by omega)]; done) | (rw [if_neg (by omega), if_neg (by omega)]; done)
  · refine x_aload_n 5 rfl dX10_money_4 0 rfl rfl ?_
    refine x_getr 8 rfl fX10_10 dX10_money_5 (lyl0 hL) (lys0 hL) (by decide) (1) rfl ?_
    refine x_cVi 11 rfl lX10_236 dX10_money_8 (lyl1 hL) (lys1 hL) (c_X7_moneyNow (ly_sh1 hL) hs hi) rfl rfl (Nat.le_of_ble_eq_true rfl) (fun r M1 hr1 => ?_)
    obtain ⟨rfl, hM1⟩ := hr1
    rw [hM1]
    refine x_reti dX10_money_11 rfl ?_
    refine ⟨?_, rfl⟩
    first | (rw [if_pos (by omega)]; done) | (rw [if_neg (by omega), if_pos (by omega)]; done) | (rw [if_neg (by omega), if_neg (by omega)]; done)

theorem SR_force {M : zMem} {a : Nat} {k : Nat → Int} (h : SR M a k) (v : Int) : SR (z_up M (a) 17 v) a (ku k 79 v) := by
  obtain ⟨⟨s1, s2, s3, s4, s5, s6, s7, s8⟩, ⟨s9, s10, s11⟩, q1, q2, q3, q4, q5, q6, q7, q8⟩ := h
  have em : zmask (ku k 79 v) = zmask k := by simp [zmask, ku]
  refine ⟨⟨?_, ?_, ?_, ?_, ?_, ?_, ?_, ?_⟩, ⟨?_, ?_, ?_⟩, ?_, ?_, ?_, ?_, ?_, ?_, ?_, ?_⟩
  · simp (disch := omega) only [z_up_ne, z_up_nk, ku, if_neg]; exact s1
  · rw [em]; simp (disch := omega) only [z_up_ne, z_up_nk]; exact s2
  · simp (disch := omega) only [z_up_ne, z_up_nk, ku, if_neg]; exact s3
  · simp (disch := omega) only [z_up_ne, z_up_nk, ku, if_neg]; exact s4
  · simp (disch := omega) only [z_up_ne, z_up_nk, ku, if_neg]; exact s5
  · simp (disch := omega) only [z_up_ne, z_up_nk, ku, if_neg]; exact s6
  · simp (disch := omega) only [z_up_ne, z_up_nk, ku, if_neg]; exact s7
  · simp [z_up, ku]
  · simp (disch := omega) only [z_up_ne, z_up_nk, ku, if_neg]; exact s9
  · simp (disch := omega) only [z_up_ne, z_up_nk, ku, if_neg]; exact s10
  · simp (disch := omega) only [z_up_ne, z_up_nk, ku, if_neg]; exact s11
  · intro j hj; simp (disch := omega) only [z_up_ne, ku, if_neg]; exact q1 j hj
  · intro j hj; simp (disch := omega) only [z_up_ne, ku, if_neg]; exact q2 j hj
  · intro j hj; simp (disch := omega) only [z_up_ne, ku, if_neg]; exact q3 j hj
  · intro j hj; simp (disch := omega) only [z_up_ne, ku, if_neg]; exact q4 j hj
  · intro j hj; simp (disch := omega) only [z_up_ne, ku, if_neg]; exact q5 j hj
  · intro j hj; simp (disch := omega) only [z_up_ne, ku, if_neg]; exact q6 j hj
  · intro j hj; simp (disch := omega) only [z_up_ne, ku, if_neg]; exact q7 j hj
  · intro j hj; simp (disch := omega) only [z_up_ne, ku, if_neg]; exact q8 j hj

theorem SR_words {M : zMem} {a : Nat} {k : Nat → Int} (h : SR M a k) (v : Int) : SR (z_up M (a) 12 v) a (ku k 77 v) := by
  obtain ⟨⟨s1, s2, s3, s4, s5, s6, s7, s8⟩, ⟨s9, s10, s11⟩, q1, q2, q3, q4, q5, q6, q7, q8⟩ := h
  have em : zmask (ku k 77 v) = zmask k := by simp [zmask, ku]
  refine ⟨⟨?_, ?_, ?_, ?_, ?_, ?_, ?_, ?_⟩, ⟨?_, ?_, ?_⟩, ?_, ?_, ?_, ?_, ?_, ?_, ?_, ?_⟩
  · simp (disch := omega) only [z_up_ne, z_up_nk, ku, if_neg]; exact s1
  · rw [em]; simp (disch := omega) only [z_up_ne, z_up_nk]; exact s2
  · simp (disch := omega) only [z_up_ne, z_up_nk, ku, if_neg]; exact s3
  · simp (disch := omega) only [z_up_ne, z_up_nk, ku, if_neg]; exact s4
  · simp (disch := omega) only [z_up_ne, z_up_nk, ku, if_neg]; exact s5
  · simp [z_up, ku]
  · simp (disch := omega) only [z_up_ne, z_up_nk, ku, if_neg]; exact s7
  · simp (disch := omega) only [z_up_ne, z_up_nk, ku, if_neg]; exact s8
  · simp (disch := omega) only [z_up_ne, z_up_nk, ku, if_neg]; exact s9
  · simp (disch := omega) only [z_up_ne, z_up_nk, ku, if_neg]; exact s10
  · simp (disch := omega) only [z_up_ne, z_up_nk, ku, if_neg]; exact s11
  · intro j hj; simp (disch := omega) only [z_up_ne, ku, if_neg]; exact q1 j hj
  · intro j hj; simp (disch := omega) only [z_up_ne, ku, if_neg]; exact q2 j hj
  · intro j hj; simp (disch := omega) only [z_up_ne, ku, if_neg]; exact q3 j hj
  · intro j hj; simp (disch := omega) only [z_up_ne, ku, if_neg]; exact q4 j hj
  · intro j hj; simp (disch := omega) only [z_up_ne, ku, if_neg]; exact q5 j hj
  · intro j hj; simp (disch := omega) only [z_up_ne, ku, if_neg]; exact q6 j hj
  · intro j hj; simp (disch := omega) only [z_up_ne, ku, if_neg]; exact q7 j hj
  · intro j hj; simp (disch := omega) only [z_up_ne, ku, if_neg]; exact q8 j hj

theorem SR_month {M : zMem} {a : Nat} {k : Nat → Int} (h : SR M a k) (v : Int) : SR (z_up M (a + 7) 0 v) a (ku k 2 v) := by
  obtain ⟨⟨s1, s2, s3, s4, s5, s6, s7, s8⟩, ⟨s9, s10, s11⟩, q1, q2, q3, q4, q5, q6, q7, q8⟩ := h
  have em : zmask (ku k 2 v) = zmask k := by simp [zmask, ku]
  refine ⟨⟨?_, ?_, ?_, ?_, ?_, ?_, ?_, ?_⟩, ⟨?_, ?_, ?_⟩, ?_, ?_, ?_, ?_, ?_, ?_, ?_, ?_⟩
  · simp (disch := omega) only [z_up_ne, z_up_nk, ku, if_neg]; exact s1
  · rw [em]; simp (disch := omega) only [z_up_ne, z_up_nk]; exact s2
  · simp (disch := omega) only [z_up_ne, z_up_nk, ku, if_neg]; exact s3
  · simp (disch := omega) only [z_up_ne, z_up_nk, ku, if_neg]; exact s4
  · simp (disch := omega) only [z_up_ne, z_up_nk, ku, if_neg]; exact s5
  · simp (disch := omega) only [z_up_ne, z_up_nk, ku, if_neg]; exact s6
  · simp (disch := omega) only [z_up_ne, z_up_nk, ku, if_neg]; exact s7
  · simp (disch := omega) only [z_up_ne, z_up_nk, ku, if_neg]; exact s8
  · simp [z_up, ku]
  · simp (disch := omega) only [z_up_ne, z_up_nk, ku, if_neg]; exact s10
  · simp (disch := omega) only [z_up_ne, z_up_nk, ku, if_neg]; exact s11
  · intro j hj; simp (disch := omega) only [z_up_ne, ku, if_neg]; exact q1 j hj
  · intro j hj; simp (disch := omega) only [z_up_ne, ku, if_neg]; exact q2 j hj
  · intro j hj; simp (disch := omega) only [z_up_ne, ku, if_neg]; exact q3 j hj
  · intro j hj; simp (disch := omega) only [z_up_ne, ku, if_neg]; exact q4 j hj
  · intro j hj; simp (disch := omega) only [z_up_ne, ku, if_neg]; exact q5 j hj
  · intro j hj; simp (disch := omega) only [z_up_ne, ku, if_neg]; exact q6 j hj
  · intro j hj; simp (disch := omega) only [z_up_ne, ku, if_neg]; exact q7 j hj
  · intro j hj; simp (disch := omega) only [z_up_ne, ku, if_neg]; exact q8 j hj

theorem SR_hold {M : zMem} {a : Nat} {k : Nat → Int} (h : SR M a k) (v : Int) : SR (z_up M (a + 7) 1 v) a (ku k 73 v) := by
  obtain ⟨⟨s1, s2, s3, s4, s5, s6, s7, s8⟩, ⟨s9, s10, s11⟩, q1, q2, q3, q4, q5, q6, q7, q8⟩ := h
  have em : zmask (ku k 73 v) = zmask k := by simp [zmask, ku]
  refine ⟨⟨?_, ?_, ?_, ?_, ?_, ?_, ?_, ?_⟩, ⟨?_, ?_, ?_⟩, ?_, ?_, ?_, ?_, ?_, ?_, ?_, ?_⟩
  · simp (disch := omega) only [z_up_ne, z_up_nk, ku, if_neg]; exact s1
  · rw [em]; simp (disch := omega) only [z_up_ne, z_up_nk]; exact s2
  · simp (disch := omega) only [z_up_ne, z_up_nk, ku, if_neg]; exact s3
  · simp (disch := omega) only [z_up_ne, z_up_nk, ku, if_neg]; exact s4
  · simp (disch := omega) only [z_up_ne, z_up_nk, ku, if_neg]; exact s5
  · simp (disch := omega) only [z_up_ne, z_up_nk, ku, if_neg]; exact s6
  · simp (disch := omega) only [z_up_ne, z_up_nk, ku, if_neg]; exact s7
  · simp (disch := omega) only [z_up_ne, z_up_nk, ku, if_neg]; exact s8
  · simp (disch := omega) only [z_up_ne, z_up_nk, ku, if_neg]; exact s9
  · simp [z_up, ku]
  · simp (disch := omega) only [z_up_ne, z_up_nk, ku, if_neg]; exact s11
  · intro j hj; simp (disch := omega) only [z_up_ne, ku, if_neg]; exact q1 j hj
  · intro j hj; simp (disch := omega) only [z_up_ne, ku, if_neg]; exact q2 j hj
  · intro j hj; simp (disch := omega) only [z_up_ne, ku, if_neg]; exact q3 j hj
  · intro j hj; simp (disch := omega) only [z_up_ne, ku, if_neg]; exact q4 j hj
  · intro j hj; simp (disch := omega) only [z_up_ne, ku, if_neg]; exact q5 j hj
  · intro j hj; simp (disch := omega) only [z_up_ne, ku, if_neg]; exact q6 j hj
  · intro j hj; simp (disch := omega) only [z_up_ne, ku, if_neg]; exact q7 j hj
  · intro j hj; simp (disch := omega) only [z_up_ne, ku, if_neg]; exact q8 j hj

theorem SR_mood {M : zMem} {a : Nat} {k : Nat → Int} (h : SR M a k) (v : Int) : SR (z_up M (a + 7) 2 v) a (ku k 74 v) := by
  obtain ⟨⟨s1, s2, s3, s4, s5, s6, s7, s8⟩, ⟨s9, s10, s11⟩, q1, q2, q3, q4, q5, q6, q7, q8⟩ := h
  have em : zmask (ku k 74 v) = zmask k := by simp [zmask, ku]
  refine ⟨⟨?_, ?_, ?_, ?_, ?_, ?_, ?_, ?_⟩, ⟨?_, ?_, ?_⟩, ?_, ?_, ?_, ?_, ?_, ?_, ?_, ?_⟩
  · simp (disch := omega) only [z_up_ne, z_up_nk, ku, if_neg]; exact s1
  · rw [em]; simp (disch := omega) only [z_up_ne, z_up_nk]; exact s2
  · simp (disch := omega) only [z_up_ne, z_up_nk, ku, if_neg]; exact s3
  · simp (disch := omega) only [z_up_ne, z_up_nk, ku, if_neg]; exact s4
  · simp (disch := omega) only [z_up_ne, z_up_nk, ku, if_neg]; exact s5
  · simp (disch := omega) only [z_up_ne, z_up_nk, ku, if_neg]; exact s6
  · simp (disch := omega) only [z_up_ne, z_up_nk, ku, if_neg]; exact s7
  · simp (disch := omega) only [z_up_ne, z_up_nk, ku, if_neg]; exact s8
  · simp (disch := omega) only [z_up_ne, z_up_nk, ku, if_neg]; exact s9
  · simp (disch := omega) only [z_up_ne, z_up_nk, ku, if_neg]; exact s10
  · simp [z_up, ku]
  · intro j hj; simp (disch := omega) only [z_up_ne, ku, if_neg]; exact q1 j hj
  · intro j hj; simp (disch := omega) only [z_up_ne, ku, if_neg]; exact q2 j hj
  · intro j hj; simp (disch := omega) only [z_up_ne, ku, if_neg]; exact q3 j hj
  · intro j hj; simp (disch := omega) only [z_up_ne, ku, if_neg]; exact q4 j hj
  · intro j hj; simp (disch := omega) only [z_up_ne, ku, if_neg]; exact q5 j hj
  · intro j hj; simp (disch := omega) only [z_up_ne, ku, if_neg]; exact q6 j hj
  · intro j hj; simp (disch := omega) only [z_up_ne, ku, if_neg]; exact q7 j hj
  · intro j hj; simp (disch := omega) only [z_up_ne, ku, if_neg]; exact q8 j hj

theorem SR_term {M : zMem} {a : Nat} {k : Nat → Int} (h : SR M a k) {x : Int} (hx : x = 0 ∨ x = 1 ∨ x = 2) (v : Int) : SR (z_up M (a + 7) x.toNat v) a (ku k (tix x) v) := by
  rcases hx with rfl | rfl | rfl
  · exact SR_month h v
  · exact SR_hold h v
  · exact SR_mood h v
theorem SR_tix {M : zMem} {a : Nat} {k : Nat → Int} (h : SR M a k) {x : Int} (hx : x = 0 ∨ x = 1 ∨ x = 2) : M (a + 7) x.toNat = k (tix x) := by
  rcases hx with rfl | rfl | rfl
  · exact h.2.1.1
  · exact h.2.1.2.1
  · exact h.2.1.2.2

set_option maxRecDepth 100000 in
set_option maxHeartbeats 4000000 in
theorem c_X10_terms {d sz : Nat} {S : zSh} {M : zMem} (hL : LY S sz) (hr : ∀ i, i < 7 → 0 ≤ M 54 i ∧ M 54 i ≤ 1000000) {k : Nat → Int} (hs : SR M 1 k) (hi : KI k) {x y : Int} : zX (d + 1) 0 0 mX10_terms [zn 0, zi x, zi y] sz S M (zI sz S (fun r M' => (¬ ((x = 0 ∧ 0 ≤ y ∧ y ≤ 71) ∨ (x = 1 ∧ 1 ≤ y ∧ k 0 ≤ y ∧ y ≤ 999) ∨ (x = 2 ∧ 0 ≤ y ∧ y ≤ 9)) ∧ r = -1 ∧ M' = cRef M (-1)) ∨ (((x = 0 ∧ 0 ≤ y ∧ y ≤ 71) ∨ (x = 1 ∧ 1 ≤ y ∧ k 0 ≤ y ∧ y ≤ 999) ∨ (x = 2 ∧ 0 ≤ y ∧ y ≤ 9)) ∧ r = k (tix x) ∧ cOK true M M' (ku k (tix x) y)))) := by
  refine zX_of pl_RX10 [some (zn 0), some (zi x), some (zi y), none] 1 rfl rfl ?_
  refine x_aload_n 1 rfl dX10_terms_0 0 rfl rfl ?_
  refine x_iload_n 2 rfl dX10_terms_1 1 rfl rfl ?_
  refine x_iload_n 3 rfl dX10_terms_2 2 rfl rfl ?_
  refine x_cVi 6 rfl lX10_166 dX10_terms_3 (lyl0 hL) (lys0 hL) (c_X10_termCanBe hL hs hi) rfl rfl (Nat.le_of_ble_eq_true rfl) (fun r M1 hr1 => ?_)
  obtain ⟨rfl, hM1⟩ := hr1
  rw [hM1]
  refine x_if_ne 9 15 rfl dX10_terms_6 (by decide) (fun c6 => ?_) (fun c6 => ?_)
  · have hb : ((x = 0 ∧ 0 ≤ y ∧ y ≤ 71) ∨ (x = 1 ∧ 1 ≤ y ∧ k 0 ≤ y ∧ y ≤ 999) ∨ (x = 2 ∧ 0 ≤ y ∧ y ≤ 9)) := by split at c6 <;> omega
    have hx : x = 0 ∨ x = 1 ∨ x = 2 := by omega
    refine x_aload_n 16 rfl dX10_terms_15 0 rfl rfl ?_
    refine x_getr 19 rfl fX10_26 dX10_terms_16 (lyl0 hL) (lys0 hL) (by decide) (24) rfl ?_
    refine x_cVu 22 rfl lX10_97 dX10_terms_19 (lyl24 hL) (lys24 hL) (c_X2_clear (ly_lg24 hL)) rfl rfl (Nat.le_of_ble_eq_true rfl) (fun M1 hM1 => ?_)
    rw [hM1]
    have hs1 : SR (z_up M 24 3 0) 1 k := SR_frame hs (fun i a b => by rw [z_up_ne (by omega)])
    refine x_aload_n 23 rfl dX10_terms_22 0 rfl rfl ?_
    refine x_getr 26 rfl fX10_10 dX10_terms_23 (lyl0 hL) (lys0 hL) (by decide) (1) rfl ?_
    refine x_getr 29 rfl fX10_170 dX10_terms_26 (lyl1 hL) (lys1 hL) (by decide) (8) rfl ?_
    refine x_iload_n 30 rfl dX10_terms_29 1 rfl rfl ?_
    refine x_iald 31 rfl dX10_terms_30 (lyl8 hL) (lys8 hL) (by omega) (by omega) ?_
    refine y_istore_n 32 rfl dX10_terms_31 rfl rfl (ls' := [_, _, _, _]) rfl (by decide) ?_
    refine x_aload_n 33 rfl dX10_terms_32 0 rfl rfl ?_
    refine x_getr 36 rfl fX10_10 dX10_terms_33 (lyl0 hL) (lys0 hL) (by decide) (1) rfl ?_
    refine x_getr 39 rfl fX10_170 dX10_terms_36 (lyl1 hL) (lys1 hL) (by decide) (8) rfl ?_
    refine x_iload_n 40 rfl dX10_terms_39 1 rfl rfl ?_
    refine x_iload_n 41 rfl dX10_terms_40 2 rfl rfl ?_
    refine x_iast 42 rfl dX10_terms_41 (lyl8 hL) (lys8 hL) (by omega) (by omega) ?_
    refine x_aload_n 43 rfl dX10_terms_42 0 rfl rfl ?_
    refine x_iload_n 44 rfl dX10_terms_43 3 rfl rfl ?_
    refine x_cVi 47 rfl lX10_104 dX10_terms_44 (lyl0 hL) (lys0 hL) (c_X10_accept hL) rfl rfl (Nat.le_of_ble_eq_true rfl) (fun r M1 hr1 => ?_)
    obtain ⟨rfl, hM1⟩ := hr1
    rw [hM1]
    refine x_reti dX10_terms_47 rfl ?_
    right; refine ⟨hb, by rw [z_up_ne (by decide)]; exact SR_tix hs hx, cOK_clr (fun i h1 => by rw [z_up_ne (by omega)]) (by rw [z_up_ne (by decide)]) (SR_term hs1 hx y)⟩
  · refine x_aload_n 10 rfl dX10_terms_9 0 rfl rfl ?_
    refine x_iconst 11 rfl dX10_terms_10 (by decide) ?_
    refine x_cVi 14 rfl lX10_90 dX10_terms_11 (lyl0 hL) (lys0 hL) (c_X10_refuse hL hr (x := -1) (by decide)) rfl rfl (Nat.le_of_ble_eq_true rfl) (fun r M1 hr1 => ?_)
    obtain ⟨rfl, hM1⟩ := hr1
    rw [hM1]
    refine x_reti dX10_terms_14 rfl ?_
    left; exact ⟨by split at c6 <;> omega, rfl, rfl⟩

set_option maxRecDepth 100000 in
set_option maxHeartbeats 4000000 in
theorem c_X10_force {d sz : Nat} {S : zSh} {M : zMem} (hL : LY S sz) (hr : ∀ i, i < 7 → 0 ≤ M 54 i ∧ M 54 i ≤ 1000000) {k : Nat → Int} (hs : SR M 1 k) (hi : KI k) {x : Int} : zX (d + 1) 0 0 mX10_force [zn 0, zi x] sz S M (zI sz S (fun r M' => (¬ (-1 ≤ x ∧ x < k 78) ∧ r = -2 ∧ M' = cRef M (-2)) ∨ ((-1 ≤ x ∧ x < k 78) ∧ r = k 79 ∧ cOK false M M' (ku k 79 x)))) := by
  have i1 := hi.1
  have e7 := hs.1.2.2.2.2.2.2.1
  have e8 := hs.1.2.2.2.2.2.2.2
  refine zX_of pl_RX10 [some (zn 0), some (zi x), none] 1 rfl rfl ?_
  refine x_iload_n 1 rfl dX10_force_0 1 rfl rfl ?_
  refine x_iconst 2 rfl dX10_force_1 (by decide) ?_
  refine x_icmp_eq 5 27 rfl dX10_force_2 (by decide) (fun c2 => ?_) (fun c2 => ?_)
  · refine x_aload_n 28 rfl dX10_force_27 0 rfl rfl ?_
    refine x_getr 31 rfl fX10_10 dX10_force_28 (lyl0 hL) (lys0 hL) (by decide) (1) rfl ?_
    refine x_geti 34 rfl fX10_222 dX10_force_31 (lyl1 hL) (lys1 hL) (by decide) ?_
    refine y_istore_n 35 rfl dX10_force_34 rfl rfl (ls' := [_, _, _]) rfl (by decide) ?_
    refine x_aload_n 36 rfl dX10_force_35 0 rfl rfl ?_
    refine x_getr 39 rfl fX10_10 dX10_force_36 (lyl0 hL) (lys0 hL) (by decide) (1) rfl ?_
    refine x_iload_n 40 rfl dX10_force_39 1 rfl rfl ?_
    refine x_puti 43 rfl fX10_222 dX10_force_40 (lyl1 hL) (lys1 hL) (by decide) ?_
    refine x_aload_n 44 rfl dX10_force_43 0 rfl rfl ?_
    refine x_iload_n 45 rfl dX10_force_44 2 rfl rfl ?_
    refine x_cVi 48 rfl lX10_104 dX10_force_45 (lyl0 hL) (lys0 hL) (c_X10_accept hL) rfl rfl (Nat.le_of_ble_eq_true rfl) (fun r M1 hr1 => ?_)
    obtain ⟨rfl, hM1⟩ := hr1
    rw [hM1]
    refine x_reti dX10_force_48 rfl ?_
    right; refine ⟨by omega, e8, cOK_not (fun i h1 => by rw [z_up_ne (by omega)]) (by rw [z_up_ne (by decide)]) (SR_force hs x)⟩
  · refine x_iload_n 6 rfl dX10_force_5 1 rfl rfl ?_
    refine x_if_lt 9 20 rfl dX10_force_6 (by decide) (fun c6 => ?_) (fun c6 => ?_)
    · refine x_aload_n 21 rfl dX10_force_20 0 rfl rfl ?_
      refine x_bipush 23 rfl dX10_force_21 (by decide) ?_
      refine x_cVi 26 rfl lX10_90 dX10_force_23 (lyl0 hL) (lys0 hL) (c_X10_refuse hL hr (x := -2) (by decide)) rfl rfl (Nat.le_of_ble_eq_true rfl) (fun r M1 hr1 => ?_)
      obtain ⟨rfl, hM1⟩ := hr1
      rw [hM1]
      refine x_reti dX10_force_26 rfl ?_
      left; exact ⟨by omega, rfl, rfl⟩
    · refine x_iload_n 10 rfl dX10_force_9 1 rfl rfl ?_
      refine x_aload_n 11 rfl dX10_force_10 0 rfl rfl ?_
      refine x_getr 14 rfl fX10_10 dX10_force_11 (lyl0 hL) (lys0 hL) (by decide) (1) rfl ?_
      refine x_geti 17 rfl fX10_189 dX10_force_14 (lyl1 hL) (lys1 hL) (by decide) ?_
      refine x_icmp_lt 20 27 rfl dX10_force_17 (by decide) (fun c17 => ?_) (fun c17 => ?_)
      · refine x_aload_n 28 rfl dX10_force_27 0 rfl rfl ?_
        refine x_getr 31 rfl fX10_10 dX10_force_28 (lyl0 hL) (lys0 hL) (by decide) (1) rfl ?_
        refine x_geti 34 rfl fX10_222 dX10_force_31 (lyl1 hL) (lys1 hL) (by decide) ?_
        refine y_istore_n 35 rfl dX10_force_34 rfl rfl (ls' := [_, _, _]) rfl (by decide) ?_
        refine x_aload_n 36 rfl dX10_force_35 0 rfl rfl ?_
        refine x_getr 39 rfl fX10_10 dX10_force_36 (lyl0 hL) (lys0 hL) (by decide) (1) rfl ?_
        refine x_iload_n 40 rfl dX10_force_39 1 rfl rfl ?_
        refine x_puti 43 rfl fX10_222 dX10_force_40 (lyl1 hL) (lys1 hL) (by decide) ?_
        refine x_aload_n 44 rfl dX10_force_43 0 rfl rfl ?_
        refine x_iload_n 45 rfl dX10_force_44 2 rfl rfl ?_
        refine x_cVi 48 rfl lX10_104 dX10_force_45 (lyl0 hL) (lys0 hL) (c_X10_accept hL) rfl rfl (Nat.le_of_ble_eq_true rfl) (fun r M1 hr1 => ?_)
        obtain ⟨rfl, hM1⟩ := hr1
        rw [hM1]
        refine x_reti dX10_force_48 rfl ?_
        right; refine ⟨by omega, e8, cOK_not (fun i h1 => by rw [z_up_ne (by omega)]) (by rw [z_up_ne (by decide)]) (SR_force hs x)⟩
      · refine x_aload_n 21 rfl dX10_force_20 0 rfl rfl ?_
        refine x_bipush 23 rfl dX10_force_21 (by decide) ?_
        refine x_cVi 26 rfl lX10_90 dX10_force_23 (lyl0 hL) (lys0 hL) (c_X10_refuse hL hr (x := -2) (by decide)) rfl rfl (Nat.le_of_ble_eq_true rfl) (fun r M1 hr1 => ?_)
        obtain ⟨rfl, hM1⟩ := hr1
        rw [hM1]
        refine x_reti dX10_force_26 rfl ?_
        left; exact ⟨by omega, rfl, rfl⟩

set_option maxRecDepth 100000 in
set_option maxHeartbeats 4000000 in
theorem c_X10_word {d sz : Nat} {S : zSh} {M : zMem} (hL : LY S sz) (hr : ∀ i, i < 7 → 0 ≤ M 54 i ∧ M 54 i ≤ 1000000) {k : Nat → Int} (hs : SR M 1 k) (hi : KI k) {x y : Int} : zX (d + 1) 0 0 mX10_word [zn 0, zi x, zi y] sz S M (zI sz S (fun r M' => (¬ (0 ≤ y ∧ y ≤ 999999) ∧ r = -1 ∧ M' = cRef M (-1)) ∨ ((0 ≤ y ∧ y ≤ 999999) ∧ ¬ (0 ≤ x ∧ x < k 75) ∧ r = -2 ∧ M' = cRef M (-2)) ∨ ((0 ≤ y ∧ y ≤ 999999) ∧ (0 ≤ x ∧ x < k 75) ∧ k 77 = 8 ∧ r = -5 ∧ M' = cRef M (-5)) ∨ ((0 ≤ y ∧ y ≤ 999999) ∧ (0 ≤ x ∧ x < k 75) ∧ k 77 < 8 ∧ r = k 77 + 1 ∧ cOK false M M' (kWord k x y)))) := by
  have i1 := hi.1
  have e6 := hs.1.2.2.2.2.2.1
  refine zX_of pl_RX10 [some (zn 0), some (zi x), some (zi y)] 0 rfl rfl ?_
  refine x_iload_n 1 rfl dX10_word_0 2 rfl rfl ?_
  refine x_if_lt 4 11 rfl dX10_word_1 (by decide) (fun c1 => ?_) (fun c1 => ?_)
  · refine x_aload_n 12 rfl dX10_word_11 0 rfl rfl ?_
    refine x_iconst 13 rfl dX10_word_12 (by decide) ?_
    refine x_cVi 16 rfl lX10_90 dX10_word_13 (lyl0 hL) (lys0 hL) (c_X10_refuse hL hr (x := -1) (by decide)) rfl rfl (Nat.le_of_ble_eq_true rfl) (fun r M1 hr1 => ?_)
    obtain ⟨rfl, hM1⟩ := hr1
    rw [hM1]
    refine x_reti dX10_word_16 rfl ?_
    left; exact ⟨by omega, rfl, rfl⟩
  · refine x_iload_n 5 rfl dX10_word_4 2 rfl rfl ?_
    refine x_ldc_w (x := 999999) 8 rfl kX10_267 (by decide) dX10_word_5 ?_
    refine x_icmp_le 11 17 rfl dX10_word_8 (by decide) (fun c8 => ?_) (fun c8 => ?_)
    · refine x_aload_n 18 rfl dX10_word_17 0 rfl rfl ?_
      refine x_getr 21 rfl fX10_10 dX10_word_18 (lyl0 hL) (lys0 hL) (by decide) (1) rfl ?_
      refine x_iload_n 22 rfl dX10_word_21 1 rfl rfl ?_
      refine x_cVi 25 rfl lX10_107 dX10_word_22 (lyl1 hL) (lys1 hL) (c_X7_hasHand (ly_sh1 hL) hs hi) rfl rfl (Nat.le_of_ble_eq_true rfl) (fun r M1 hr1 => ?_)
      obtain ⟨rfl, hM1⟩ := hr1
      rw [hM1]
      refine x_if_ne 28 35 rfl dX10_word_25 (by decide) (fun c25 => ?_) (fun c25 => ?_)
      · refine x_aload_n 36 rfl dX10_word_35 0 rfl rfl ?_
        refine x_getr 39 rfl fX10_10 dX10_word_36 (lyl0 hL) (lys0 hL) (by decide) (1) rfl ?_
        refine x_geti 42 rfl fX10_268 dX10_word_39 (lyl1 hL) (lys1 hL) (by decide) ?_
        refine x_bipush 44 rfl dX10_word_42 (by decide) ?_
        refine x_icmp_lt 47 54 rfl dX10_word_44 (by decide) (fun c44 => ?_) (fun c44 => ?_)
        · refine x_aload_n 55 rfl dX10_word_54 0 rfl rfl ?_
          refine x_aload_n 56 rfl dX10_word_55 0 rfl rfl ?_
          refine x_getr 59 rfl fX10_10 dX10_word_56 (lyl0 hL) (lys0 hL) (by decide) (1) rfl ?_
          refine x_iload_n 60 rfl dX10_word_59 1 rfl rfl ?_
          refine x_iload_n 61 rfl dX10_word_60 2 rfl rfl ?_
          refine x_cVi 64 rfl lX10_271 dX10_word_61 (lyl1 hL) (lys1 hL) (c_X7_addWord (ly_sh1 hL) hs hi (by omega)) rfl rfl (Nat.le_of_ble_eq_true rfl) (fun r M2 hr2 => ?_)
          obtain ⟨rfl, g1, g2, g3⟩ := hr2
          refine x_cVi 67 rfl lX10_104 dX10_word_64 (lyl0 hL) (lys0 hL) (c_X10_accept hL) rfl rfl (Nat.le_of_ble_eq_true rfl) (fun r M1 hr1 => ?_)
          obtain ⟨rfl, hM1⟩ := hr1
          rw [hM1]
          refine x_reti dX10_word_67 rfl ?_
          right; right; right; exact ⟨by omega, by split at c25 <;> omega, by omega, rfl, cOK_not g1 g2 g3⟩
        · refine x_aload_n 48 rfl dX10_word_47 0 rfl rfl ?_
          refine x_bipush 50 rfl dX10_word_48 (by decide) ?_
          refine x_cVi 53 rfl lX10_90 dX10_word_50 (lyl0 hL) (lys0 hL) (c_X10_refuse hL hr (x := -5) (by decide)) rfl rfl (Nat.le_of_ble_eq_true rfl) (fun r M1 hr1 => ?_)
          obtain ⟨rfl, hM1⟩ := hr1
          rw [hM1]
          refine x_reti dX10_word_53 rfl ?_
          right; right; left; exact ⟨by omega, by split at c25 <;> omega, by omega, rfl, rfl⟩
      · refine x_aload_n 29 rfl dX10_word_28 0 rfl rfl ?_
        refine x_bipush 31 rfl dX10_word_29 (by decide) ?_
        refine x_cVi 34 rfl lX10_90 dX10_word_31 (lyl0 hL) (lys0 hL) (c_X10_refuse hL hr (x := -2) (by decide)) rfl rfl (Nat.le_of_ble_eq_true rfl) (fun r M1 hr1 => ?_)
        obtain ⟨rfl, hM1⟩ := hr1
        rw [hM1]
        refine x_reti dX10_word_34 rfl ?_
        right; left; exact ⟨by omega, by split at c25 <;> omega, rfl, rfl⟩
    · refine x_aload_n 12 rfl dX10_word_11 0 rfl rfl ?_
      refine x_iconst 13 rfl dX10_word_12 (by decide) ?_
      refine x_cVi 16 rfl lX10_90 dX10_word_13 (lyl0 hL) (lys0 hL) (c_X10_refuse hL hr (x := -1) (by decide)) rfl rfl (Nat.le_of_ble_eq_true rfl) (fun r M1 hr1 => ?_)
      obtain ⟨rfl, hM1⟩ := hr1
      rw [hM1]
      refine x_reti dX10_word_16 rfl ?_
      left; exact ⟨by omega, rfl, rfl⟩

set_option maxRecDepth 100000 in
set_option maxHeartbeats 4000000 in
theorem c_X10_forget {d sz : Nat} {S : zSh} {M : zMem} (hL : LY S sz) {k : Nat → Int} (hs : SR M 1 k) (hi : KI k)  : zX d 0 0 mX10_forget [zn 0] sz S M (zI sz S (fun r M' => r = k 77 ∧ M' = z_up M 1 12 0 ∧ SR M' 1 (ku k 77 0))) := by
  refine zX_of pl_RX10 [some (zn 0), none] 1 rfl rfl ?_
  refine x_aload_n 1 rfl dX10_forget_0 0 rfl rfl ?_
  refine x_getr 4 rfl fX10_10 dX10_forget_1 (lyl0 hL) (lys0 hL) (by decide) (1) rfl ?_
  refine x_geti 7 rfl fX10_268 dX10_forget_4 (lyl1 hL) (lys1 hL) (by decide) ?_
  refine y_istore_n 8 rfl dX10_forget_7 rfl rfl (ls' := [_, _]) rfl (by decide) ?_
  refine x_aload_n 9 rfl dX10_forget_8 0 rfl rfl ?_
  refine x_getr 12 rfl fX10_10 dX10_forget_9 (lyl0 hL) (lys0 hL) (by decide) (1) rfl ?_
  refine x_iconst 13 rfl dX10_forget_12 (by decide) ?_
  refine x_puti 16 rfl fX10_268 dX10_forget_13 (lyl1 hL) (lys1 hL) (by decide) ?_
  refine x_iload_n 17 rfl dX10_forget_16 1 rfl rfl ?_
  refine x_reti dX10_forget_17 rfl ?_
  exact ⟨hs.1.2.2.2.2.2.1, rfl, SR_words hs 0⟩

set_option maxRecDepth 100000 in
set_option maxHeartbeats 4000000 in
theorem c_X10_feed {d sz : Nat} {S : zSh} {M : zMem} (hL : LY S sz) {x0 x1 x2 x3 x4 : Int} (hn : 0 ≤ M 30 1 ∧ M 30 1 ≤ 400) : zX (d + 1) 0 0 mX10_feed [zn 0, zi x0, zi x1, zi x2, zi x3, zi x4] sz S M (zI sz S (fun r M' => (400 < M 30 1 + 20 ∧ r = -1 ∧ M' = M) ∨ (M 30 1 + 20 ≤ 400 ∧ r = M 30 1 + 20 ∧ M' = z_up (z_mup M 31 (zput (zput (zput (zput (zput (M 31) (M 30 1).toNat x0) ((M 30 1).toNat + 4) x1) ((M 30 1).toNat + 8) x2) ((M 30 1).toNat + 12) x3) ((M 30 1).toNat + 16) x4)) 30 1 (M 30 1 + 20)))) := by
  refine zX_of pl_RX10 [some (zn 0), some (zi x0), some (zi x1), some (zi x2), some (zi x3), some (zi x4)] 0 rfl rfl ?_
  refine x_aload_n 1 rfl dX10_feed_0 0 rfl rfl ?_
  refine x_getr 4 rfl fX10_36 dX10_feed_1 (lyl0 hL) (lys0 hL) (by decide) (30) rfl ?_
  refine x_geti 7 rfl fX10_173 dX10_feed_4 (lyl30 hL) (lys30 hL) (by decide) ?_
  refine x_bipush 9 rfl dX10_feed_7 (by decide) ?_
  refine y_iadd 10 rfl dX10_feed_9 (by omega) ?_
  refine x_sipush 13 rfl dX10_feed_10 (by decide) ?_
  refine x_icmp_le 16 18 rfl dX10_feed_13 (by decide) (fun c13 => ?_) (fun c13 => ?_)
  · refine x_aload_n 19 rfl dX10_feed_18 0 rfl rfl ?_
    refine x_getr 22 rfl fX10_36 dX10_feed_19 (lyl0 hL) (lys0 hL) (by decide) (30) rfl ?_
    refine x_iload_n 23 rfl dX10_feed_22 1 rfl rfl ?_
    refine x_cVu 26 rfl lX10_176 dX10_feed_23 (lyl30 hL) (lys30 hL) (c_X8_put hL (by (try simp (disch := omega) only [z_up_ne, z_up_nk, z_up_eq, z_mup_ne, z_mup_eq, Int.reduceToNat]); omega)) rfl rfl (Nat.le_of_ble_eq_true rfl) (fun M23 h23 => ?_)
    rw [h23]
    try simp (disch := omega) only [z_up_ne, z_up_nk, z_up_eq, z_mup_ne, z_mup_eq, Int.reduceToNat]
    refine x_aload_n 27 rfl dX10_feed_26 0 rfl rfl ?_
    refine x_getr 30 rfl fX10_36 dX10_feed_27 (lyl0 hL) (lys0 hL) (by decide) (30) rfl ?_
    refine x_iload_n 31 rfl dX10_feed_30 2 rfl rfl ?_
    refine x_cVu 34 rfl lX10_176 dX10_feed_31 (lyl30 hL) (lys30 hL) (c_X8_put hL (by (try simp (disch := omega) only [z_up_ne, z_up_nk, z_up_eq, z_mup_ne, z_mup_eq, Int.reduceToNat]); omega)) rfl rfl (Nat.le_of_ble_eq_true rfl) (fun M31 h31 => ?_)
    rw [h31]
    try simp (disch := omega) only [z_up_ne, z_up_nk, z_up_eq, z_mup_ne, z_mup_eq, Int.reduceToNat]
    refine x_aload_n 35 rfl dX10_feed_34 0 rfl rfl ?_
    refine x_getr 38 rfl fX10_36 dX10_feed_35 (lyl0 hL) (lys0 hL) (by decide) (30) rfl ?_
    refine x_iload_n 39 rfl dX10_feed_38 3 rfl rfl ?_
    refine x_cVu 42 rfl lX10_176 dX10_feed_39 (lyl30 hL) (lys30 hL) (c_X8_put hL (by (try simp (disch := omega) only [z_up_ne, z_up_nk, z_up_eq, z_mup_ne, z_mup_eq, Int.reduceToNat]); omega)) rfl rfl (Nat.le_of_ble_eq_true rfl) (fun M39 h39 => ?_)
    rw [h39]
    try simp (disch := omega) only [z_up_ne, z_up_nk, z_up_eq, z_mup_ne, z_mup_eq, Int.reduceToNat]
    refine x_aload_n 43 rfl dX10_feed_42 0 rfl rfl ?_
    refine x_getr 46 rfl fX10_36 dX10_feed_43 (lyl0 hL) (lys0 hL) (by decide) (30) rfl ?_
    refine x_iload 48 rfl dX10_feed_46 rfl ?_
    refine x_cVu 51 rfl lX10_176 dX10_feed_48 (lyl30 hL) (lys30 hL) (c_X8_put hL (by (try simp (disch := omega) only [z_up_ne, z_up_nk, z_up_eq, z_mup_ne, z_mup_eq, Int.reduceToNat]); omega)) rfl rfl (Nat.le_of_ble_eq_true rfl) (fun M48 h48 => ?_)
    rw [h48]
    try simp (disch := omega) only [z_up_ne, z_up_nk, z_up_eq, z_mup_ne, z_mup_eq, Int.reduceToNat]
    refine x_aload_n 52 rfl dX10_feed_51 0 rfl rfl ?_
    refine x_getr 55 rfl fX10_36 dX10_feed_52 (lyl0 hL) (lys0 hL) (by decide) (30) rfl ?_
    refine x_iload 57 rfl dX10_feed_55 rfl ?_
    refine x_cVu 60 rfl lX10_176 dX10_feed_57 (lyl30 hL) (lys30 hL) (c_X8_put hL (by (try simp (disch := omega) only [z_up_ne, z_up_nk, z_up_eq, z_mup_ne, z_mup_eq, Int.reduceToNat]); omega)) rfl rfl (Nat.le_of_ble_eq_true rfl) (fun M57 h57 => ?_)
    rw [h57]
    try simp (disch := omega) only [z_up_ne, z_up_nk, z_up_eq, z_mup_ne, z_mup_eq, Int.reduceToNat]
    refine x_aload_n 61 rfl dX10_feed_60 0 rfl rfl ?_
    refine x_getr 64 rfl fX10_36 dX10_feed_61 (lyl0 hL) (lys0 hL) (by decide) (30) rfl ?_
    refine x_geti 67 rfl fX10_173 dX10_feed_64 (lyl30 hL) (lys30 hL) (by decide) ?_
    try simp (disch := omega) only [z_up_ne, z_up_nk, z_up_eq, z_mup_ne, z_mup_eq, Int.reduceToNat, Int.toNat_natCast]
    refine x_reti dX10_feed_67 rfl ?_
    right
    refine ⟨by omega, by omega, ?_⟩
    funext u j
    by_cases u1 : u = 30
    · subst u1
      by_cases j1 : j = 1
      · subst j1; simp (disch := omega) only [z_up_ne, z_up_nk, z_up_eq, z_mup_ne, z_mup_eq, Int.reduceToNat]; omega
      · simp (disch := omega) only [z_up_ne, z_up_nk, z_up_eq, z_mup_ne, z_mup_eq, Int.reduceToNat]
    · rw [z_up_ne u1, z_up_ne u1]
      by_cases u2 : u = 31
      · subst u2; simp (disch := omega) only [z_up_ne, z_up_nk, z_up_eq, z_mup_ne, z_mup_eq, Int.reduceToNat]; simp only [show (M 30 1 + 4).toNat = (M 30 1).toNat + 4 by omega, show (M 30 1 + 4 + 4).toNat = (M 30 1).toNat + 8 by omega, show (M 30 1 + 4 + 4 + 4).toNat = (M 30 1).toNat + 12 by omega, show (M 30 1 + 4 + 4 + 4 + 4).toNat = (M 30 1).toNat + 16 by omega]
      · simp (disch := omega) only [z_up_ne, z_up_nk, z_up_eq, z_mup_ne, z_mup_eq, Int.reduceToNat]
  · refine x_iconst 17 rfl dX10_feed_16 (by decide) ?_
    refine x_reti dX10_feed_17 rfl ?_
    left; exact ⟨by omega, rfl, rfl⟩
