/-! image, back, years on the class's side -/
theorem LY_sh {S : zSh} {sz : Nat} {v : Nat × Nat × (Nat → Int)} (h : LY S sz) : LY (shS (z_sup S sz v) sz) (sz + 11) := by
  have h1 := h.1
  refine ⟨by omega, fun i hi => ?_⟩
  exact shS_at (by omega) (z_sup_at (by omega) (h.2 i hi))
theorem SH_shS {S : zSh} {a : Nat} : SH (shS S a) (a + 11) a := by
  refine ⟨Nat.le_refl _, ?_, ?_, ?_, ?_, ?_, ?_, ?_, ?_, ?_, ?_, ?_⟩
  all_goals unfold shS
  all_goals repeat (first | exact z_sup_eq | refine z_sup_at (by omega) ?_)
theorem shM_ne {M : zMem} {a i : Nat} (h : i < a ∨ a + 11 ≤ i) : shM M a i = M i := by
  unfold shM
  simp (disch := omega) only [z_up_ne, z_mup_ne]
/-- the texts of a ship stand -/
def lwT (S : zSh) (sz : Nat) (M : zMem) (a : Nat) : Prop := ∀ t, t < 6 → M (a + 10) t = -1 ∨ ∃ (r n2 : Nat) (f2 : Nat → Int), M (a + 10) t = (r : Int) ∧ r < sz ∧ S r = (9, n2, f2)
/-- a ship at a is what the ship at 1 was: made newly, or overwritten -/
def cpS (S : zSh) (sz : Nat) (M : zMem) (old : Int) (sz' : Nat) (S' : zSh) (M' : zMem) (a : Nat) (fr : Nat → Prop) : Prop := ((old = (a : Int) ∧ 75 ≤ a ∧ SH S sz a ∧ sz' = sz ∧ S' = S) ∨ (old = -1 ∧ a = sz ∧ sz' = sz + 11 ∧ S' = shS (z_sup S sz (7, 18, fun _ => -1)) sz)) ∧ (∀ k, SR M 1 k → SR M' a k) ∧ (∀ t, t < 6 → M' (a + 10) t = M 11 t) ∧ (∀ i, i < sz → ¬ (a ≤ i ∧ i < a + 11) → fr i → M' i = M i)

set_option maxRecDepth 100000 in
set_option maxHeartbeats 4000000 in
theorem c_X10_image {d sz : Nat} {S : zSh} {M : zMem} (hL : LY S sz) (hr : ∀ i, i < 7 → 0 ≤ M 54 i ∧ M 54 i ≤ 1000000) (hT : lwT S sz M 1) {x : Int} (himg : ∀ j, j < 2 → M 23 j = -1 ∨ ∃ a : Nat, M 23 j = (a : Int) ∧ 75 ≤ a ∧ SH S sz a) : zX (d + 2) 11 89 mX10_image [zn 0, zi x] sz S M (fun v sz' S' M' => (¬ (0 ≤ x ∧ x < 2) ∧ v = some (zi (-1)) ∧ sz' = sz ∧ S' = S ∧ M' = cRef M (-1)) ∨ ((0 ≤ x ∧ x < 2) ∧ v = some (zi 0) ∧ ∃ a, cpS S sz M (M 23 x.toNat) sz' S' M' a (fun i => i ≠ 0 ∧ i ≠ 23) ∧ M' 23 = ku (M 23) x.toNat (a : Int) ∧ M' 0 = ku (M 0) 15 0)) := by
  have hsz := hL.1
  refine zX_of pl_RX10 [some (zn 0), some (zi x)] 0 rfl rfl ?_
  refine x_iload_n 1 rfl dX10_image_0 1 rfl rfl ?_
  refine x_if_lt 4 9 rfl dX10_image_1 (by decide) (fun c1 => ?_) (fun c1 => ?_)
  · refine x_aload_n 10 rfl dX10_image_9 0 rfl rfl ?_
    refine x_iconst 11 rfl dX10_image_10 (by decide) ?_
    refine x_cVi 14 rfl lX10_90 dX10_image_11 (lyl0 hL) (lys0 hL) (c_X10_refuse hL hr (by decide)) rfl rfl (Nat.le_of_ble_eq_true rfl) (fun r1 M1 hr1 => ?_)
    obtain ⟨hr2, hM1⟩ := hr1
    refine x_iret dX10_image_14 rfl ?_
    exact Or.inl ⟨by omega, by rw [hr2], rfl, rfl, hM1⟩
  · refine x_iload_n 5 rfl dX10_image_4 1 rfl rfl ?_
    refine x_iconst 6 rfl dX10_image_5 (by decide) ?_
    refine x_icmp_lt 9 15 rfl dX10_image_6 (by decide) (fun c6 => ?_) (fun c6 => ?_)
    · refine x_aload_n 16 rfl dX10_image_15 0 rfl rfl ?_
      refine x_getr 19 rfl fX10_19 dX10_image_16 (lyl0 hL) (lys0 hL) (by decide) (23) rfl ?_
      refine x_iload_n 20 rfl dX10_image_19 1 rfl rfl ?_
      refine x_aald (Or.inl rfl) 21 rfl dX10_image_20 (lyl23 hL) (lys23 hL) (by omega) (by omega) ?_
      refine x_ifnonnull 24 37 rfl dX10_image_21 (by decide) (fun c21 => ?_) (fun c21 => ?_)
      · obtain ⟨a, hla, ha75, h⟩ := (himg x.toNat (by omega)).resolve_left c21
        refine x_aload_n 38 rfl dX10_image_37 0 rfl rfl ?_
        refine x_getr 41 rfl fX10_19 dX10_image_38 (lyl0 hL) (lys0 hL) (by decide) (23) rfl ?_
        refine x_iload_n 42 rfl dX10_image_41 1 rfl rfl ?_
        refine x_aald (Or.inl rfl) 43 rfl dX10_image_42 (lyl23 hL) (lys23 hL) (by omega) (by omega) ?_
        rw [hla]
        refine x_aload_n 44 rfl dX10_image_43 0 rfl rfl ?_
        refine x_getr 47 rfl fX10_10 dX10_image_44 (lyl0 hL) (lys0 hL) (by decide) (1) rfl ?_
        refine x_cVu 50 rfl lX10_210 dX10_image_47 (shl0 h) (shs0 h) (c_X7_become h (ly_sh1 hL) (by omega) hT) rfl rfl (Nat.le_of_ble_eq_true rfl) (fun M3 hr3 => ?_)
        obtain ⟨g1, g2, g3⟩ := hr3
        refine x_aload_n 51 rfl dX10_image_50 0 rfl rfl ?_
        refine x_iconst 52 rfl dX10_image_51 (by decide) ?_
        refine x_cVi 55 rfl lX10_104 dX10_image_52 (lyl0 hL) (lys0 hL) (c_X10_accept hL) rfl rfl (Nat.le_of_ble_eq_true rfl) (fun r5 M5 hr5 => ?_)
        obtain ⟨hr6, hM5⟩ := hr5
        refine x_iret dX10_image_55 rfl ?_
        refine Or.inr ⟨by omega, by rw [hr6], a, ⟨Or.inl ⟨rfl, ha75, h, rfl, rfl⟩, fun k hk => ?_, fun t ht => ?_, fun i a1 a2 a3 => ?_⟩, ?_, ?_⟩
        all_goals rw [hM5]
        · exact SR_out (g2 k hk) (by omega)
        · rw [z_up_ne (by omega)]; exact g3 t ht
        · rw [z_up_ne a3.1]; exact g1 i a2
        · rw [z_up_ne (by decide), g1 23 (by omega)]; funext j; unfold ku; split
          · rename_i e; rw [e]; exact hla
          · rfl
        · rw [z_upm, z_mup_eq, g1 0 (by omega)]
      · refine x_aload_n 25 rfl dX10_image_24 0 rfl rfl ?_
        refine x_getr 28 rfl fX10_19 dX10_image_25 (lyl0 hL) (lys0 hL) (by decide) (23) rfl ?_
        refine x_iload_n 29 rfl dX10_image_28 1 rfl rfl ?_
        refine x_new (N := 18) (sz := sz) 32 rfl nX10_7 dX10_image_29 ?_
        refine x_dupr 33 rfl dX10_image_32 ?_
        refine x_callI  36 rfl lX10_9 dX10_image_33 (c_X7_init (sz := 0) (a := sz) z_sup_eq) rfl rfl (Nat.le_of_ble_eq_true rfl) ?_
        rintro v1 sz1 S1 M1 ⟨rfl, rfl, rfl, rfl⟩
        have hL2 : LY (shS (z_sup S sz (7, 18, fun _ => -1)) sz) (sz + 11) := LY_sh hL
        have hsh : SH (shS (z_sup S sz (7, 18, fun _ => -1)) sz) (sz + 11) sz := SH_shS
        refine x_aast (Or.inl ⟨rfl, rfl⟩) 37 rfl dX10_image_36 (lyl23 hL2) (lys23 hL2) (by omega) (by omega) (Or.inr ⟨sz, 18, _, rfl, by omega, shs0 hsh⟩) ?_
        refine x_aload_n 38 rfl dX10_image_37 0 rfl rfl ?_
        refine x_getr 41 rfl fX10_19 dX10_image_38 (lyl0 hL2) (lys0 hL2) (by decide) (23) rfl ?_
        refine x_iload_n 42 rfl dX10_image_41 1 rfl rfl ?_
        refine x_aald (Or.inl rfl) 43 rfl dX10_image_42 (lyl23 hL2) (lys23 hL2) (by omega) (by omega) ?_
        rw [z_up_eq]
        have hT2 : lwT (shS (z_sup S sz (7, 18, fun _ => -1)) sz) (sz + 11) ((z_up (shM (z_mup M sz (z_df 7)) sz) 23 x.toNat (sz : Int))) 1 := fun t ht => by
          rw [z_up_ne (by decide), shM_ne (by omega), z_mup_ne (by omega)]
          rcases hT t ht with h | ⟨r, n2, f2, a1, a2, a3⟩
          · exact Or.inl h
          · exact Or.inr ⟨r, n2, f2, a1, by omega, shS_at (by omega) (z_sup_at (by omega) a3)⟩
        refine x_aload_n 44 rfl dX10_image_43 0 rfl rfl ?_
        refine x_getr 47 rfl fX10_10 dX10_image_44 (lyl0 hL2) (lys0 hL2) (by decide) (1) rfl ?_
        refine x_cVu 50 rfl lX10_210 dX10_image_47 (shl0 hsh) (shs0 hsh) (c_X7_become hsh (ly_sh1 hL2) (by omega) hT2) rfl rfl (Nat.le_of_ble_eq_true rfl) (fun M3 hr3 => ?_)
        obtain ⟨g1, g2, g3⟩ := hr3
        refine x_aload_n 51 rfl dX10_image_50 0 rfl rfl ?_
        refine x_iconst 52 rfl dX10_image_51 (by decide) ?_
        refine x_cVi 55 rfl lX10_104 dX10_image_52 (lyl0 hL2) (lys0 hL2) (c_X10_accept hL2) rfl rfl (Nat.le_of_ble_eq_true rfl) (fun r5 M5 hr5 => ?_)
        obtain ⟨hr6, hM5⟩ := hr5
        refine x_iret dX10_image_55 rfl ?_
        refine Or.inr ⟨by omega, by rw [hr6], sz, ⟨Or.inr ⟨c21, rfl, rfl, rfl⟩, fun k hk => ?_, fun t ht => ?_, fun i a1 a2 a3 => ?_⟩, ?_, ?_⟩
        all_goals rw [hM5]
        · exact SR_out (g2 k (SR_out (SR_frame hk (fun i b1 b2 => by rw [shM_ne (by omega), z_mup_ne (by omega)])) (by decide))) (by omega)
        · rw [z_up_ne (by omega), g3 t ht, z_up_ne (by decide), shM_ne (by omega), z_mup_ne (by omega)]
        · rw [z_up_ne a3.1, g1 i a2, z_up_ne a3.2, shM_ne (by omega), z_mup_ne (by omega)]
        · rw [z_up_ne (by decide), g1 23 (by omega), z_upm, z_mup_eq, shM_ne (by omega), z_mup_ne (by omega)]
        · rw [z_upm, z_mup_eq, g1 0 (by omega), z_up_ne (by decide), shM_ne (by omega), z_mup_ne (by omega)]
    · refine x_aload_n 10 rfl dX10_image_9 0 rfl rfl ?_
      refine x_iconst 11 rfl dX10_image_10 (by decide) ?_
      refine x_cVi 14 rfl lX10_90 dX10_image_11 (lyl0 hL) (lys0 hL) (c_X10_refuse hL hr (by decide)) rfl rfl (Nat.le_of_ble_eq_true rfl) (fun r1 M1 hr1 => ?_)
      obtain ⟨hr2, hM1⟩ := hr1
      refine x_iret dX10_image_14 rfl ?_
      exact Or.inl ⟨by omega, by rw [hr2], rfl, rfl, hM1⟩

set_option maxRecDepth 100000 in
set_option maxHeartbeats 4000000 in
theorem c_X10_back {d sz : Nat} {S : zSh} {M : zMem} (hL : LY S sz) (hr : ∀ i, i < 7 → 0 ≤ M 54 i ∧ M 54 i ≤ 1000000) {x : Int} (himg : ∀ j, j < 2 → M 23 j = -1 ∨ ∃ a : Nat, M 23 j = (a : Int) ∧ 75 ≤ a ∧ SH S sz a ∧ lwT S sz M a) : zX (d + 2) 0 0 mX10_back [zn 0, zi x] sz S M (zI sz S (fun r M' => (¬ (0 ≤ x ∧ x < 2) ∧ r = -1 ∧ M' = cRef M (-1)) ∨ ((0 ≤ x ∧ x < 2) ∧ M 23 x.toNat = -1 ∧ r = -2 ∧ M' = cRef M (-2)) ∨ ((0 ≤ x ∧ x < 2) ∧ r = 0 ∧ ∃ a : Nat, M 23 x.toNat = (a : Int) ∧ (∀ k, SR M a k → SR M' 1 k) ∧ (∀ t, t < 6 → M' 11 t = M (a + 10) t) ∧ (∀ i, ¬ (1 ≤ i ∧ i < 12) → i ≠ 0 → i ≠ 24 → M' i = M i) ∧ M' 0 = ku (M 0) 15 0 ∧ M' 24 = ku (M 24) 3 0))) := by
  refine zX_of pl_RX10 [some (zn 0), some (zi x)] 0 rfl rfl ?_
  refine x_iload_n 1 rfl dX10_back_0 1 rfl rfl ?_
  refine x_if_lt 4 9 rfl dX10_back_1 (by decide) (fun c1 => ?_) (fun c1 => ?_)
  · refine x_aload_n 10 rfl dX10_back_9 0 rfl rfl ?_
    refine x_iconst 11 rfl dX10_back_10 (by decide) ?_
    refine x_cVi 14 rfl lX10_90 dX10_back_11 (lyl0 hL) (lys0 hL) (c_X10_refuse hL hr (by decide)) rfl rfl (Nat.le_of_ble_eq_true rfl) (fun r1 M1 hr1 => ?_)
    obtain ⟨hr2, hM1⟩ := hr1
    refine x_reti dX10_back_14 rfl ?_
    exact Or.inl ⟨by omega, hr2, hM1⟩
  · refine x_iload_n 5 rfl dX10_back_4 1 rfl rfl ?_
    refine x_iconst 6 rfl dX10_back_5 (by decide) ?_
    refine x_icmp_lt 9 15 rfl dX10_back_6 (by decide) (fun c6 => ?_) (fun c6 => ?_)
    · refine x_aload_n 16 rfl dX10_back_15 0 rfl rfl ?_
      refine x_getr 19 rfl fX10_19 dX10_back_16 (lyl0 hL) (lys0 hL) (by decide) (23) rfl ?_
      refine x_iload_n 20 rfl dX10_back_19 1 rfl rfl ?_
      refine x_aald (Or.inl rfl) 21 rfl dX10_back_20 (lyl23 hL) (lys23 hL) (by omega) (by omega) ?_
      refine x_ifnonnull 24 31 rfl dX10_back_21 (by decide) (fun c21 => ?_) (fun c21 => ?_)
      · obtain ⟨a, hla, ha75, h, hT⟩ := (himg x.toNat (by omega)).resolve_left c21
        refine x_aload_n 32 rfl dX10_back_31 0 rfl rfl ?_
        refine x_getr 35 rfl fX10_10 dX10_back_32 (lyl0 hL) (lys0 hL) (by decide) (1) rfl ?_
        refine x_aload_n 36 rfl dX10_back_35 0 rfl rfl ?_
        refine x_getr 39 rfl fX10_19 dX10_back_36 (lyl0 hL) (lys0 hL) (by decide) (23) rfl ?_
        refine x_iload_n 40 rfl dX10_back_39 1 rfl rfl ?_
        refine x_aald (Or.inl rfl) 41 rfl dX10_back_40 (lyl23 hL) (lys23 hL) (by omega) (by omega) ?_
        rw [hla]
        refine x_cVu 44 rfl lX10_210 dX10_back_41 (lyl1 hL) (lys1 hL) (c_X7_become (ly_sh1 hL) h (by omega) hT) rfl rfl (Nat.le_of_ble_eq_true rfl) (fun M5 hr5 => ?_)
        obtain ⟨g1, g2, g3⟩ := hr5
        refine x_aload_n 45 rfl dX10_back_44 0 rfl rfl ?_
        refine x_getr 48 rfl fX10_26 dX10_back_45 (lyl0 hL) (lys0 hL) (by decide) (24) rfl ?_
        refine x_cVu 51 rfl lX10_97 dX10_back_48 (lyl24 hL) (lys24 hL) (c_X2_clear (ly_lg24 hL)) rfl rfl (Nat.le_of_ble_eq_true rfl) (fun M6 hM6 => ?_)
        rw [hM6]
        refine x_aload_n 52 rfl dX10_back_51 0 rfl rfl ?_
        refine x_iconst 53 rfl dX10_back_52 (by decide) ?_
        refine x_cVi 56 rfl lX10_104 dX10_back_53 (lyl0 hL) (lys0 hL) (c_X10_accept hL) rfl rfl (Nat.le_of_ble_eq_true rfl) (fun r7 M7 hr7 => ?_)
        obtain ⟨hr8, hM7⟩ := hr7
        refine x_reti dX10_back_56 rfl ?_
        refine Or.inr (Or.inr ⟨by omega, hr8, a, rfl, fun k hk => ?_, fun t ht => ?_, fun i a1 a2 a3 => ?_, ?_, ?_⟩)
        all_goals rw [hM7]
        · exact SR_out (SR_out (g2 k hk) (by decide)) (by decide)
        · rw [z_up_ne (by decide), z_up_ne (by decide)]; exact g3 t ht
        · rw [z_up_ne a2, z_up_ne a3]; exact g1 i (by omega)
        · rw [z_upm, z_mup_eq, z_up_ne (by decide), g1 0 (by decide)]
        · rw [z_up_ne (by decide), z_upm, z_mup_eq, g1 24 (by decide)]
      · refine x_aload_n 25 rfl dX10_back_24 0 rfl rfl ?_
        refine x_bipush 27 rfl dX10_back_25 (by decide) ?_
        refine x_cVi 30 rfl lX10_90 dX10_back_27 (lyl0 hL) (lys0 hL) (c_X10_refuse hL hr (by decide)) rfl rfl (Nat.le_of_ble_eq_true rfl) (fun r3 M3 hr3 => ?_)
        obtain ⟨hr4, hM3⟩ := hr3
        refine x_reti dX10_back_30 rfl ?_
        exact Or.inr (Or.inl ⟨by omega, c21, hr4, hM3⟩)
    · refine x_aload_n 10 rfl dX10_back_9 0 rfl rfl ?_
      refine x_iconst 11 rfl dX10_back_10 (by decide) ?_
      refine x_cVi 14 rfl lX10_90 dX10_back_11 (lyl0 hL) (lys0 hL) (c_X10_refuse hL hr (by decide)) rfl rfl (Nat.le_of_ble_eq_true rfl) (fun r1 M1 hr1 => ?_)
      obtain ⟨hr2, hM1⟩ := hr1
      refine x_reti dX10_back_14 rfl ?_
      exact Or.inl ⟨by omega, hr2, hM1⟩
