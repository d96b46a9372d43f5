/-! years on the class's side -/
theorem LwC_cp {S S' : zSh} {sz sz' : Nat} {M M' : zMem} {a : Nat} {k : Nat → Int} {Lw : List gC} (h : LwC S sz M 1 k Lw) (hi : KI k) (hS : ∀ T nh nc, TX S sz T nh nc → TX S' sz' T nh nc) (h10 : ∀ t, t < 6 → M' (a + 10) t = M 11 t) (hM : ∀ T nh nc, 75 ≤ T → TX S sz T nh nc → M' T = M T ∧ M' (T + 1) = M (T + 1) ∧ M' (T + 2) = M (T + 2)) : LwC S' sz' M' a k Lw := by
  intro h79
  have i1 := hi.1
  obtain ⟨T, nh, nc, h1, h2, h3, h4⟩ := h h79
  obtain ⟨m0, m1, m2⟩ := hM T nh nc h2 h3
  exact ⟨T, nh, nc, by rw [h10 _ (by omega)]; exact h1, h2, hS T nh nc h3, TXM_frame h4 m0 m1 m2⟩
theorem TX_new {S : zSh} {sz T nh nc : Nat} {v : Nat × Nat × (Nat → Int)} (h : TX S sz T nh nc) : TX (shS (z_sup S sz v) sz) (sz + 11) T nh nc := by
  obtain ⟨a, b, c, d⟩ := h
  exact ⟨by omega, shS_at (by omega) (z_sup_at (by omega) b), shS_at (by omega) (z_sup_at (by omega) c), shS_at (by omega) (z_sup_at (by omega) d)⟩

set_option maxRecDepth 100000 in
set_option maxHeartbeats 4000000 in
theorem c_X10_years {d sz : Nat} {S : zSh} {M : zMem} (hL : LY S sz) (hr : ∀ i, i < 7 → 0 ≤ M 54 i ∧ M 54 i ≤ 1000000) (hT : lwT S sz M 1) {k : Nat → Int} (hs : SR M 1 k) (hi : KI k) {Lw : List gC} (hLw : LwC S sz M 1 k Lw) (hv : v42 M) (hlt : M 0 3 = -1 ∨ ∃ a : Nat, M 0 3 = (a : Int) ∧ 75 ≤ a ∧ SH S sz a) {x y : Int} : zX (d + 6) 11 89 mX10_years [zn 0, zi x, zi y] sz S M (fun v sz' S' M' => (¬ ((0 ≤ x ∧ x ≤ 1000000) ∧ (1 ≤ y ∧ y ≤ 60)) ∧ v = some (zi (-1)) ∧ sz' = sz ∧ S' = S ∧ M' = cRef M (-1)) ∨ (((0 ≤ x ∧ x ≤ 1000000) ∧ (1 ≤ y ∧ y ≤ 60)) ∧ k 76 = 0 ∧ v = some (zi (-3)) ∧ sz' = sz ∧ S' = S ∧ M' = cRef M (-3)) ∨ (((0 ≤ x ∧ x ≤ 1000000) ∧ (1 ≤ y ∧ y ≤ 60)) ∧ 0 < k 76 ∧ v = some (zi (zyr Lw k x y.toNat).2.2) ∧ ∃ a : Nat, ((M 0 3 = (a : Int) ∧ 75 ≤ a ∧ SH S sz a ∧ sz' = sz ∧ S' = S) ∨ (M 0 3 = -1 ∧ a = sz ∧ sz' = sz + 11 ∧ S' = shS (z_sup S sz (7, 18, fun _ => -1)) sz)) ∧ SR M' a (zyr Lw k x y.toNat).1 ∧ (∀ t, t < 6 → M' (a + 10) t = M 11 t) ∧ (∀ i, i < sz → ¬ (a ≤ i ∧ i < a + 11) → i ≠ 0 → i ≠ 41 → i ≠ 42 → i ≠ 44 → M' i = M i) ∧ M' 0 = ku (ku (M 0) 3 (a : Int)) 15 0 ∧ v42 M')) := by
  have hsz := hL.1
  have i1 := hi.1
  have e5 := hs.1.2.2.1
  refine zX_of pl_RX10 [some (zn 0), some (zi x), some (zi y)] 0 rfl rfl ?_
  refine x_iload_n 1 rfl dX10_years_0 1 rfl rfl ?_
  refine x_if_lt 4 22 rfl dX10_years_1 (by decide) (fun c1 => ?_) (fun c1 => ?_)
  · refine x_aload_n 23 rfl dX10_years_22 0 rfl rfl ?_
    refine x_iconst 24 rfl dX10_years_23 (by decide) ?_
    refine x_cVi 27 rfl lX10_90 dX10_years_24 (lyl0 hL) (lys0 hL) (c_X10_refuse hL hr (by decide)) rfl rfl (Nat.le_of_ble_eq_true rfl) (fun r1 M1 hr1 => ?_)
    obtain ⟨hr2, hM1⟩ := hr1
    refine x_iret dX10_years_27 rfl ?_
    exact Or.inl ⟨by omega, by rw [hr2], rfl, rfl, hM1⟩
  · refine x_iload_n 5 rfl dX10_years_4 1 rfl rfl ?_
    refine x_ldc_w (x := 1000000) 8 rfl kX10_286 (by decide) dX10_years_5 ?_
    refine x_icmp_gt 11 22 rfl dX10_years_8 (by decide) (fun c8 => ?_) (fun c8 => ?_)
    · refine x_aload_n 23 rfl dX10_years_22 0 rfl rfl ?_
      refine x_iconst 24 rfl dX10_years_23 (by decide) ?_
      refine x_cVi 27 rfl lX10_90 dX10_years_24 (lyl0 hL) (lys0 hL) (c_X10_refuse hL hr (by decide)) rfl rfl (Nat.le_of_ble_eq_true rfl) (fun r1 M1 hr1 => ?_)
      obtain ⟨hr2, hM1⟩ := hr1
      refine x_iret dX10_years_27 rfl ?_
      exact Or.inl ⟨by omega, by rw [hr2], rfl, rfl, hM1⟩
    · refine x_iload_n 12 rfl dX10_years_11 2 rfl rfl ?_
      refine x_iconst 13 rfl dX10_years_12 (by decide) ?_
      refine x_icmp_lt 16 22 rfl dX10_years_13 (by decide) (fun c13 => ?_) (fun c13 => ?_)
      · refine x_aload_n 23 rfl dX10_years_22 0 rfl rfl ?_
        refine x_iconst 24 rfl dX10_years_23 (by decide) ?_
        refine x_cVi 27 rfl lX10_90 dX10_years_24 (lyl0 hL) (lys0 hL) (c_X10_refuse hL hr (by decide)) rfl rfl (Nat.le_of_ble_eq_true rfl) (fun r1 M1 hr1 => ?_)
        obtain ⟨hr2, hM1⟩ := hr1
        refine x_iret dX10_years_27 rfl ?_
        exact Or.inl ⟨by omega, by rw [hr2], rfl, rfl, hM1⟩
      · refine x_iload_n 17 rfl dX10_years_16 2 rfl rfl ?_
        refine x_bipush 19 rfl dX10_years_17 (by decide) ?_
        refine x_icmp_le 22 28 rfl dX10_years_19 (by decide) (fun c19 => ?_) (fun c19 => ?_)
        · refine x_aload_n 29 rfl dX10_years_28 0 rfl rfl ?_
          refine x_getr 32 rfl fX10_10 dX10_years_29 (lyl0 hL) (lys0 hL) (by decide) (1) rfl ?_
          refine x_geti 35 rfl fX10_143 dX10_years_32 (lyl1 hL) (lys1 hL) (by decide) ?_
          rw [e5]
          refine x_if_ne 38 45 rfl dX10_years_35 (by decide) (fun c35 => ?_) (fun c35 => ?_)
          · refine x_aload_n 46 rfl dX10_years_45 0 rfl rfl ?_
            refine x_getm 49 rfl fX10_287 dX10_years_46 (lyl0 hL) (lys0 hL) (by decide) ?_
            refine x_ifnonnull 52 63 rfl dX10_years_49 (by decide) (fun c49 => ?_) (fun c49 => ?_)
            · obtain ⟨a, hla, ha75, h⟩ := hlt.resolve_left c49
              refine x_aload_n 64 rfl dX10_years_63 0 rfl rfl ?_
              refine x_getm 67 rfl fX10_287 dX10_years_64 (lyl0 hL) (lys0 hL) (by decide) ?_
              rw [hla]
              refine x_aload_n 68 rfl dX10_years_67 0 rfl rfl ?_
              refine x_getr 71 rfl fX10_10 dX10_years_68 (lyl0 hL) (lys0 hL) (by decide) (1) rfl ?_
              refine x_cVu 74 rfl lX10_210 dX10_years_71 (shl0 h) (shs0 h) (c_X7_become h (ly_sh1 hL) (by omega) hT) rfl rfl (Nat.le_of_ble_eq_true rfl) (fun M3 hr5 => ?_)
              obtain ⟨g1, g2, g3⟩ := hr5
              have hla3 : M3 0 3 = (a : Int) := by rw [g1 0 (by omega)]; exact hla
              have hLw3 : LwC S sz M3 a k Lw := LwC_cp hLw hi (fun _ _ _ h9 => h9) g3 (fun T nh nc b1 b2 => by have b3 := TX_SH h b2; exact ⟨g1 _ (by omega), g1 _ (by omega), g1 _ (by omega)⟩)
              refine x_aload_n 75 rfl dX10_years_74 0 rfl rfl ?_
              refine x_aload_n 76 rfl dX10_years_75 0 rfl rfl ?_
              refine x_getr 79 rfl fX10_59 dX10_years_76 (lyl0 hL) (lys0 hL) (by decide) (43) rfl ?_
              refine x_aload_n 80 rfl dX10_years_79 0 rfl rfl ?_
              refine x_getm 83 rfl fX10_287 dX10_years_80 (lyl0 hL) (lys0 hL) (by decide) ?_
              rw [hla3]
              refine x_iload_n 84 rfl dX10_years_83 1 rfl rfl ?_
              refine x_iload_n 85 rfl dX10_years_84 2 rfl rfl ?_
              refine x_cVi 88 rfl lX10_290 dX10_years_85 (lyl43 hL) (lys43 hL) (c_X4_drift (Lw := Lw) hL h ha75 (g2 k hs) hi (by omega) hLw3 (fun j hj => by rw [g1 42 (by omega)]; exact hv j hj) (by omega) (by omega)) rfl rfl (Nat.le_of_ble_eq_true rfl) (fun r7 M4 hr7 => ?_)
              obtain ⟨g5, g6, g7, g8⟩ := hr7
              refine x_cVi 91 rfl lX10_104 dX10_years_88 (lyl0 hL) (lys0 hL) (c_X10_accept hL) rfl rfl (Nat.le_of_ble_eq_true rfl) (fun r9 M5 hr9 => ?_)
              obtain ⟨hr10, hM5⟩ := hr9
              refine x_iret dX10_years_91 rfl ?_
              refine Or.inr (Or.inr ⟨⟨by omega, by omega⟩, by omega, by rw [hr10, g5], a, Or.inl ⟨rfl, ha75, h, rfl, rfl⟩, ?_, fun t ht => ?_, fun i a1 a2 a3 a4 a5 a6 => ?_, ?_, ?_⟩)
              all_goals rw [hM5]
              · exact SR_out g6 (by omega)
              · rw [z_up_ne (by omega), g7 _ (by omega) (by omega) (by omega) (by omega) (by omega) (by omega) (by omega)]; exact g3 t ht
              · rw [z_up_ne a3, g7 i (by omega) (by omega) (by omega) (by omega) a4 a5 a6]; exact g1 i a2
              · rw [z_upm, z_mup_eq, g7 0 (by omega) (by omega) (by omega) (by omega) (by omega) (by omega) (by omega), g1 0 (by omega)]; congr 1; funext j; unfold ku; split
                · rename_i e; rw [e]; exact hla
                · rfl
              · exact fun j hj => by rw [z_up_ne (by decide)]; exact g8 j hj
            · refine x_aload_n 53 rfl dX10_years_52 0 rfl rfl ?_
              refine x_new (N := 18) (sz := sz) 56 rfl nX10_7 dX10_years_53 ?_
              refine x_dupr 57 rfl dX10_years_56 ?_
              refine x_callI  60 rfl lX10_9 dX10_years_57 (c_X7_init (sz := 0) (a := sz) z_sup_eq) rfl rfl (Nat.le_of_ble_eq_true rfl) ?_
              rintro v1 sz1 S1 M1 ⟨rfl, rfl, rfl, rfl⟩
              have hL2 : LY (shS (z_sup S sz (7, 18, fun _ => -1)) sz) (sz + 11) := LY_sh hL
              have hsh : SH (shS (z_sup S sz (7, 18, fun _ => -1)) sz) (sz + 11) sz := SH_shS
              refine x_putm 63 rfl fX10_287 dX10_years_60 (lyl0 hL2) (lys0 hL2) (by decide) ?_
              refine x_aload_n 64 rfl dX10_years_63 0 rfl rfl ?_
              refine x_getm 67 rfl fX10_287 dX10_years_64 (lyl0 hL2) (lys0 hL2) (by decide) ?_
              rw [z_up_eq]
              have hT2 : lwT (shS (z_sup S sz (7, 18, fun _ => -1)) sz) (sz + 11) (z_up (shM (z_mup M sz (z_df 7)) sz) 0 3 (sz : Int)) 1 := fun t ht => by
                rw [z_up_ne (by decide), shM_ne (by omega), z_mup_ne (by omega)]
                rcases hT t ht with h | ⟨r, n2, f2, a1, a2, a3⟩
                · exact Or.inl h
                · exact Or.inr ⟨r, n2, f2, a1, by omega, shS_at (by omega) (z_sup_at (by omega) a3)⟩
              refine x_aload_n 68 rfl dX10_years_67 0 rfl rfl ?_
              refine x_getr 71 rfl fX10_10 dX10_years_68 (lyl0 hL2) (lys0 hL2) (by decide) (1) rfl ?_
              refine x_cVu 74 rfl lX10_210 dX10_years_71 (shl0 hsh) (shs0 hsh) (c_X7_become hsh (ly_sh1 hL2) (by omega) hT2) rfl rfl (Nat.le_of_ble_eq_true rfl) (fun M3 hr5 => ?_)
              obtain ⟨g1, g2, g3⟩ := hr5
              have hla3 : M3 0 3 = (sz : Int) := by rw [g1 0 (by omega), z_up_eq]
              have hlow : ∀ i, i < sz → i ≠ 0 → (z_up (shM (z_mup M sz (z_df 7)) sz) 0 3 (sz : Int)) i = M i := fun i b1 b2 => by rw [z_up_ne b2, shM_ne (by omega), z_mup_ne (by omega)]
              have hLw3 : LwC (shS (z_sup S sz (7, 18, fun _ => -1)) sz) (sz + 11) M3 sz k Lw := LwC_cp hLw hi (fun _ _ _ h9 => TX_new h9) (fun t ht => by rw [g3 t ht, hlow 11 (by omega) (by decide)]) (fun T nh nc b1 b2 => by have b3 := b2.1; exact ⟨by rw [g1 _ (by omega), hlow _ (by omega) (by omega)], by rw [g1 _ (by omega), hlow _ (by omega) (by omega)], by rw [g1 _ (by omega), hlow _ (by omega) (by omega)]⟩)
              refine x_aload_n 75 rfl dX10_years_74 0 rfl rfl ?_
              refine x_aload_n 76 rfl dX10_years_75 0 rfl rfl ?_
              refine x_getr 79 rfl fX10_59 dX10_years_76 (lyl0 hL2) (lys0 hL2) (by decide) (43) rfl ?_
              refine x_aload_n 80 rfl dX10_years_79 0 rfl rfl ?_
              refine x_getm 83 rfl fX10_287 dX10_years_80 (lyl0 hL2) (lys0 hL2) (by decide) ?_
              rw [hla3]
              refine x_iload_n 84 rfl dX10_years_83 1 rfl rfl ?_
              refine x_iload_n 85 rfl dX10_years_84 2 rfl rfl ?_
              refine x_cVi 88 rfl lX10_290 dX10_years_85 (lyl43 hL2) (lys43 hL2) (c_X4_drift (Lw := Lw) hL2 hsh hsz (g2 k (SR_frame hs (fun i b1 b2 => hlow i (by omega) (by omega)))) hi (by omega) hLw3 (fun j hj => by rw [g1 42 (by omega), hlow 42 (by omega) (by decide)]; exact hv j hj) (by omega) (by omega)) rfl rfl (Nat.le_of_ble_eq_true rfl) (fun r7 M4 hr7 => ?_)
              obtain ⟨g5, g6, g7, g8⟩ := hr7
              refine x_cVi 91 rfl lX10_104 dX10_years_88 (lyl0 hL2) (lys0 hL2) (c_X10_accept hL2) rfl rfl (Nat.le_of_ble_eq_true rfl) (fun r9 M5 hr9 => ?_)
              obtain ⟨hr10, hM5⟩ := hr9
              refine x_iret dX10_years_91 rfl ?_
              refine Or.inr (Or.inr ⟨⟨by omega, by omega⟩, by omega, by rw [hr10, g5], sz, Or.inr ⟨c49, rfl, rfl, rfl⟩, ?_, fun t ht => ?_, fun i a1 a2 a3 a4 a5 a6 => ?_, ?_, ?_⟩)
              all_goals rw [hM5]
              · exact SR_out g6 (by omega)
              · rw [z_up_ne (by omega), g7 _ (by omega) (by omega) (by omega) (by omega) (by omega) (by omega) (by omega), g3 t ht, hlow 11 (by omega) (by decide)]
              · rw [z_up_ne a3, g7 i (by omega) (by omega) (by omega) (by omega) a4 a5 a6, g1 i a2, hlow i a1 a3]
              · rw [z_upm, z_mup_eq, g7 0 (by omega) (by omega) (by omega) (by omega) (by omega) (by omega) (by omega), g1 0 (by omega), z_upm, z_mup_eq, shM_ne (by omega), z_mup_ne (by omega)]
              · exact fun j hj => by rw [z_up_ne (by decide)]; exact g8 j hj
          · refine x_aload_n 39 rfl dX10_years_38 0 rfl rfl ?_
            refine x_bipush 41 rfl dX10_years_39 (by decide) ?_
            refine x_cVi 44 rfl lX10_90 dX10_years_41 (lyl0 hL) (lys0 hL) (c_X10_refuse hL hr (by decide)) rfl rfl (Nat.le_of_ble_eq_true rfl) (fun r3 M2 hr3 => ?_)
            obtain ⟨hr4, hM2⟩ := hr3
            refine x_iret dX10_years_44 rfl ?_
            exact Or.inr (Or.inl ⟨⟨by omega, by omega⟩, by omega, by rw [hr4], rfl, rfl, hM2⟩)
        · refine x_aload_n 23 rfl dX10_years_22 0 rfl rfl ?_
          refine x_iconst 24 rfl dX10_years_23 (by decide) ?_
          refine x_cVi 27 rfl lX10_90 dX10_years_24 (lyl0 hL) (lys0 hL) (c_X10_refuse hL hr (by decide)) rfl rfl (Nat.le_of_ble_eq_true rfl) (fun r1 M1 hr1 => ?_)
          obtain ⟨hr2, hM1⟩ := hr1
          refine x_iret dX10_years_27 rfl ?_
          exact Or.inl ⟨by omega, by rw [hr2], rfl, rfl, hM1⟩
