set_option maxRecDepth 100000 in
set_option maxHeartbeats 4000000 in
theorem c_X6_term {d sz : Nat} {S : zSh} {M : zMem} (hL : LY S sz) {n : Nat} {c v : Nat → Int} (hT : TK c v n) (hC : CKr M c v n) {s : gS} (hA : gA n s) {o : Bool} (hO : M 32 8 = (if o = true then 0 else 1)) {inner : Option (gS → gR)} {br : Nat} (hdp : br ≤ 8) (hin : (inner = none ∧ br = 8) ∨ ∃ f, inner = some f ∧ br < 8 ∧ gG n f ∧ ∀ s1, gA n s1 → zX (d + 2) 0 0 mX6_sum [zn 32] sz S (cr M (s1.1 : Int) (-1) (s1.2.1 : Int) ((br : Int) + 1) (s1.2.2.1 : Int) s1.2.2.2) (zU sz S (fun M' => cro M ((br : Int) + 1) (f s1) M'))) {R : gR} (hq : g_term c v o inner s = R) : zX (d + 4) 0 0 mX6_term [zn 32] sz S (cr M (s.1 : Int) (-1) (s.2.1 : Int) (br : Int) (s.2.2.1 : Int) s.2.2.2) (zU sz S (fun M' => cro M (br : Int) R M')) := by
  unfold g_term at hq
  have hn := hT.1
  have hA1 := hA.1
  have hI : ∀ f, inner = some f → gG n f := fun f h => by
    rcases hin with ⟨h1, -⟩ | ⟨g, h1, -, h2, -⟩
    · rw [h1] at h; cases h
    · rw [h1] at h; cases h; exact h2
  have hG : gG n (g_part c v o inner) := gG_part hT hI
  have bad : ∀ (t fl pa u : Int) (cd : Nat → Int) (j : Int), fl ≠ -1 → cro M (br : Int) R (cr M t fl pa (br : Int) u cd) → (0 ≤ j ∧ j ≤ 1000) → zW mX6_term (d + 4) 0 0 [] (zU sz S (fun M' => cro M (br : Int) R M')) 11 [some (zn 32), some (zi 0), some (zi j)] [] sz S (cr M t fl pa (br : Int) u cd) := by
    intro t fl pa u cd j hf hQ hj
    refine x_iload_n 12 rfl dX6_term_11 2 rfl rfl ?_
    refine x_sipush 15 rfl dX6_term_12 (by decide) ?_
    refine x_icmp_ge 18 56 rfl dX6_term_15 (by decide) (fun c15 => ?_) (fun c15 => ?_)
    · refine x_retu dX6_term_56 rfl ?_
      exact hQ
    · refine x_iload_n 19 rfl dX6_term_18 1 rfl rfl ?_
      refine x_if_eq 22 56 rfl dX6_term_19 (by decide) (fun c19 => ?_) (fun c19 => ?_)
      · refine x_retu dX6_term_56 rfl ?_
        exact hQ
      · exfalso; omega
  have loop : ∀ (f : Nat) (s1 : gS) (w1 : gV) (i : Nat), gA n s1 → n < f + s1.1 → i < s1.1 → g_loop c gop_t (g_part c v o inner) f s1 w1 = R → zW mX6_term (d + 4) 0 0 [] (zU sz S (fun M' => cro M (br : Int) R M')) 11 [some (zn 32), some (zi (gop_t (c s1.1))), some (zi (i : Int))] [] sz S (cr M (s1.1 : Int) (-1) (s1.2.1 : Int) (br : Int) (s1.2.2.1 : Int) s1.2.2.2) := by
    intro f
    induction f with
    | zero => intro s1 w1 i hB hf; have := hB.1; omega
    | succ f ih =>
      intro s1 w1 i hB hf hi hq1
      have hB0 := hB.1
      refine x_iload_n 12 rfl dX6_term_11 2 rfl rfl ?_
      refine x_sipush 15 rfl dX6_term_12 (by decide) ?_
      refine x_icmp_ge 18 56 rfl dX6_term_15 (by decide) (fun c15 => ?_) (fun c15 => ?_)
      · exfalso; omega
      · refine x_iload_n 19 rfl dX6_term_18 1 rfl rfl ?_
        refine x_if_eq 22 56 rfl dX6_term_19 (by decide) (fun c19 => ?_) (fun c19 => ?_)
        · rw [g_loop_e c19] at hq1
          refine x_retu dX6_term_56 rfl ?_
          rw [← hq1]
          rfl
        · have hin2 := gop_t_in (c s1.1)
          have hc1 : c s1.1 ≠ 0 := by omega
          have hB2 := gW_A hB (gW_ad hB (hT.lt hB.1 hc1))
          rw [g_loop_s c19] at hq1
          refine x_aload_n 23 rfl dX6_term_22 0 rfl rfl ?_
          refine x_dupr 24 rfl dX6_term_23 ?_
          refine x_geti 27 rfl fX6_47 dX6_term_24 (lyl32 hL) (lys32 hL) (by decide) ?_
          try simp (disch := omega) only [z_up_ne, z_up_nk, z_up_eq, z_mup_ne, z_mup_eq, Int.reduceToNat, Int.toNat_natCast, cr_4, cr_5, cr_6, cr_7, cr_o, cr_u, cr_uo, cr_c, cr_ne, cr_w4, cr_w5, cr_w6, cr_w7, cr_wu, cr_wc]
          refine x_iconst 28 rfl dX6_term_27 (by decide) ?_
          refine y_iadd 29 rfl dX6_term_28 (by omega) ?_
          refine x_puti 32 rfl fX6_47 dX6_term_29 (lyl32 hL) (lys32 hL) (by decide) ?_
          try simp only [cr_4, cr_5, cr_6, cr_7, cr_o, cr_u, cr_uo, cr_c, cr_ne, cr_w4, cr_w5, cr_w6, cr_w7, cr_wu, cr_wc]
          rw [cr_ad s1]
          refine x_aload_n 33 rfl dX6_term_32 0 rfl rfl ?_
          refine x_cVu 36 rfl lX6_156 dX6_term_33 (lyl32 hL) (lys32 hL) (c_X6_part hL hT hC hB2 hO hdp hin) rfl rfl (Nat.le_of_ble_eq_true rfl) (fun M2 hr2 => ?_)
          rcases hq2 : g_part c v o inner (g_ad s1) with t2 | ⟨s2, w2⟩
          · rw [hq2] at hr2 hq1
            obtain ⟨x1, y1, u1, cd1, hu1, hM2⟩ := hr2
            rw [hM2]
            have hf2 : M 34 t2 ≠ -1 := by have := (hC.2 t2 ((hG (g_ad s1) hB2).1 t2 hq2)).2.2; omega
            have hf := hf2
            refine x_aload_n 37 rfl dX6_term_36 0 rfl rfl ?_
            refine x_getr 40 rfl fX6_26 dX6_term_37 (lyl32 hL) (lys32 hL) (by decide) (36) rfl ?_
            refine x_iload_n 41 rfl dX6_term_40 1 rfl rfl ?_
            refine x_iconst 42 rfl dX6_term_41 (by decide) ?_
            refine x_cVu 45 rfl lX6_127 dX6_term_42 (lyl36 hL) (lys36 hL) (c_X9_em0 hL hu1 (by omega) (by decide)) rfl rfl (Nat.le_of_ble_eq_true rfl) (fun M4 hr4 => ?_)
            obtain ⟨u4, cd4, hu4, hM4⟩ := hr4
            rw [hM4]
            refine x_aload_n 46 rfl dX6_term_45 0 rfl rfl ?_
            refine x_cVi 49 rfl lX6_159 dX6_term_46 (lyl32 hL) (lys32 hL) (c_X6_multiplies0 hL hf) rfl rfl (Nat.le_of_ble_eq_true rfl) (fun r M1 hr1 => ?_)
            obtain ⟨rfl, hM1⟩ := hr1
            rw [hM1]
            refine y_istore_n 50 rfl dX6_term_49 rfl rfl (ls' := [_, _, _]) rfl (by decide) ?_
            refine w_iinc 53 rfl dX6_term_50 rfl (by decide) (by omega) rfl (ls' := [_, _, _]) rfl (by decide) ?_
            refine x_goto 11 dX6_term_53 (by decide) ?_
            exact bad _ _ _ _ _ _ hf (by rw [← hq1]; exact ⟨_, _, _, _, hu4, rfl⟩) (by omega)
          · rw [hq2] at hr2 hq1
            have hM2 : M2 = (cr M (s2.1 : Int) (-1) (s2.2.1 : Int) (br : Int) (s2.2.2.1 : Int) s2.2.2.2) := hr2
            rw [hM2]
            have hw9 := gW_step hT hG hB hc1 hq2 (x := gop_t (c s1.1)) (by omega)
            have hw8 := hw9.1
            have hA9 := gW_A hB hw9
            have hu9 : s2.2.2.1 + 1 ≤ s2.1 := hA9.2.2
            have ht9 : s2.1 ≤ n := hA9.1
            refine x_aload_n 37 rfl dX6_term_36 0 rfl rfl ?_
            refine x_getr 40 rfl fX6_26 dX6_term_37 (lyl32 hL) (lys32 hL) (by decide) (36) rfl ?_
            refine x_iload_n 41 rfl dX6_term_40 1 rfl rfl ?_
            refine x_iconst 42 rfl dX6_term_41 (by decide) ?_
            refine x_cVu 45 rfl lX6_127 dX6_term_42 (lyl36 hL) (lys36 hL) (c_X9_em1 hL (s := s2) (by omega) (by omega) (by decide)) rfl rfl (Nat.le_of_ble_eq_true rfl) (fun M1 hM1 => ?_)
            rw [hM1, show gop_t (c s1.1) + 16 * 0 = gop_t (c s1.1) by omega]
            refine x_aload_n 46 rfl dX6_term_45 0 rfl rfl ?_
            refine x_cVi 49 rfl lX6_159 dX6_term_46 (lyl32 hL) (lys32 hL) (c_X6_multiplies1 hL hT hC (s := g_em s2 (gop_t (c s1.1))) ht9) rfl rfl (Nat.le_of_ble_eq_true rfl) (fun r M1 hr1 => ?_)
            obtain ⟨rfl, hM1⟩ := hr1
            rw [hM1]
            refine y_istore_n 50 rfl dX6_term_49 rfl rfl (ls' := [_, _, _]) rfl (by decide) ?_
            refine w_iinc 53 rfl dX6_term_50 rfl (by decide) (by omega) rfl (ls' := [_, _, _]) rfl (by decide) ?_
            refine x_goto 11 dX6_term_53 (by decide) ?_
            refine z_wk (ls' := [some (zn 32), some (zi (gop_t (c (g_em s2 (gop_t (c s1.1))).1))), some (zi ((i + 1 : Nat) : Int))]) ⟨rfl, rfl, z_e (by omega), trivial⟩ (ih (g_em s2 (gop_t (c s1.1))) _ (i + 1) hA9 (by simp only [g_em] at hw8 ⊢; omega) (by simp only [g_em] at hw8 ⊢; omega) hq1)
  refine zX_of pl_RX6 [some (zn 32), none, none] 2 rfl rfl ?_
  refine x_aload_n 1 rfl dX6_term_0 0 rfl rfl ?_
  refine x_cVu 4 rfl lX6_156 dX6_term_1 (lyl32 hL) (lys32 hL) (c_X6_part hL hT hC hA hO hdp hin) rfl rfl (Nat.le_of_ble_eq_true rfl) (fun M2 hr2 => ?_)
  rcases hq2 : g_part c v o inner s with t2 | ⟨s2, w2⟩
  · rw [hq2] at hr2 hq
    obtain ⟨x1, y1, u1, cd1, hu1, hM2⟩ := hr2
    rw [hM2]
    have hf2 : M 34 t2 ≠ -1 := by have := (hC.2 t2 ((hG s hA).1 t2 hq2)).2.2; omega
    have hf := hf2
    refine x_aload_n 5 rfl dX6_term_4 0 rfl rfl ?_
    refine x_cVi 8 rfl lX6_159 dX6_term_5 (lyl32 hL) (lys32 hL) (c_X6_multiplies0 hL hf) rfl rfl (Nat.le_of_ble_eq_true rfl) (fun r M1 hr1 => ?_)
    obtain ⟨rfl, hM1⟩ := hr1
    rw [hM1]
    refine y_istore_n 9 rfl dX6_term_8 rfl rfl (ls' := [_, _, _]) rfl (by decide) ?_
    refine x_iconst 10 rfl dX6_term_9 (by decide) ?_
    refine y_istore_n 11 rfl dX6_term_10 rfl rfl (ls' := [_, _, _]) rfl (by decide) ?_
    exact bad _ _ _ _ _ _ hf (by rw [← hq]; exact ⟨_, _, _, _, hu1, rfl⟩) (by omega)
  · rw [hq2] at hr2 hq
    have hM2 : M2 = (cr M (s2.1 : Int) (-1) (s2.2.1 : Int) (br : Int) (s2.2.2.1 : Int) s2.2.2.2) := hr2
    rw [hM2]
    have hw0 := (hG s hA).2 s2 w2 hq2
    have hA0 := gW_A hA hw0
    have ht0 := hw0.1
    refine x_aload_n 5 rfl dX6_term_4 0 rfl rfl ?_
    refine x_cVi 8 rfl lX6_159 dX6_term_5 (lyl32 hL) (lys32 hL) (c_X6_multiplies1 hL hT hC hA0.1) rfl rfl (Nat.le_of_ble_eq_true rfl) (fun r M1 hr1 => ?_)
    obtain ⟨rfl, hM1⟩ := hr1
    rw [hM1]
    refine y_istore_n 9 rfl dX6_term_8 rfl rfl (ls' := [_, _, _]) rfl (by decide) ?_
    refine x_iconst 10 rfl dX6_term_9 (by decide) ?_
    refine y_istore_n 11 rfl dX6_term_10 rfl rfl (ls' := [_, _, _]) rfl (by decide) ?_
    exact loop 401 s2 w2 0 hA0 (by omega) (by omega) hq

set_option maxRecDepth 100000 in
set_option maxHeartbeats 4000000 in
theorem c_X6_sum {d sz : Nat} {S : zSh} {M : zMem} (hL : LY S sz) {n : Nat} {c v : Nat → Int} (hT : TK c v n) (hC : CKr M c v n) {s : gS} (hA : gA n s) {o : Bool} (hO : M 32 8 = (if o = true then 0 else 1)) {inner : Option (gS → gR)} {br : Nat} (hdp : br ≤ 8) (hin : (inner = none ∧ br = 8) ∨ ∃ f, inner = some f ∧ br < 8 ∧ gG n f ∧ ∀ s1, gA n s1 → zX (d + 2) 0 0 mX6_sum [zn 32] sz S (cr M (s1.1 : Int) (-1) (s1.2.1 : Int) ((br : Int) + 1) (s1.2.2.1 : Int) s1.2.2.2) (zU sz S (fun M' => cro M ((br : Int) + 1) (f s1) M'))) {R : gR} (hq : g_sum c v o inner s = R) : zX (d + 5) 0 0 mX6_sum [zn 32] sz S (cr M (s.1 : Int) (-1) (s.2.1 : Int) (br : Int) (s.2.2.1 : Int) s.2.2.2) (zU sz S (fun M' => cro M (br : Int) R M')) := by
  unfold g_sum at hq
  have hn := hT.1
  have hA1 := hA.1
  have hI : ∀ f, inner = some f → gG n f := fun f h => by
    rcases hin with ⟨h1, -⟩ | ⟨g, h1, -, h2, -⟩
    · rw [h1] at h; cases h
    · rw [h1] at h; cases h; exact h2
  have hG : gG n (g_term c v o inner) := gG_term hT hI
  have bad : ∀ (t fl pa u : Int) (cd : Nat → Int) (j : Int), fl ≠ -1 → cro M (br : Int) R (cr M t fl pa (br : Int) u cd) → (0 ≤ j ∧ j ≤ 1000) → zW mX6_sum (d + 5) 0 0 [] (zU sz S (fun M' => cro M (br : Int) R M')) 6 [some (zn 32), some (zi j), none] [] sz S (cr M t fl pa (br : Int) u cd) := by
    intro t fl pa u cd j hf hQ hj
    refine x_iload_n 7 rfl dX6_sum_6 1 rfl rfl ?_
    refine x_sipush 10 rfl dX6_sum_7 (by decide) ?_
    refine x_icmp_ge 13 78 rfl dX6_sum_10 (by decide) (fun c10 => ?_) (fun c10 => ?_)
    · refine x_retu dX6_sum_78 rfl ?_
      exact hQ
    · refine x_aload_n 14 rfl dX6_sum_13 0 rfl rfl ?_
      refine x_sipush 17 rfl dX6_sum_14 (by decide) ?_
      refine x_cVi 20 rfl lX6_66 dX6_sum_17 (lyl32 hL) (lys32 hL) (c_X6_stands0 hL hf) rfl rfl (Nat.le_of_ble_eq_true rfl) (fun r M1 hr1 => ?_)
      obtain ⟨rfl, hM1⟩ := hr1
      rw [hM1]
      refine x_if_ne 23 33 rfl dX6_sum_20 (by decide) (fun c20 => ?_) (fun c20 => ?_)
      · exfalso; omega
      · refine x_aload_n 24 rfl dX6_sum_23 0 rfl rfl ?_
        refine x_sipush 27 rfl dX6_sum_24 (by decide) ?_
        refine x_cVi 30 rfl lX6_66 dX6_sum_27 (lyl32 hL) (lys32 hL) (c_X6_stands0 hL hf) rfl rfl (Nat.le_of_ble_eq_true rfl) (fun r M1 hr1 => ?_)
        obtain ⟨rfl, hM1⟩ := hr1
        rw [hM1]
        refine x_if_eq 33 78 rfl dX6_sum_30 (by decide) (fun c30 => ?_) (fun c30 => ?_)
        · refine x_retu dX6_sum_78 rfl ?_
          exact hQ
        · exfalso; omega
  have loop : ∀ (f : Nat) (s1 : gS) (w1 : gV) (i : Nat), gA n s1 → n < f + s1.1 → i < s1.1 → g_loop c gop_s (g_term c v o inner) f s1 w1 = R → zW mX6_sum (d + 5) 0 0 [] (zU sz S (fun M' => cro M (br : Int) R M')) 6 [some (zn 32), some (zi (i : Int)), none] [] sz S (cr M (s1.1 : Int) (-1) (s1.2.1 : Int) (br : Int) (s1.2.2.1 : Int) s1.2.2.2) := by
    intro f
    induction f with
    | zero => intro s1 w1 i hB hf; have := hB.1; omega
    | succ f ih =>
      intro s1 w1 i hB hf hi hq1
      have hB0 := hB.1
      refine x_iload_n 7 rfl dX6_sum_6 1 rfl rfl ?_
      refine x_sipush 10 rfl dX6_sum_7 (by decide) ?_
      refine x_icmp_ge 13 78 rfl dX6_sum_10 (by decide) (fun c10 => ?_) (fun c10 => ?_)
      · exfalso; omega
      · refine x_aload_n 14 rfl dX6_sum_13 0 rfl rfl ?_
        refine x_sipush 17 rfl dX6_sum_14 (by decide) ?_
        refine x_cVi 20 rfl lX6_66 dX6_sum_17 (lyl32 hL) (lys32 hL) (c_X6_stands1 hL hT hC hB0 kp143) rfl rfl (Nat.le_of_ble_eq_true rfl) (fun r M1 hr1 => ?_)
        rcases hr1 with ⟨hx, rfl, hM1⟩ | ⟨hx, rfl, hM1⟩
        · rw [hM1]
          have hopv : gop_s (c s1.1) = 3 := by rw [hx]; decide
          have hc1 : c s1.1 ≠ 0 := by omega
          have hB2 := gW_A hB (gW_ad hB (hT.lt hB.1 hc1))
          rw [g_loop_s (by rw [hopv]; decide), hopv] at hq1
          refine x_if_ne 23 33 rfl dX6_sum_20 (by decide) (fun c20 => ?_) (fun c20 => ?_)
          · refine x_aload_n 34 rfl dX6_sum_33 0 rfl rfl ?_
            refine x_sipush 37 rfl dX6_sum_34 (by decide) ?_
            refine x_cVi 40 rfl lX6_66 dX6_sum_37 (lyl32 hL) (lys32 hL) (c_X6_stands1 hL hT hC hB0 kp143) rfl rfl (Nat.le_of_ble_eq_true rfl) (fun r M1 hr1 => ?_)
            rcases hr1 with ⟨hx, rfl, hM1⟩ | ⟨hx, rfl, hM1⟩
            · rw [hM1]
              refine x_if_eq 43 47 rfl dX6_sum_40 (by decide) (fun c40 => ?_) (fun c40 => ?_)
              · exfalso; omega
              · refine x_iconst 44 rfl dX6_sum_43 (by decide) ?_
                refine x_goto 48 dX6_sum_44 (by decide) ?_
                refine y_istore_n 49 rfl dX6_sum_48 rfl rfl (ls' := [_, _, _]) rfl (by decide) ?_
                refine x_aload_n 50 rfl dX6_sum_49 0 rfl rfl ?_
                refine x_dupr 51 rfl dX6_sum_50 ?_
                refine x_geti 54 rfl fX6_47 dX6_sum_51 (lyl32 hL) (lys32 hL) (by decide) ?_
                try simp (disch := omega) only [z_up_ne, z_up_nk, z_up_eq, z_mup_ne, z_mup_eq, Int.reduceToNat, Int.toNat_natCast, cr_4, cr_5, cr_6, cr_7, cr_o, cr_u, cr_uo, cr_c, cr_ne, cr_w4, cr_w5, cr_w6, cr_w7, cr_wu, cr_wc]
                refine x_iconst 55 rfl dX6_sum_54 (by decide) ?_
                refine y_iadd 56 rfl dX6_sum_55 (by omega) ?_
                refine x_puti 59 rfl fX6_47 dX6_sum_56 (lyl32 hL) (lys32 hL) (by decide) ?_
                try simp only [cr_4, cr_5, cr_6, cr_7, cr_o, cr_u, cr_uo, cr_c, cr_ne, cr_w4, cr_w5, cr_w6, cr_w7, cr_wu, cr_wc]
                rw [cr_ad s1]
                refine x_aload_n 60 rfl dX6_sum_59 0 rfl rfl ?_
                refine x_cVu 63 rfl lX6_153 dX6_sum_60 (lyl32 hL) (lys32 hL) (c_X6_term hL hT hC hB2 hO hdp hin rfl) rfl rfl (Nat.le_of_ble_eq_true rfl) (fun M2 hr2 => ?_)
                rcases hq2 : g_term c v o inner (g_ad s1) with t2 | ⟨s2, w2⟩
                · rw [hq2] at hr2 hq1
                  obtain ⟨x1, y1, u1, cd1, hu1, hM2⟩ := hr2
                  rw [hM2]
                  have hf2 : M 34 t2 ≠ -1 := by have := (hC.2 t2 ((hG (g_ad s1) hB2).1 t2 hq2)).2.2; omega
                  have hf := hf2
                  refine x_aload_n 64 rfl dX6_sum_63 0 rfl rfl ?_
                  refine x_getr 67 rfl fX6_26 dX6_sum_64 (lyl32 hL) (lys32 hL) (by decide) (36) rfl ?_
                  refine x_iload_n 68 rfl dX6_sum_67 2 rfl rfl ?_
                  refine x_iconst 69 rfl dX6_sum_68 (by decide) ?_
                  refine x_cVu 72 rfl lX6_127 dX6_sum_69 (lyl36 hL) (lys36 hL) (c_X9_em0 hL hu1 (by decide) (by decide)) rfl rfl (Nat.le_of_ble_eq_true rfl) (fun M4 hr4 => ?_)
                  obtain ⟨u4, cd4, hu4, hM4⟩ := hr4
                  rw [hM4]
                  refine w_iinc 75 rfl dX6_sum_72 rfl (by decide) (by omega) rfl (ls' := [_, _, _]) rfl (by decide) ?_
                  refine x_goto 6 dX6_sum_75 (by decide) ?_
                  refine z_wk (ls' := [some (zn 32), some (zi ((i : Int) + 1)), none]) ⟨rfl, z_e (by omega), trivial⟩ (bad _ _ _ _ _ _ hf (by rw [← hq1]; exact ⟨_, _, _, _, hu4, rfl⟩) (by omega))
                · rw [hq2] at hr2 hq1
                  have hM2 : M2 = (cr M (s2.1 : Int) (-1) (s2.2.1 : Int) (br : Int) (s2.2.2.1 : Int) s2.2.2.2) := hr2
                  rw [hM2]
                  have hw9 := gW_step hT hG hB hc1 hq2 (x := 3) (by decide)
                  have hw8 := hw9.1
                  have hA9 := gW_A hB hw9
                  have hu9 : s2.2.2.1 + 1 ≤ s2.1 := hA9.2.2
                  have ht9 : s2.1 ≤ n := hA9.1
                  refine x_aload_n 64 rfl dX6_sum_63 0 rfl rfl ?_
                  refine x_getr 67 rfl fX6_26 dX6_sum_64 (lyl32 hL) (lys32 hL) (by decide) (36) rfl ?_
                  refine x_iload_n 68 rfl dX6_sum_67 2 rfl rfl ?_
                  refine x_iconst 69 rfl dX6_sum_68 (by decide) ?_
                  refine x_cVu 72 rfl lX6_127 dX6_sum_69 (lyl36 hL) (lys36 hL) (c_X9_em1 hL (s := s2) (by omega) (by decide) (by decide)) rfl rfl (Nat.le_of_ble_eq_true rfl) (fun M1 hM1 => ?_)
                  rw [hM1, show (3 : Int) + 16 * 0 = 3 by decide]
                  refine w_iinc 75 rfl dX6_sum_72 rfl (by decide) (by omega) rfl (ls' := [_, _, _]) rfl (by decide) ?_
                  refine x_goto 6 dX6_sum_75 (by decide) ?_
                  refine z_wk (ls' := [some (zn 32), some (zi ((i + 1 : Nat) : Int)), none]) ⟨rfl, z_e (by omega), trivial⟩ (ih (g_em s2 3) _ (i + 1) hA9 (by simp only [g_em] at hw8 ⊢; omega) (by simp only [g_em] at hw8 ⊢; omega) hq1)
            · exfalso; omega
          · exfalso; omega
        · rw [hM1]
          have hx1 := hx
          clear hx
          refine x_if_ne 23 33 rfl dX6_sum_20 (by decide) (fun c20 => ?_) (fun c20 => ?_)
          · exfalso; omega
          · refine x_aload_n 24 rfl dX6_sum_23 0 rfl rfl ?_
            refine x_sipush 27 rfl dX6_sum_24 (by decide) ?_
            refine x_cVi 30 rfl lX6_66 dX6_sum_27 (lyl32 hL) (lys32 hL) (c_X6_stands1 hL hT hC hB0 kp145) rfl rfl (Nat.le_of_ble_eq_true rfl) (fun r M1 hr1 => ?_)
            rcases hr1 with ⟨hx, rfl, hM1⟩ | ⟨hx, rfl, hM1⟩
            · rw [hM1]
              have hopv : gop_s (c s1.1) = 4 := by rw [hx]; decide
              have hc1 : c s1.1 ≠ 0 := by omega
              have hB2 := gW_A hB (gW_ad hB (hT.lt hB.1 hc1))
              rw [g_loop_s (by rw [hopv]; decide), hopv] at hq1
              refine x_if_eq 33 78 rfl dX6_sum_30 (by decide) (fun c30 => ?_) (fun c30 => ?_)
              · exfalso; omega
              · refine x_aload_n 34 rfl dX6_sum_33 0 rfl rfl ?_
                refine x_sipush 37 rfl dX6_sum_34 (by decide) ?_
                refine x_cVi 40 rfl lX6_66 dX6_sum_37 (lyl32 hL) (lys32 hL) (c_X6_stands1 hL hT hC hB0 kp143) rfl rfl (Nat.le_of_ble_eq_true rfl) (fun r M1 hr1 => ?_)
                rcases hr1 with ⟨hx, rfl, hM1⟩ | ⟨hx, rfl, hM1⟩
                · exfalso; omega
                · rw [hM1]
                  refine x_if_eq 43 47 rfl dX6_sum_40 (by decide) (fun c40 => ?_) (fun c40 => ?_)
                  · refine x_iconst 48 rfl dX6_sum_47 (by decide) ?_
                    refine y_istore_n 49 rfl dX6_sum_48 rfl rfl (ls' := [_, _, _]) rfl (by decide) ?_
                    refine x_aload_n 50 rfl dX6_sum_49 0 rfl rfl ?_
                    refine x_dupr 51 rfl dX6_sum_50 ?_
                    refine x_geti 54 rfl fX6_47 dX6_sum_51 (lyl32 hL) (lys32 hL) (by decide) ?_
                    try simp (disch := omega) only [z_up_ne, z_up_nk, z_up_eq, z_mup_ne, z_mup_eq, Int.reduceToNat, Int.toNat_natCast, cr_4, cr_5, cr_6, cr_7, cr_o, cr_u, cr_uo, cr_c, cr_ne, cr_w4, cr_w5, cr_w6, cr_w7, cr_wu, cr_wc]
                    refine x_iconst 55 rfl dX6_sum_54 (by decide) ?_
                    refine y_iadd 56 rfl dX6_sum_55 (by omega) ?_
                    refine x_puti 59 rfl fX6_47 dX6_sum_56 (lyl32 hL) (lys32 hL) (by decide) ?_
                    try simp only [cr_4, cr_5, cr_6, cr_7, cr_o, cr_u, cr_uo, cr_c, cr_ne, cr_w4, cr_w5, cr_w6, cr_w7, cr_wu, cr_wc]
                    rw [cr_ad s1]
                    refine x_aload_n 60 rfl dX6_sum_59 0 rfl rfl ?_
                    refine x_cVu 63 rfl lX6_153 dX6_sum_60 (lyl32 hL) (lys32 hL) (c_X6_term hL hT hC hB2 hO hdp hin rfl) rfl rfl (Nat.le_of_ble_eq_true rfl) (fun M2 hr2 => ?_)
                    rcases hq2 : g_term c v o inner (g_ad s1) with t2 | ⟨s2, w2⟩
                    · rw [hq2] at hr2 hq1
                      obtain ⟨x1, y1, u1, cd1, hu1, hM2⟩ := hr2
                      rw [hM2]
                      have hf2 : M 34 t2 ≠ -1 := by have := (hC.2 t2 ((hG (g_ad s1) hB2).1 t2 hq2)).2.2; omega
                      have hf := hf2
                      refine x_aload_n 64 rfl dX6_sum_63 0 rfl rfl ?_
                      refine x_getr 67 rfl fX6_26 dX6_sum_64 (lyl32 hL) (lys32 hL) (by decide) (36) rfl ?_
                      refine x_iload_n 68 rfl dX6_sum_67 2 rfl rfl ?_
                      refine x_iconst 69 rfl dX6_sum_68 (by decide) ?_
                      refine x_cVu 72 rfl lX6_127 dX6_sum_69 (lyl36 hL) (lys36 hL) (c_X9_em0 hL hu1 (by decide) (by decide)) rfl rfl (Nat.le_of_ble_eq_true rfl) (fun M4 hr4 => ?_)
                      obtain ⟨u4, cd4, hu4, hM4⟩ := hr4
                      rw [hM4]
                      refine w_iinc 75 rfl dX6_sum_72 rfl (by decide) (by omega) rfl (ls' := [_, _, _]) rfl (by decide) ?_
                      refine x_goto 6 dX6_sum_75 (by decide) ?_
                      refine z_wk (ls' := [some (zn 32), some (zi ((i : Int) + 1)), none]) ⟨rfl, z_e (by omega), trivial⟩ (bad _ _ _ _ _ _ hf (by rw [← hq1]; exact ⟨_, _, _, _, hu4, rfl⟩) (by omega))
                    · rw [hq2] at hr2 hq1
                      have hM2 : M2 = (cr M (s2.1 : Int) (-1) (s2.2.1 : Int) (br : Int) (s2.2.2.1 : Int) s2.2.2.2) := hr2
                      rw [hM2]
                      have hw9 := gW_step hT hG hB hc1 hq2 (x := 4) (by decide)
                      have hw8 := hw9.1
                      have hA9 := gW_A hB hw9
                      have hu9 : s2.2.2.1 + 1 ≤ s2.1 := hA9.2.2
                      have ht9 : s2.1 ≤ n := hA9.1
                      refine x_aload_n 64 rfl dX6_sum_63 0 rfl rfl ?_
                      refine x_getr 67 rfl fX6_26 dX6_sum_64 (lyl32 hL) (lys32 hL) (by decide) (36) rfl ?_
                      refine x_iload_n 68 rfl dX6_sum_67 2 rfl rfl ?_
                      refine x_iconst 69 rfl dX6_sum_68 (by decide) ?_
                      refine x_cVu 72 rfl lX6_127 dX6_sum_69 (lyl36 hL) (lys36 hL) (c_X9_em1 hL (s := s2) (by omega) (by decide) (by decide)) rfl rfl (Nat.le_of_ble_eq_true rfl) (fun M1 hM1 => ?_)
                      rw [hM1, show (4 : Int) + 16 * 0 = 4 by decide]
                      refine w_iinc 75 rfl dX6_sum_72 rfl (by decide) (by omega) rfl (ls' := [_, _, _]) rfl (by decide) ?_
                      refine x_goto 6 dX6_sum_75 (by decide) ?_
                      refine z_wk (ls' := [some (zn 32), some (zi ((i + 1 : Nat) : Int)), none]) ⟨rfl, z_e (by omega), trivial⟩ (ih (g_em s2 4) _ (i + 1) hA9 (by simp only [g_em] at hw8 ⊢; omega) (by simp only [g_em] at hw8 ⊢; omega) hq1)
                  · exfalso; omega
            · rw [hM1]
              rw [g_loop_e (show gop_s (c s1.1) = 0 by unfold gop_s; rw [if_neg (by omega), if_neg (by omega)])] at hq1
              refine x_if_eq 33 78 rfl dX6_sum_30 (by decide) (fun c30 => ?_) (fun c30 => ?_)
              · refine x_retu dX6_sum_78 rfl ?_
                rw [← hq1]
                rfl
              · exfalso; omega
  refine zX_of pl_RX6 [some (zn 32), none, none] 2 rfl rfl ?_
  refine x_aload_n 1 rfl dX6_sum_0 0 rfl rfl ?_
  refine x_cVu 4 rfl lX6_153 dX6_sum_1 (lyl32 hL) (lys32 hL) (c_X6_term hL hT hC hA hO hdp hin rfl) rfl rfl (Nat.le_of_ble_eq_true rfl) (fun M2 hr2 => ?_)
  rcases hq2 : g_term c v o inner s with t2 | ⟨s2, w2⟩
  · rw [hq2] at hr2 hq
    obtain ⟨x1, y1, u1, cd1, hu1, hM2⟩ := hr2
    rw [hM2]
    have hf2 : M 34 t2 ≠ -1 := by have := (hC.2 t2 ((hG s hA).1 t2 hq2)).2.2; omega
    have hf := hf2
    refine x_iconst 5 rfl dX6_sum_4 (by decide) ?_
    refine y_istore_n 6 rfl dX6_sum_5 rfl rfl (ls' := [_, _, _]) rfl (by decide) ?_
    exact bad _ _ _ _ _ _ hf (by rw [← hq]; exact ⟨_, _, _, _, hu1, rfl⟩) (by omega)
  · rw [hq2] at hr2 hq
    have hM2 : M2 = (cr M (s2.1 : Int) (-1) (s2.2.1 : Int) (br : Int) (s2.2.2.1 : Int) s2.2.2.2) := hr2
    rw [hM2]
    have hw0 := (hG s hA).2 s2 w2 hq2
    have hA0 := gW_A hA hw0
    have ht0 := hw0.1
    refine x_iconst 5 rfl dX6_sum_4 (by decide) ?_
    refine y_istore_n 6 rfl dX6_sum_5 rfl rfl (ls' := [_, _, _]) rfl (by decide) ?_
    exact loop 401 s2 w2 0 hA0 (by omega) (by omega) hq

theorem c_X6_sumD {sz : Nat} {S : zSh} {M : zMem} (hL : LY S sz) {n : Nat} {c v : Nat → Int} (hT : TK c v n) (hC : CKr M c v n) {o : Bool} (hO : M 32 8 = (if o = true then 0 else 1))  : ∀ (D : Nat) {d : Nat} {s : gS}, gA n s → ∀ {br : Nat}, br + D = 8 → zX (d + 3 * D + 5) 0 0 mX6_sum [zn 32] sz S (cr M (s.1 : Int) (-1) (s.2.1 : Int) (br : Int) (s.2.2.1 : Int) s.2.2.2) (zU sz S (fun M' => cro M (br : Int) (g_sumD c v o D s) M'))
  | 0, d, s, hA, br, h => c_X6_sum hL hT hC hA hO (by omega) (Or.inl ⟨rfl, by omega⟩) rfl
  | D + 1, d, s, hA, br, h => by
    have e : d + 3 * (D + 1) + 5 = d + 3 * D + 3 + 5 := by omega
    rw [e]
    refine c_X6_sum hL hT hC hA hO (by omega) (Or.inr ⟨g_sumD c v o D, rfl, by omega, gG_sumD hT D, fun s1 h1 => ?_⟩) rfl
    have h2 := c_X6_sumD hL hT hC hO D (d := d) h1 (br := br + 1) (by omega)
    rw [show ((br + 1 : Nat) : Int) = (br : Int) + 1 by omega] at h2
    exact h2
