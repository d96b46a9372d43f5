set_option maxRecDepth 100000 in
set_option maxHeartbeats 4000000 in
theorem c_X6_plain0 {d sz : Nat} {S : zSh} {M : zMem} (hL : LY S sz) {t fl pa br u : Int} {cd : Nat → Int} (hf : fl ≠ -1)  : zX (d + 4) 0 0 mX6_plain [zn 32] sz S (cr M t fl pa br u cd) (zU sz S (fun M' => M' = (cr M t fl pa br u cd))) := by
  refine zX_of pl_RX6 [some (zn 32), none, none] 2 rfl rfl ?_
  refine x_iconst 1 rfl dX6_plain_0 (by decide) ?_
  refine y_istore_n 2 rfl dX6_plain_1 rfl rfl (ls' := [_, _, _]) rfl (by decide) ?_
  refine x_iconst 3 rfl dX6_plain_2 (by decide) ?_
  refine y_istore_n 4 rfl dX6_plain_3 rfl rfl (ls' := [_, _, _]) rfl (by decide) ?_
  refine x_iload_n 5 rfl dX6_plain_4 2 rfl rfl ?_
  refine x_sipush 8 rfl dX6_plain_5 (by decide) ?_
  refine x_icmp_ge 11 46 rfl dX6_plain_8 (by decide) (fun c8 => ?_) (fun c8 => ?_)
  · exfalso; omega
  · refine x_aload_n 12 rfl dX6_plain_11 0 rfl rfl ?_
    refine x_bipush 14 rfl dX6_plain_12 (by decide) ?_
    refine x_cVi 17 rfl lX6_66 dX6_plain_14 (lyl32 hL) (lys32 hL) (c_X6_stands0 hL hf) rfl rfl (Nat.le_of_ble_eq_true rfl) (fun r M1 hr1 => ?_)
    obtain ⟨rfl, hM1⟩ := hr1
    rw [hM1]
    refine x_if_eq 20 46 rfl dX6_plain_17 (by decide) (fun c17 => ?_) (fun c17 => ?_)
    · refine x_aload_n 47 rfl dX6_plain_46 0 rfl rfl ?_
      refine x_sipush 50 rfl dX6_plain_47 (by decide) ?_
      refine x_cVi 53 rfl lX6_66 dX6_plain_50 (lyl32 hL) (lys32 hL) (c_X6_stands0 hL hf) rfl rfl (Nat.le_of_ble_eq_true rfl) (fun r M1 hr1 => ?_)
      obtain ⟨rfl, hM1⟩ := hr1
      rw [hM1]
      refine x_if_eq 56 76 rfl dX6_plain_53 (by decide) (fun c53 => ?_) (fun c53 => ?_)
      · refine x_aload_n 77 rfl dX6_plain_76 0 rfl rfl ?_
        refine x_cVu 80 rfl lX6_130 dX6_plain_77 (lyl32 hL) (lys32 hL) (c_X6_sum0 hL hf) rfl rfl (Nat.le_of_ble_eq_true rfl) (fun M1 hM1 => ?_)
        rw [hM1]
        refine x_aload_n 81 rfl dX6_plain_80 0 rfl rfl ?_
        refine x_cVi 84 rfl lX6_150 dX6_plain_81 (lyl32 hL) (lys32 hL) (c_X6_compares0 hL hf) rfl rfl (Nat.le_of_ble_eq_true rfl) (fun r M1 hr1 => ?_)
        obtain ⟨rfl, hM1⟩ := hr1
        rw [hM1]
        refine y_istore_n 85 rfl dX6_plain_84 rfl rfl (ls' := [_, _, _]) rfl (by decide) ?_
        refine x_iload_n 86 rfl dX6_plain_85 2 rfl rfl ?_
        refine x_if_ne 89 96 rfl dX6_plain_86 (by decide) (fun c86 => ?_) (fun c86 => ?_)
        · exfalso; omega
        · refine x_aload_n 90 rfl dX6_plain_89 0 rfl rfl ?_
          refine x_cVu 93 rfl lX6_60 dX6_plain_90 (lyl32 hL) (lys32 hL) (c_X6_fail0 hL hf) rfl rfl (Nat.le_of_ble_eq_true rfl) (fun M1 hM1 => ?_)
          rw [hM1]
          refine x_goto 119 dX6_plain_93 (by decide) ?_
          refine x_iload_n 120 rfl dX6_plain_119 1 rfl rfl ?_
          refine x_if_eq 123 133 rfl dX6_plain_120 (by decide) (fun c120 => ?_) (fun c120 => ?_)
          · refine x_retu dX6_plain_133 rfl ?_
            rfl
          · exfalso; omega
      · exfalso; omega
    · exfalso; omega

set_option maxRecDepth 100000 in
set_option maxHeartbeats 4000000 in
theorem c_X6_both0 {d sz : Nat} {S : zSh} {M : zMem} (hL : LY S sz) {t fl pa br u : Int} {cd : Nat → Int} (hf : fl ≠ -1)  : zX (d + 5) 0 0 mX6_both [zn 32] sz S (cr M t fl pa br u cd) (zU sz S (fun M' => M' = (cr M t fl pa br u cd))) := by
  refine zX_of pl_RX6 [some (zn 32), none, none] 2 rfl rfl ?_
  refine x_aload_n 1 rfl dX6_both_0 0 rfl rfl ?_
  refine x_cVu 4 rfl lX6_139 dX6_both_1 (lyl32 hL) (lys32 hL) (c_X6_plain0 hL hf) rfl rfl (Nat.le_of_ble_eq_true rfl) (fun M1 hM1 => ?_)
  rw [hM1]
  refine x_iconst 5 rfl dX6_both_4 (by decide) ?_
  refine y_istore_n 6 rfl dX6_both_5 rfl rfl (ls' := [_, _, _]) rfl (by decide) ?_
  refine x_iload_n 7 rfl dX6_both_6 1 rfl rfl ?_
  refine x_sipush 10 rfl dX6_both_7 (by decide) ?_
  refine x_icmp_ge 13 70 rfl dX6_both_10 (by decide) (fun c10 => ?_) (fun c10 => ?_)
  · exfalso; omega
  · refine x_aload_n 14 rfl dX6_both_13 0 rfl rfl ?_
    refine x_bipush 16 rfl dX6_both_14 (by decide) ?_
    refine x_cVi 19 rfl lX6_66 dX6_both_16 (lyl32 hL) (lys32 hL) (c_X6_stands0 hL hf) rfl rfl (Nat.le_of_ble_eq_true rfl) (fun r M1 hr1 => ?_)
    obtain ⟨rfl, hM1⟩ := hr1
    rw [hM1]
    refine x_if_eq 22 70 rfl dX6_both_19 (by decide) (fun c19 => ?_) (fun c19 => ?_)
    · refine x_retu dX6_both_70 rfl ?_
      rfl
    · exfalso; omega

set_option maxRecDepth 100000 in
set_option maxHeartbeats 4000000 in
theorem c_X6_test0 {d sz : Nat} {S : zSh} {M : zMem} (hL : LY S sz) {t fl pa br u : Int} {cd : Nat → Int} (hf : fl ≠ -1)  : zX (d + 6) 0 0 mX6_test [zn 32] sz S (cr M t fl pa br u cd) (zU sz S (fun M' => M' = (cr M t fl pa br u cd))) := by
  refine zX_of pl_RX6 [some (zn 32), none, none] 2 rfl rfl ?_
  refine x_aload_n 1 rfl dX6_test_0 0 rfl rfl ?_
  refine x_cVu 4 rfl lX6_133 dX6_test_1 (lyl32 hL) (lys32 hL) (c_X6_both0 hL hf) rfl rfl (Nat.le_of_ble_eq_true rfl) (fun M1 hM1 => ?_)
  rw [hM1]
  refine x_iconst 5 rfl dX6_test_4 (by decide) ?_
  refine y_istore_n 6 rfl dX6_test_5 rfl rfl (ls' := [_, _, _]) rfl (by decide) ?_
  refine x_iload_n 7 rfl dX6_test_6 1 rfl rfl ?_
  refine x_sipush 10 rfl dX6_test_7 (by decide) ?_
  refine x_icmp_ge 13 70 rfl dX6_test_10 (by decide) (fun c10 => ?_) (fun c10 => ?_)
  · exfalso; omega
  · refine x_aload_n 14 rfl dX6_test_13 0 rfl rfl ?_
    refine x_bipush 16 rfl dX6_test_14 (by decide) ?_
    refine x_cVi 19 rfl lX6_66 dX6_test_16 (lyl32 hL) (lys32 hL) (c_X6_stands0 hL hf) rfl rfl (Nat.le_of_ble_eq_true rfl) (fun r M1 hr1 => ?_)
    obtain ⟨rfl, hM1⟩ := hr1
    rw [hM1]
    refine x_if_eq 22 70 rfl dX6_test_19 (by decide) (fun c19 => ?_) (fun c19 => ?_)
    · refine x_retu dX6_test_70 rfl ?_
      rfl
    · exfalso; omega

theorem cro_neg_l {M M' : zMem} {br : Int} {b : Bool} {t : Nat} (h : cro M br (.inl t) M') : cro M br (g_neg b (.inl t)) M' := h

set_option maxRecDepth 100000 in
set_option maxHeartbeats 4000000 in
theorem c_X6_plain {d sz : Nat} {S : zSh} {M : zMem} (hL : LY S sz) {n : Nat} {c v : Nat → Int} (hT : TK c v n) (hC : CKr M c v n) {s : gS} (hA : gA n s) {o : Bool} (hO : M 32 8 = (if o = true then 0 else 1)) {inner : Option (gS → gR)} {br : Nat} {D : Nat} (hD : br + D = 8) (hdp : br ≤ 8) (hin : (inner = none ∧ br = 8) ∨ ∃ f, inner = some f ∧ br < 8 ∧ gG n f ∧ ∀ s1, gA n s1 → zX (d + 3 * D + 5) 0 0 mX6_test [zn 32] sz S (cr M (s1.1 : Int) (-1) (s1.2.1 : Int) ((br : Int) + 1) (s1.2.2.1 : Int) s1.2.2.2) (zU sz S (fun M' => cro M ((br : Int) + 1) (f s1) M')))  : zX (d + 3 * D + 6) 0 0 mX6_plain [zn 32] sz S (cr M (s.1 : Int) (-1) (s.2.1 : Int) (br : Int) (s.2.2.1 : Int) s.2.2.2) (zU sz S (fun M' => cro M (br : Int) (g_plain c v o D inner s) M')) := by
  have hn := hT.1
  have hA1 := hA.1
  have hA3 := hA.2.2
  have hI : ∀ f, inner = some f → gG n f := fun f h => by
    rcases hin with ⟨h1, -⟩ | ⟨g, h1, -, h2, -⟩
    · rw [h1] at h; cases h
    · rw [h1] at h; cases h; exact h2
  have hG9 := gG_sumD (o := o) hT D
  have hGp := gG_plain (o := o) (d := D) hT hI s hA
  obtain ⟨q, hN⟩ : ∃ q, g_nots c 401 s.1 false = q := ⟨_, rfl⟩
  have hN9 := g_nots_in hT 401 s.1 false hA1
  rw [hN] at hN9
  have hB : gA n (q.1, s.2) := ⟨hN9.2.1, hA.2.1, by have := hA.2.2; show s.2.2.1 ≤ q.1; omega⟩
  have hq0 : q.1 ≤ n := hB.1
  have hfq : M 34 q.1 ≠ -1 := by have := (hC.2 q.1 hB.1).2.2; omega
  have hgp : g_plain c v o D inner s = g_neg q.2 (g_pos c v o D inner (q.1, s.2)) := by rw [← hN]; rfl
  have end0 : ∀ {nb : Int}, ∀ (x y u : Int) (cd : Nat → Int) (t : Nat), M 34 t ≠ -1 → (0 ≤ u ∧ u ≤ 400) → g_pos c v o D inner (q.1, s.2) = .inl t → zW mX6_plain (d + 3 * D + 6) 0 0 [] (zU sz S (fun M' => cro M (br : Int) (g_plain c v o D inner s) M')) 119 [some (zn 32), some (zi nb), none] [] sz S (cr M x (M 34 t) y (br : Int) u cd) := by
    intro nb x y u cd t hf hu1 h5
    refine x_iload_n 120 rfl dX6_plain_119 1 rfl rfl ?_
    refine x_if_eq 123 133 rfl dX6_plain_120 (by decide) (fun c120 => ?_) (fun c120 => ?_)
    · refine x_retu dX6_plain_133 rfl ?_
      rw [hgp, h5]
      first | exact ⟨_, _, _, _, hu4, rfl⟩ | exact ⟨_, _, _, _, hu1, rfl⟩
    · refine x_aload_n 124 rfl dX6_plain_123 0 rfl rfl ?_
      refine x_getr 127 rfl fX6_26 dX6_plain_124 (lyl32 hL) (lys32 hL) (by decide) (36) rfl ?_
      refine x_bipush 129 rfl dX6_plain_127 (by decide) ?_
      refine x_iconst 130 rfl dX6_plain_129 (by decide) ?_
      refine x_cVu 133 rfl lX6_127 dX6_plain_130 (lyl36 hL) (lys36 hL) (c_X9_em0 hL hu1 (by decide) (by decide)) rfl rfl (Nat.le_of_ble_eq_true rfl) (fun M5 hr5 => ?_)
      obtain ⟨u4, cd4, hu4, hM5⟩ := hr5
      rw [hM5]
      refine x_retu dX6_plain_133 rfl ?_
      rw [hgp, h5]
      first | exact ⟨_, _, _, _, hu4, rfl⟩ | exact ⟨_, _, _, _, hu1, rfl⟩
  have end1 : ∀ {nb : Int} (hnb : nb = (if q.2 = true then 1 else 0)), ∀ (s2 : gS) (w2 : gV), g_pos c v o D inner (q.1, s.2) = .inr (s2, w2) → zW mX6_plain (d + 3 * D + 6) 0 0 [] (zU sz S (fun M' => cro M (br : Int) (g_plain c v o D inner s) M')) 119 [some (zn 32), some (zi nb), none] [] sz S (cr M (s2.1 : Int) (-1) (s2.2.1 : Int) (br : Int) (s2.2.2.1 : Int) s2.2.2.2) := by
    intro nb hnb s2 w2 h5
    refine x_iload_n 120 rfl dX6_plain_119 1 rfl rfl ?_
    refine x_if_eq 123 133 rfl dX6_plain_120 (by decide) (fun c120 => ?_) (fun c120 => ?_)
    · refine x_retu dX6_plain_133 rfl ?_
      rw [hgp, h5, show q.2 = false by cases hq2 : q.2 with | true => (rw [hq2] at hnb; simp at hnb; omega) | false => rfl]
      rfl
    · have hq2 : q.2 = true := by cases hq2 : q.2 with | true => rfl | false => (rw [hq2] at hnb; simp at hnb; omega)
      have hw5 := hGp.2 (g_em s2 11) (v_not w2) (by rw [hgp, h5, hq2]; rfl)
      have hw6 : s2.2.2.1 + 1 + s.1 ≤ s.2.2.1 + s2.1 := hw5.2.2.2.2.2.1
      have hw7 : s2.1 ≤ n := hw5.2.1
      refine x_aload_n 124 rfl dX6_plain_123 0 rfl rfl ?_
      refine x_getr 127 rfl fX6_26 dX6_plain_124 (lyl32 hL) (lys32 hL) (by decide) (36) rfl ?_
      refine x_bipush 129 rfl dX6_plain_127 (by decide) ?_
      refine x_iconst 130 rfl dX6_plain_129 (by decide) ?_
      refine x_cVu 133 rfl lX6_127 dX6_plain_130 (lyl36 hL) (lys36 hL) (c_X9_em1 hL (s := s2) (by omega) (by decide) (by decide)) rfl rfl (Nat.le_of_ble_eq_true rfl) (fun M5 hM5 => ?_)
      rw [hM5, show (11 : Int) + 16 * 0 = 11 by decide]
      refine x_retu dX6_plain_133 rfl ?_
      rw [hgp, h5, hq2]
      rfl
  have fin : ∀ nb : Int, nb = (if q.2 = true then 1 else 0) → ∀ j : Int, zW mX6_plain (d + 3 * D + 6) 0 0 [] (zU sz S (fun M' => cro M (br : Int) (g_plain c v o D inner s) M')) 46 [some (zn 32), some (zi nb), some (zi j)] [] sz S (cr M (q.1 : Int) (-1) (s.2.1 : Int) (br : Int) (s.2.2.1 : Int) s.2.2.2) := by
    intro nb hnb j
    have end1 := @end1 nb hnb
    refine z_mem (M' := cr M (((q.1, s.2) : gS).1 : Int) (-1) (((q.1, s.2) : gS).2.1 : Int) (br : Int) (((q.1, s.2) : gS).2.2.1 : Int) ((q.1, s.2) : gS).2.2.2) rfl ?_
    refine x_aload_n 47 rfl dX6_plain_46 0 rfl rfl ?_
    refine x_sipush 50 rfl dX6_plain_47 (by decide) ?_
    refine x_cVi 53 rfl lX6_66 dX6_plain_50 (lyl32 hL) (lys32 hL) (c_X6_stands1 hL hT hC (s := (q.1, s.2)) hB.1 kp140) rfl rfl (Nat.le_of_ble_eq_true rfl) (fun r M1 hr1 => ?_)
    rcases hr1 with ⟨hx, rfl, hM1⟩ | ⟨hx, rfl, hM1⟩
    · rw [hM1]
      have hx : c q.1 = 140 := hx
      refine x_if_eq 56 76 rfl dX6_plain_53 (by decide) (fun c53 => ?_) (fun c53 => ?_)
      · exfalso; omega
      · refine x_aload_n 57 rfl dX6_plain_56 0 rfl rfl ?_
        refine x_cVi 60 rfl lX6_142 dX6_plain_57 (lyl32 hL) (lys32 hL) (c_X6_opened hL hT hC (s := (q.1, s.2)) hB.1) rfl rfl (Nat.le_of_ble_eq_true rfl) (fun r M1 hr1 => ?_)
        rcases hr1 with ⟨h8, rfl, hM1⟩ | ⟨h8, rfl, hM1⟩
        · rw [hM1]
          rcases hin with ⟨hin1, h9⟩ | ⟨f, hin1, h9, hg, hfi⟩
          · exfalso; omega
          have hB2 := gW_A hB (gW_ad hB (hT.lt hB.1 (show c q.1 ≠ 0 by omega)))
          refine x_if_eq 63 119 rfl dX6_plain_60 (by decide) (fun c60 => ?_) (fun c60 => ?_)
          · exfalso; omega
          · refine x_aload_n 64 rfl dX6_plain_63 0 rfl rfl ?_
            refine x_cVu 67 rfl lX6_124 dX6_plain_64 (lyl32 hL) (lys32 hL) (hfi (g_ad (q.1, s.2)) hB2) rfl rfl (Nat.le_of_ble_eq_true rfl) (fun M2 hr2 => ?_)
            rcases hq2 : f (g_ad (q.1, s.2)) with t1 | ⟨s1, w1⟩
            · rw [hq2] at hr2
              obtain ⟨x1, y1, u1, cd1, hu1, hM2⟩ := hr2
              rw [hM2]
              have hf : M 34 t1 ≠ -1 := by have := (hC.2 t1 ((hg _ hB2).1 t1 hq2)).2.2; omega
              refine x_aload_n 68 rfl dX6_plain_67 0 rfl rfl ?_
              refine x_bipush 70 rfl dX6_plain_68 (by decide) ?_
              refine x_cVu 73 rfl lX6_146 dX6_plain_70 (lyl32 hL) (lys32 hL) (c_X6_closed0 hL hf (by decide) (by omega)) rfl rfl (Nat.le_of_ble_eq_true rfl) (fun M1 hM1 => ?_)
              rw [hM1]
              refine x_goto 119 dX6_plain_73 (by decide) ?_
              refine z_wk (ls' := [some (zn 32), some (zi nb), none]) ⟨rfl, rfl, trivial⟩ (end0 _ _ _ _ t1 hf hu1 (by unfold g_pos; rw [if_pos hx, hin1]; simp only [hq2, g_bd]))
            · rw [hq2] at hr2
              have hM2 : M2 = (cr M (s1.1 : Int) (-1) (s1.2.1 : Int) ((br : Int) + 1) (s1.2.2.1 : Int) s1.2.2.2) := hr2
              rw [hM2]
              have hA9 := gW_A hB2 ((hg _ hB2).2 s1 w1 hq2)
              have hA91 := hA9.1
              have hA92 := hA9.2.2
              refine x_aload_n 68 rfl dX6_plain_67 0 rfl rfl ?_
              refine x_bipush 70 rfl dX6_plain_68 (by decide) ?_
              refine x_cVu 73 rfl lX6_146 dX6_plain_70 (lyl32 hL) (lys32 hL) (c_X6_closed1 hL hT hC hA9.1 (by decide) (by omega) kp141) rfl rfl (Nat.le_of_ble_eq_true rfl) (fun M3 hr3 => ?_)
              rcases hr3 with ⟨hy, hM3⟩ | ⟨hy, hM3⟩
              · rw [hM3]
                refine x_goto 119 dX6_plain_73 (by decide) ?_
                refine z_wk (ls' := [some (zn 32), some (zi nb), none]) ⟨rfl, rfl, trivial⟩ (end1 (g_ad s1) _ (by unfold g_pos; rw [if_pos hx, hin1]; simp only [hq2, g_bd]; rw [if_pos hy]))
              · rw [hM3]
                refine x_goto 119 dX6_plain_73 (by decide) ?_
                refine z_wk (ls' := [some (zn 32), some (zi nb), none]) ⟨rfl, rfl, trivial⟩ (end0 _ _ _ _ s1.1 (by have := (hC.2 s1.1 hA91).2.2; omega) (by omega) (by unfold g_pos; rw [if_pos hx, hin1]; simp only [hq2, g_bd]; rw [if_neg hy]))
        · rw [hM1]
          have hin1 : inner = none := by
            rcases hin with ⟨hin, h9⟩ | ⟨f, h1, h9, hg, hfi⟩
            · exact hin
            · exfalso; omega
          refine x_if_eq 63 119 rfl dX6_plain_60 (by decide) (fun c60 => ?_) (fun c60 => ?_)
          · refine z_wk (ls' := [some (zn 32), some (zi nb), none]) ⟨rfl, rfl, trivial⟩ (end0 _ _ _ _ q.1 hfq (by show (0 : Int) ≤ (s.2.2.1 : Int) ∧ (s.2.2.1 : Int) ≤ 400; omega) (by unfold g_pos; rw [if_pos hx, hin1]))
          · exfalso; omega
    · rw [hM1]
      have hx : ¬ c q.1 = 140 := hx
      refine x_if_eq 56 76 rfl dX6_plain_53 (by decide) (fun c53 => ?_) (fun c53 => ?_)
      · refine x_aload_n 77 rfl dX6_plain_76 0 rfl rfl ?_
        refine x_cVu 80 rfl lX6_130 dX6_plain_77 (lyl32 hL) (lys32 hL) (c_X6_sumD hL hT hC hO D (s := (q.1, s.2)) hB hD) rfl rfl (Nat.le_of_ble_eq_true rfl) (fun M2 hr2 => ?_)
        rcases hq2 : g_sumD c v o D (q.1, s.2) with t1 | ⟨s1, w1⟩
        · rw [hq2] at hr2
          obtain ⟨x1, y1, u1, cd1, hu1, hM2⟩ := hr2
          rw [hM2]
          have hf : M 34 t1 ≠ -1 := by have := (hC.2 t1 ((hG9 _ hB).1 t1 hq2)).2.2; omega
          refine x_aload_n 81 rfl dX6_plain_80 0 rfl rfl ?_
          refine x_cVi 84 rfl lX6_150 dX6_plain_81 (lyl32 hL) (lys32 hL) (c_X6_compares0 hL hf) rfl rfl (Nat.le_of_ble_eq_true rfl) (fun r M1 hr1 => ?_)
          obtain ⟨rfl, hM1⟩ := hr1
          rw [hM1]
          refine y_istore_n 85 rfl dX6_plain_84 rfl rfl (ls' := [_, _, _]) rfl (by decide) ?_
          refine x_iload_n 86 rfl dX6_plain_85 2 rfl rfl ?_
          refine x_if_ne 89 96 rfl dX6_plain_86 (by decide) (fun c86 => ?_) (fun c86 => ?_)
          · exfalso; omega
          · refine x_aload_n 90 rfl dX6_plain_89 0 rfl rfl ?_
            refine x_cVu 93 rfl lX6_60 dX6_plain_90 (lyl32 hL) (lys32 hL) (c_X6_fail0 hL hf) rfl rfl (Nat.le_of_ble_eq_true rfl) (fun M1 hM1 => ?_)
            rw [hM1]
            refine x_goto 119 dX6_plain_93 (by decide) ?_
            refine z_wk (ls' := [some (zn 32), some (zi nb), none]) ⟨rfl, rfl, trivial⟩ (end0 _ _ _ _ t1 hf hu1 (by unfold g_pos; rw [if_neg hx]; simp only [hq2, g_bd]))
        · rw [hq2] at hr2
          have hM2 : M2 = (cr M (s1.1 : Int) (-1) (s1.2.1 : Int) (br : Int) (s1.2.2.1 : Int) s1.2.2.2) := hr2
          rw [hM2]
          have hw1 := (hG9 _ hB).2 s1 w1 hq2
          have hB1 := gW_A hB hw1
          have hB11 := hB1.1
          have hB12 := hB1.2.2
          have hci := gop_c_in (c s1.1)
          refine x_aload_n 81 rfl dX6_plain_80 0 rfl rfl ?_
          refine x_cVi 84 rfl lX6_150 dX6_plain_81 (lyl32 hL) (lys32 hL) (c_X6_compares1 hL hT hC hB1.1) rfl rfl (Nat.le_of_ble_eq_true rfl) (fun r M1 hr1 => ?_)
          obtain ⟨rfl, hM1⟩ := hr1
          rw [hM1]
          refine y_istore_n 85 rfl dX6_plain_84 rfl rfl (ls' := [_, _, _]) rfl (by decide) ?_
          refine x_iload_n 86 rfl dX6_plain_85 2 rfl rfl ?_
          refine x_if_ne 89 96 rfl dX6_plain_86 (by decide) (fun c86 => ?_) (fun c86 => ?_)
          · have hB2 := gW_A hB1 (gW_ad hB1 (hT.lt hB1.1 (show c s1.1 ≠ 0 by omega)))
            refine x_aload_n 97 rfl dX6_plain_96 0 rfl rfl ?_
            refine x_dupr 98 rfl dX6_plain_97 ?_
            refine x_geti 101 rfl fX6_47 dX6_plain_98 (lyl32 hL) (lys32 hL) (by decide) ?_
            try simp (disch := omega) only [z_up_ne, z_up_nk, z_up_eq, z_mup_ne, z_mup_eq, Int.reduceToNat, Int.toNat_natCast, cr_4, cr_5, cr_6, cr_7, cr_o, cr_u, cr_uo, cr_c, cr_ne, cr_w4, cr_w5, cr_w6, cr_w7, cr_wu, cr_wc]
            refine x_iconst 102 rfl dX6_plain_101 (by decide) ?_
            refine y_iadd 103 rfl dX6_plain_102 (by omega) ?_
            refine x_puti 106 rfl fX6_47 dX6_plain_103 (lyl32 hL) (lys32 hL) (by decide) ?_
            try simp only [cr_4, cr_5, cr_6, cr_7, cr_o, cr_u, cr_uo, cr_c, cr_ne, cr_w4, cr_w5, cr_w6, cr_w7, cr_wu, cr_wc]
            rw [cr_ad s1]
            refine x_aload_n 107 rfl dX6_plain_106 0 rfl rfl ?_
            refine x_cVu 110 rfl lX6_130 dX6_plain_107 (lyl32 hL) (lys32 hL) (c_X6_sumD hL hT hC hO D (s := g_ad s1) hB2 hD) rfl rfl (Nat.le_of_ble_eq_true rfl) (fun M4 hr4 => ?_)
            rcases hq4 : g_sumD c v o D (g_ad s1) with t4 | ⟨s4, w4⟩
            · rw [hq4] at hr4
              obtain ⟨x1, y1, u1, cd1, hu1, hM4⟩ := hr4
              rw [hM4]
              have hf : M 34 t4 ≠ -1 := by have := (hC.2 t4 ((hG9 _ hB2).1 t4 hq4)).2.2; omega
              refine x_aload_n 111 rfl dX6_plain_110 0 rfl rfl ?_
              refine x_getr 114 rfl fX6_26 dX6_plain_111 (lyl32 hL) (lys32 hL) (by decide) (36) rfl ?_
              refine x_iload_n 115 rfl dX6_plain_114 2 rfl rfl ?_
              refine x_iconst 116 rfl dX6_plain_115 (by decide) ?_
              refine x_cVu 119 rfl lX6_127 dX6_plain_116 (lyl36 hL) (lys36 hL) (c_X9_em0 hL hu1 (by omega) (by decide)) rfl rfl (Nat.le_of_ble_eq_true rfl) (fun M5 hr5 => ?_)
              obtain ⟨u4, cd4, hu4, hM5⟩ := hr5
              rw [hM5]
              refine z_wk (ls' := [some (zn 32), some (zi nb), none]) ⟨rfl, rfl, trivial⟩ (end0 _ _ _ _ t4 hf hu4 (by unfold g_pos; rw [if_neg hx]; simp only [hq2, g_bd]; rw [if_neg (by omega)]; simp only [hq4]))
            · rw [hq4] at hr4
              have hM4 : M4 = (cr M (s4.1 : Int) (-1) (s4.2.1 : Int) (br : Int) (s4.2.2.1 : Int) s4.2.2.2) := hr4
              rw [hM4]
              have hw4 := (hG9 _ hB2).2 s4 w4 hq4
              have hu9 : s4.2.2.1 + (s1.1 + 1) ≤ s1.2.2.1 + s4.1 := hw4.2.2.2.2.2.1
              have ht9 : s4.1 ≤ n := hw4.2.1
              refine x_aload_n 111 rfl dX6_plain_110 0 rfl rfl ?_
              refine x_getr 114 rfl fX6_26 dX6_plain_111 (lyl32 hL) (lys32 hL) (by decide) (36) rfl ?_
              refine x_iload_n 115 rfl dX6_plain_114 2 rfl rfl ?_
              refine x_iconst 116 rfl dX6_plain_115 (by decide) ?_
              refine x_cVu 119 rfl lX6_127 dX6_plain_116 (lyl36 hL) (lys36 hL) (c_X9_em1 hL (s := s4) (by omega) (by omega) (by decide)) rfl rfl (Nat.le_of_ble_eq_true rfl) (fun M5 hM5 => ?_)
              rw [hM5, show gop_c (c s1.1) + 16 * 0 = gop_c (c s1.1) by omega]
              refine z_wk (ls' := [some (zn 32), some (zi nb), none]) ⟨rfl, rfl, trivial⟩ (end1 (g_em s4 (gop_c (c s1.1))) (v_join (gop_c (c s1.1)) w1 w4) (by unfold g_pos; rw [if_neg hx]; simp only [hq2, g_bd]; rw [if_neg (by omega)]; simp only [hq4]))
          · refine x_aload_n 90 rfl dX6_plain_89 0 rfl rfl ?_
            refine x_cVu 93 rfl lX6_60 dX6_plain_90 (lyl32 hL) (lys32 hL) (c_X6_fail1 hL hT hC hB1.1) rfl rfl (Nat.le_of_ble_eq_true rfl) (fun M1 hM1 => ?_)
            rw [hM1]
            refine x_goto 119 dX6_plain_93 (by decide) ?_
            refine z_wk (ls' := [some (zn 32), some (zi nb), none]) ⟨rfl, rfl, trivial⟩ (end0 _ _ _ _ s1.1 (by have := (hC.2 s1.1 hB11).2.2; omega) (by omega) (by unfold g_pos; rw [if_neg hx]; simp only [hq2, g_bd]; rw [if_pos (by omega)]))
      · exfalso; omega
  have loop : ∀ (f t : Nat) (b9 : Bool) (nb : Int) (i : Nat), s.1 ≤ t → t ≤ n → n < f + t → i + s.1 ≤ t → g_nots c f t b9 = q → nb = (if b9 = true then 1 else 0) → zW mX6_plain (d + 3 * D + 6) 0 0 [] (zU sz S (fun M' => cro M (br : Int) (g_plain c v o D inner s) M')) 4 [some (zn 32), some (zi nb), some (zi (i : Int))] [] sz S (cr M (t : Int) (-1) (s.2.1 : Int) (br : Int) (s.2.2.1 : Int) s.2.2.2) := by
    intro f
    induction f with
    | zero => intro t b9 nb i h0 h1 h2; omega
    | succ f ih =>
      intro t b9 nb i h0 h1 h2 h6 h3 h4
      refine x_iload_n 5 rfl dX6_plain_4 2 rfl rfl ?_
      refine x_sipush 8 rfl dX6_plain_5 (by decide) ?_
      refine x_icmp_ge 11 46 rfl dX6_plain_8 (by decide) (fun c8 => ?_) (fun c8 => ?_)
      · have h7 : ¬ c t = 7 := by rw [show t = n by omega, hT.2.1]; decide
        simp only [g_nots] at h3
        rw [if_neg h7] at h3
        rw [← h3] at fin
        exact fin nb h4 _
      · refine x_aload_n 12 rfl dX6_plain_11 0 rfl rfl ?_
        refine x_bipush 14 rfl dX6_plain_12 (by decide) ?_
        refine x_cVi 17 rfl lX6_66 dX6_plain_14 (lyl32 hL) (lys32 hL) (c_X6_stands1 hL hT hC (s := (t, s.2)) h1 kp26) rfl rfl (Nat.le_of_ble_eq_true rfl) (fun r M1 hr1 => ?_)
        rcases hr1 with ⟨hx, rfl, hM1⟩ | ⟨hx, rfl, hM1⟩
        · rw [hM1]
          have hx : c t = 7 := hx
          simp only [g_nots] at h3
          rw [if_pos hx] at h3
          have h5 := hT.lt h1 (by omega)
          refine x_if_eq 20 46 rfl dX6_plain_17 (by decide) (fun c17 => ?_) (fun c17 => ?_)
          · exfalso; omega
          · refine x_iload_n 21 rfl dX6_plain_20 1 rfl rfl ?_
            refine x_if_ne 24 28 rfl dX6_plain_21 (by decide) (fun c21 => ?_) (fun c21 => ?_)
            · refine x_iconst 29 rfl dX6_plain_28 (by decide) ?_
              refine y_istore_n 30 rfl dX6_plain_29 rfl rfl (ls' := [_, _, _]) rfl (by decide) ?_
              refine x_aload_n 31 rfl dX6_plain_30 0 rfl rfl ?_
              refine x_dupr 32 rfl dX6_plain_31 ?_
              refine x_geti 35 rfl fX6_47 dX6_plain_32 (lyl32 hL) (lys32 hL) (by decide) ?_
              try simp (disch := omega) only [z_up_ne, z_up_nk, z_up_eq, z_mup_ne, z_mup_eq, Int.reduceToNat, Int.toNat_natCast, cr_4, cr_5, cr_6, cr_7, cr_o, cr_u, cr_uo, cr_c, cr_ne, cr_w4, cr_w5, cr_w6, cr_w7, cr_wu, cr_wc]
              refine x_iconst 36 rfl dX6_plain_35 (by decide) ?_
              refine y_iadd 37 rfl dX6_plain_36 (by omega) ?_
              refine x_puti 40 rfl fX6_47 dX6_plain_37 (lyl32 hL) (lys32 hL) (by decide) ?_
              try simp only [cr_4, cr_5, cr_6, cr_7, cr_o, cr_u, cr_uo, cr_c, cr_ne, cr_w4, cr_w5, cr_w6, cr_w7, cr_wu, cr_wc]
              refine z_mem (M' := cr M ((t + 1 : Nat) : Int) (-1) (s.2.1 : Int) (br : Int) (s.2.2.1 : Int) s.2.2.2) rfl ?_
              refine w_iinc 43 rfl dX6_plain_40 rfl (by decide) (by omega) rfl (ls' := [_, _, _]) rfl (by decide) ?_
              refine x_goto 4 dX6_plain_43 (by decide) ?_
              exact ih (t + 1) (!b9) _ (i + 1) (by omega) h5 (by omega) (by omega) h3 (by cases b9 with | true => (first | rfl | (simp at h4; omega)) | false => (first | rfl | (simp at h4; omega)))
            · refine x_iconst 25 rfl dX6_plain_24 (by decide) ?_
              refine x_goto 29 dX6_plain_25 (by decide) ?_
              refine y_istore_n 30 rfl dX6_plain_29 rfl rfl (ls' := [_, _, _]) rfl (by decide) ?_
              refine x_aload_n 31 rfl dX6_plain_30 0 rfl rfl ?_
              refine x_dupr 32 rfl dX6_plain_31 ?_
              refine x_geti 35 rfl fX6_47 dX6_plain_32 (lyl32 hL) (lys32 hL) (by decide) ?_
              try simp (disch := omega) only [z_up_ne, z_up_nk, z_up_eq, z_mup_ne, z_mup_eq, Int.reduceToNat, Int.toNat_natCast, cr_4, cr_5, cr_6, cr_7, cr_o, cr_u, cr_uo, cr_c, cr_ne, cr_w4, cr_w5, cr_w6, cr_w7, cr_wu, cr_wc]
              refine x_iconst 36 rfl dX6_plain_35 (by decide) ?_
              refine y_iadd 37 rfl dX6_plain_36 (by omega) ?_
              refine x_puti 40 rfl fX6_47 dX6_plain_37 (lyl32 hL) (lys32 hL) (by decide) ?_
              try simp only [cr_4, cr_5, cr_6, cr_7, cr_o, cr_u, cr_uo, cr_c, cr_ne, cr_w4, cr_w5, cr_w6, cr_w7, cr_wu, cr_wc]
              refine z_mem (M' := cr M ((t + 1 : Nat) : Int) (-1) (s.2.1 : Int) (br : Int) (s.2.2.1 : Int) s.2.2.2) rfl ?_
              refine w_iinc 43 rfl dX6_plain_40 rfl (by decide) (by omega) rfl (ls' := [_, _, _]) rfl (by decide) ?_
              refine x_goto 4 dX6_plain_43 (by decide) ?_
              exact ih (t + 1) (!b9) _ (i + 1) (by omega) h5 (by omega) (by omega) h3 (by cases b9 with | true => (first | rfl | (simp at h4; omega)) | false => (first | rfl | (simp at h4; omega)))
        · rw [hM1]
          have hx : ¬ c t = 7 := hx
          simp only [g_nots] at h3
          rw [if_neg hx] at h3
          refine x_if_eq 20 46 rfl dX6_plain_17 (by decide) (fun c17 => ?_) (fun c17 => ?_)
          · rw [← h3] at fin
            exact fin nb h4 _
          · exfalso; omega
  refine zX_of pl_RX6 [some (zn 32), none, none] 2 rfl rfl ?_
  refine x_iconst 1 rfl dX6_plain_0 (by decide) ?_
  refine y_istore_n 2 rfl dX6_plain_1 rfl rfl (ls' := [_, _, _]) rfl (by decide) ?_
  refine x_iconst 3 rfl dX6_plain_2 (by decide) ?_
  refine y_istore_n 4 rfl dX6_plain_3 rfl rfl (ls' := [_, _, _]) rfl (by decide) ?_
  exact loop 401 s.1 false 0 0 (Nat.le_refl _) hA1 (by omega) (by omega) hN rfl

set_option maxRecDepth 100000 in
set_option maxHeartbeats 4000000 in
theorem c_X6_both {d sz : Nat} {S : zSh} {M : zMem} (hL : LY S sz) {n : Nat} {c v : Nat → Int} (hT : TK c v n) (hC : CKr M c v n) {s : gS} (hA : gA n s) {o : Bool} (hO : M 32 8 = (if o = true then 0 else 1)) {inner : Option (gS → gR)} {br : Nat} {D : Nat} (hD : br + D = 8) (hdp : br ≤ 8) (hin : (inner = none ∧ br = 8) ∨ ∃ f, inner = some f ∧ br < 8 ∧ gG n f ∧ ∀ s1, gA n s1 → zX (d + 3 * D + 5) 0 0 mX6_test [zn 32] sz S (cr M (s1.1 : Int) (-1) (s1.2.1 : Int) ((br : Int) + 1) (s1.2.2.1 : Int) s1.2.2.2) (zU sz S (fun M' => cro M ((br : Int) + 1) (f s1) M'))) {R : gR} (hq : g_both c v o D inner s = R) : zX (d + 3 * D + 7) 0 0 mX6_both [zn 32] sz S (cr M (s.1 : Int) (-1) (s.2.1 : Int) (br : Int) (s.2.2.1 : Int) s.2.2.2) (zU sz S (fun M' => cro M (br : Int) R M')) := by
  unfold g_both at hq
  have hn := hT.1
  have hA1 := hA.1
  have hI : ∀ f, inner = some f → gG n f := fun f h => by
    rcases hin with ⟨h1, -⟩ | ⟨g, h1, -, h2, -⟩
    · rw [h1] at h; cases h
    · rw [h1] at h; cases h; exact h2
  have hG : gG n (g_plain c v o D inner) := gG_plain hT hI
  have bad : ∀ (t fl pa u : Int) (cd : Nat → Int) (j : Int), fl ≠ -1 → cro M (br : Int) R (cr M t fl pa (br : Int) u cd) → (0 ≤ j ∧ j ≤ 1000) → zW mX6_both (d + 3 * D + 7) 0 0 [] (zU sz S (fun M' => cro M (br : Int) R M')) 6 [some (zn 32), some (zi j), none] [] sz S (cr M t fl pa (br : Int) u cd) := by
    intro t fl pa u cd j hf hQ hj
    refine x_iload_n 7 rfl dX6_both_6 1 rfl rfl ?_
    refine x_sipush 10 rfl dX6_both_7 (by decide) ?_
    refine x_icmp_ge 13 70 rfl dX6_both_10 (by decide) (fun c10 => ?_) (fun c10 => ?_)
    · refine x_retu dX6_both_70 rfl ?_
      exact hQ
    · refine x_aload_n 14 rfl dX6_both_13 0 rfl rfl ?_
      refine x_bipush 16 rfl dX6_both_14 (by decide) ?_
      refine x_cVi 19 rfl lX6_66 dX6_both_16 (lyl32 hL) (lys32 hL) (c_X6_stands0 hL hf) rfl rfl (Nat.le_of_ble_eq_true rfl) (fun r M1 hr1 => ?_)
      obtain ⟨rfl, hM1⟩ := hr1
      rw [hM1]
      refine x_if_eq 22 70 rfl dX6_both_19 (by decide) (fun c19 => ?_) (fun c19 => ?_)
      · refine x_retu dX6_both_70 rfl ?_
        exact hQ
      · exfalso; omega
  have loop : ∀ (f : Nat) (s1 : gS) (w1 : gV) (i : Nat), gA n s1 → n < f + s1.1 → i < s1.1 → g_chain c 6 13 (g_plain c v o D inner) f s1 w1 = R → zW mX6_both (d + 3 * D + 7) 0 0 [] (zU sz S (fun M' => cro M (br : Int) R M')) 6 [some (zn 32), some (zi (i : Int)), none] [] sz S (cr M (s1.1 : Int) (-1) (s1.2.1 : Int) (br : Int) (s1.2.2.1 : Int) s1.2.2.2) := by
    intro f
    induction f with
    | zero => intro s1 w1 i hB hf; have := hB.1; omega
    | succ f ih =>
      intro s1 w1 i hB hf hi hq1
      have hB0 := hB.1
      refine x_iload_n 7 rfl dX6_both_6 1 rfl rfl ?_
      refine x_sipush 10 rfl dX6_both_7 (by decide) ?_
      refine x_icmp_ge 13 70 rfl dX6_both_10 (by decide) (fun c10 => ?_) (fun c10 => ?_)
      · exfalso; omega
      · refine x_aload_n 14 rfl dX6_both_13 0 rfl rfl ?_
        refine x_bipush 16 rfl dX6_both_14 (by decide) ?_
        refine x_cVi 19 rfl lX6_66 dX6_both_16 (lyl32 hL) (lys32 hL) (c_X6_stands1 hL hT hC hB0 kp25) rfl rfl (Nat.le_of_ble_eq_true rfl) (fun r M1 hr1 => ?_)
        rcases hr1 with ⟨hx, rfl, hM1⟩ | ⟨hx, rfl, hM1⟩
        · rw [hM1]
          have hc1 : c s1.1 ≠ 0 := by omega
          have hlt := hT.lt hB0 hc1
          have hB3 := hB.2.2
          have hB2 := gW_A hB (gW_one hT hB hc1 (op := 13) (by decide))
          rw [g_chain_s hx] at hq1
          refine x_if_eq 22 70 rfl dX6_both_19 (by decide) (fun c19 => ?_) (fun c19 => ?_)
          · exfalso; omega
          · refine x_aload_n 23 rfl dX6_both_22 0 rfl rfl ?_
            refine x_getr 26 rfl fX6_26 dX6_both_23 (lyl32 hL) (lys32 hL) (by decide) (36) rfl ?_
            refine x_geti 29 rfl fX6_118 dX6_both_26 (lyl36 hL) (lys36 hL) (by decide) ?_
            try simp (disch := omega) only [z_up_ne, z_up_nk, z_up_eq, z_mup_ne, z_mup_eq, Int.reduceToNat, Int.toNat_natCast, cr_4, cr_5, cr_6, cr_7, cr_o, cr_u, cr_uo, cr_c, cr_ne, cr_w4, cr_w5, cr_w6, cr_w7, cr_wu, cr_wc]
            refine y_istore_n 30 rfl dX6_both_29 rfl rfl (ls' := [_, _, _]) rfl (by decide) ?_
            refine x_aload_n 31 rfl dX6_both_30 0 rfl rfl ?_
            refine x_dupr 32 rfl dX6_both_31 ?_
            refine x_geti 35 rfl fX6_47 dX6_both_32 (lyl32 hL) (lys32 hL) (by decide) ?_
            try simp (disch := omega) only [z_up_ne, z_up_nk, z_up_eq, z_mup_ne, z_mup_eq, Int.reduceToNat, Int.toNat_natCast, cr_4, cr_5, cr_6, cr_7, cr_o, cr_u, cr_uo, cr_c, cr_ne, cr_w4, cr_w5, cr_w6, cr_w7, cr_wu, cr_wc]
            refine x_iconst 36 rfl dX6_both_35 (by decide) ?_
            refine y_iadd 37 rfl dX6_both_36 (by omega) ?_
            refine x_puti 40 rfl fX6_47 dX6_both_37 (lyl32 hL) (lys32 hL) (by decide) ?_
            try simp only [cr_4, cr_5, cr_6, cr_7, cr_o, cr_u, cr_uo, cr_c, cr_ne, cr_w4, cr_w5, cr_w6, cr_w7, cr_wu, cr_wc]
            rw [cr_ad s1]
            refine x_aload_n 41 rfl dX6_both_40 0 rfl rfl ?_
            refine x_getr 44 rfl fX6_26 dX6_both_41 (lyl32 hL) (lys32 hL) (by decide) (36) rfl ?_
            refine x_bipush 46 rfl dX6_both_44 (by decide) ?_
            refine x_iconst 47 rfl dX6_both_46 (by decide) ?_
            refine x_cVu 50 rfl lX6_127 dX6_both_47 (lyl36 hL) (lys36 hL) (c_X9_em1 hL (s := g_ad s1) (by show s1.2.2.1 < 400; omega) (by decide) (by decide)) rfl rfl (Nat.le_of_ble_eq_true rfl) (fun M3 hM3 => ?_)
            rw [hM3, show (13 : Int) + 16 * 0 = 13 by decide]
            refine x_aload_n 51 rfl dX6_both_50 0 rfl rfl ?_
            refine x_cVu 54 rfl lX6_139 dX6_both_51 (lyl32 hL) (lys32 hL) (c_X6_plain hL hT hC hB2 hO hD hdp hin) rfl rfl (Nat.le_of_ble_eq_true rfl) (fun M2 hr2 => ?_)
            rcases hq2 : g_plain c v o D inner (g_em (g_ad s1) 13) with t2 | ⟨s2, w2⟩
            · rw [hq2] at hr2 hq1
              obtain ⟨x1, y1, u1, cd1, hu1, hM2⟩ := hr2
              rw [hM2]
              have hf2 : M 34 t2 ≠ -1 := by have := (hC.2 t2 ((hG _ hB2).1 t2 hq2)).2.2; omega
              have hf := hf2
              refine x_aload_n 55 rfl dX6_both_54 0 rfl rfl ?_
              refine x_getr 58 rfl fX6_26 dX6_both_55 (lyl32 hL) (lys32 hL) (by decide) (36) rfl ?_
              refine x_iload_n 59 rfl dX6_both_58 2 rfl rfl ?_
              refine x_bipush 61 rfl dX6_both_59 (by decide) ?_
              refine x_cVu 64 rfl lX6_136 dX6_both_61 (lyl36 hL) (lys36 hL) (c_X9_aim0 hL hu1 (by decide)) rfl rfl (Nat.le_of_ble_eq_true rfl) (fun M4 hr4 => ?_)
              obtain ⟨cd4, hM4⟩ := hr4
              rw [hM4]
              refine w_iinc 67 rfl dX6_both_64 rfl (by decide) (by omega) rfl (ls' := [_, _, _]) rfl (by decide) ?_
              refine x_goto 6 dX6_both_67 (by decide) ?_
              refine z_wk (ls' := [some (zn 32), some (zi ((i : Int) + 1)), none]) ⟨rfl, z_e (by omega), trivial⟩ (bad _ _ _ _ _ _ hf (by rw [← hq1]; exact ⟨_, _, _, _, hu1, rfl⟩) (by omega))
            · rw [hq2] at hr2 hq1
              have hM2 : M2 = (cr M (s2.1 : Int) (-1) (s2.2.1 : Int) (br : Int) (s2.2.2.1 : Int) s2.2.2.2) := hr2
              rw [hM2]
              have hw9 := gW_stepc hT hG hB hc1 (by decide) hq2
              have hw8 := hw9.1
              have hA9 := gW_A hB hw9
              have hu9 : s2.2.2.1 ≤ s2.1 := hA9.2.2
              have ht9 : s2.1 ≤ n := hA9.1
              have hz9 := (hG _ hB2).2 s2 w2 hq2
              have hu8 : s1.2.2.1 + 1 + 1 ≤ s2.2.2.1 := hz9.2.2.2.2.1
              refine x_aload_n 55 rfl dX6_both_54 0 rfl rfl ?_
              refine x_getr 58 rfl fX6_26 dX6_both_55 (lyl32 hL) (lys32 hL) (by decide) (36) rfl ?_
              refine x_iload_n 59 rfl dX6_both_58 2 rfl rfl ?_
              refine x_bipush 61 rfl dX6_both_59 (by decide) ?_
              refine x_cVu 64 rfl lX6_136 dX6_both_61 (lyl36 hL) (lys36 hL) (c_X9_aim1 hL (s := s2) (q := s1.2.2.1) (by omega) (by omega) (by decide)) rfl rfl (Nat.le_of_ble_eq_true rfl) (fun M1 hM1 => ?_)
              rw [hM1]
              refine w_iinc 67 rfl dX6_both_64 rfl (by decide) (by omega) rfl (ls' := [_, _, _]) rfl (by decide) ?_
              refine x_goto 6 dX6_both_67 (by decide) ?_
              refine z_wk (ls' := [some (zn 32), some (zi ((i + 1 : Nat) : Int)), none]) ⟨rfl, z_e (by omega), trivial⟩ (ih (g_aim s2 s1.2.2.1 13) _ (i + 1) hA9 (by simp only [g_aim] at hw8 ⊢; omega) (by simp only [g_aim] at hw8 ⊢; omega) hq1)
        · rw [hM1]
          rw [g_chain_e hx] at hq1
          refine x_if_eq 22 70 rfl dX6_both_19 (by decide) (fun c19 => ?_) (fun c19 => ?_)
          · refine x_retu dX6_both_70 rfl ?_
            rw [← hq1]
            rfl
          · exfalso; omega
  refine zX_of pl_RX6 [some (zn 32), none, none] 2 rfl rfl ?_
  refine x_aload_n 1 rfl dX6_both_0 0 rfl rfl ?_
  refine x_cVu 4 rfl lX6_139 dX6_both_1 (lyl32 hL) (lys32 hL) (c_X6_plain hL hT hC hA hO hD hdp hin) rfl rfl (Nat.le_of_ble_eq_true rfl) (fun M2 hr2 => ?_)
  rcases hq2 : g_plain c v o D inner s with t2 | ⟨s2, w2⟩
  · rw [hq2] at hr2 hq
    obtain ⟨x1, y1, u1, cd1, hu1, hM2⟩ := hr2
    rw [hM2]
    have hf2 : M 34 t2 ≠ -1 := by have := (hC.2 t2 ((hG s hA).1 t2 hq2)).2.2; omega
    have hf := hf2
    refine x_iconst 5 rfl dX6_both_4 (by decide) ?_
    refine y_istore_n 6 rfl dX6_both_5 rfl rfl (ls' := [_, _, _]) rfl (by decide) ?_
    exact bad _ _ _ _ _ _ hf (by rw [← hq]; exact ⟨_, _, _, _, hu1, rfl⟩) (by omega)
  · rw [hq2] at hr2 hq
    have hM2 : M2 = (cr M (s2.1 : Int) (-1) (s2.2.1 : Int) (br : Int) (s2.2.2.1 : Int) s2.2.2.2) := hr2
    rw [hM2]
    have hw0 := (hG s hA).2 s2 w2 hq2
    have hA0 := gW_A hA hw0
    have ht0 := hw0.1
    refine x_iconst 5 rfl dX6_both_4 (by decide) ?_
    refine y_istore_n 6 rfl dX6_both_5 rfl rfl (ls' := [_, _, _]) rfl (by decide) ?_
    exact loop 401 s2 w2 0 hA0 (by omega) (by omega) hq

set_option maxRecDepth 100000 in
set_option maxHeartbeats 4000000 in
theorem c_X6_test {d sz : Nat} {S : zSh} {M : zMem} (hL : LY S sz) {n : Nat} {c v : Nat → Int} (hT : TK c v n) (hC : CKr M c v n) {s : gS} (hA : gA n s) {o : Bool} (hO : M 32 8 = (if o = true then 0 else 1)) {inner : Option (gS → gR)} {br : Nat} {D : Nat} (hD : br + D = 8) (hdp : br ≤ 8) (hin : (inner = none ∧ br = 8) ∨ ∃ f, inner = some f ∧ br < 8 ∧ gG n f ∧ ∀ s1, gA n s1 → zX (d + 3 * D + 5) 0 0 mX6_test [zn 32] sz S (cr M (s1.1 : Int) (-1) (s1.2.1 : Int) ((br : Int) + 1) (s1.2.2.1 : Int) s1.2.2.2) (zU sz S (fun M' => cro M ((br : Int) + 1) (f s1) M'))) {R : gR} (hq : g_test c v o D inner s = R) : zX (d + 3 * D + 8) 0 0 mX6_test [zn 32] sz S (cr M (s.1 : Int) (-1) (s.2.1 : Int) (br : Int) (s.2.2.1 : Int) s.2.2.2) (zU sz S (fun M' => cro M (br : Int) R M')) := by
  unfold g_test at hq
  have hn := hT.1
  have hA1 := hA.1
  have hI : ∀ f, inner = some f → gG n f := fun f h => by
    rcases hin with ⟨h1, -⟩ | ⟨g, h1, -, h2, -⟩
    · rw [h1] at h; cases h
    · rw [h1] at h; cases h; exact h2
  have hG : gG n (g_both c v o D inner) := gG_both hT hI
  have bad : ∀ (t fl pa u : Int) (cd : Nat → Int) (j : Int), fl ≠ -1 → cro M (br : Int) R (cr M t fl pa (br : Int) u cd) → (0 ≤ j ∧ j ≤ 1000) → zW mX6_test (d + 3 * D + 8) 0 0 [] (zU sz S (fun M' => cro M (br : Int) R M')) 6 [some (zn 32), some (zi j), none] [] sz S (cr M t fl pa (br : Int) u cd) := by
    intro t fl pa u cd j hf hQ hj
    refine x_iload_n 7 rfl dX6_test_6 1 rfl rfl ?_
    refine x_sipush 10 rfl dX6_test_7 (by decide) ?_
    refine x_icmp_ge 13 70 rfl dX6_test_10 (by decide) (fun c10 => ?_) (fun c10 => ?_)
    · refine x_retu dX6_test_70 rfl ?_
      exact hQ
    · refine x_aload_n 14 rfl dX6_test_13 0 rfl rfl ?_
      refine x_bipush 16 rfl dX6_test_14 (by decide) ?_
      refine x_cVi 19 rfl lX6_66 dX6_test_16 (lyl32 hL) (lys32 hL) (c_X6_stands0 hL hf) rfl rfl (Nat.le_of_ble_eq_true rfl) (fun r M1 hr1 => ?_)
      obtain ⟨rfl, hM1⟩ := hr1
      rw [hM1]
      refine x_if_eq 22 70 rfl dX6_test_19 (by decide) (fun c19 => ?_) (fun c19 => ?_)
      · refine x_retu dX6_test_70 rfl ?_
        exact hQ
      · exfalso; omega
  have loop : ∀ (f : Nat) (s1 : gS) (w1 : gV) (i : Nat), gA n s1 → n < f + s1.1 → i < s1.1 → g_chain c 5 12 (g_both c v o D inner) f s1 w1 = R → zW mX6_test (d + 3 * D + 8) 0 0 [] (zU sz S (fun M' => cro M (br : Int) R M')) 6 [some (zn 32), some (zi (i : Int)), none] [] sz S (cr M (s1.1 : Int) (-1) (s1.2.1 : Int) (br : Int) (s1.2.2.1 : Int) s1.2.2.2) := by
    intro f
    induction f with
    | zero => intro s1 w1 i hB hf; have := hB.1; omega
    | succ f ih =>
      intro s1 w1 i hB hf hi hq1
      have hB0 := hB.1
      refine x_iload_n 7 rfl dX6_test_6 1 rfl rfl ?_
      refine x_sipush 10 rfl dX6_test_7 (by decide) ?_
      refine x_icmp_ge 13 70 rfl dX6_test_10 (by decide) (fun c10 => ?_) (fun c10 => ?_)
      · exfalso; omega
      · refine x_aload_n 14 rfl dX6_test_13 0 rfl rfl ?_
        refine x_bipush 16 rfl dX6_test_14 (by decide) ?_
        refine x_cVi 19 rfl lX6_66 dX6_test_16 (lyl32 hL) (lys32 hL) (c_X6_stands1 hL hT hC hB0 kp24) rfl rfl (Nat.le_of_ble_eq_true rfl) (fun r M1 hr1 => ?_)
        rcases hr1 with ⟨hx, rfl, hM1⟩ | ⟨hx, rfl, hM1⟩
        · rw [hM1]
          have hc1 : c s1.1 ≠ 0 := by omega
          have hlt := hT.lt hB0 hc1
          have hB3 := hB.2.2
          have hB2 := gW_A hB (gW_one hT hB hc1 (op := 12) (by decide))
          rw [g_chain_s hx] at hq1
          refine x_if_eq 22 70 rfl dX6_test_19 (by decide) (fun c19 => ?_) (fun c19 => ?_)
          · exfalso; omega
          · refine x_aload_n 23 rfl dX6_test_22 0 rfl rfl ?_
            refine x_getr 26 rfl fX6_26 dX6_test_23 (lyl32 hL) (lys32 hL) (by decide) (36) rfl ?_
            refine x_geti 29 rfl fX6_118 dX6_test_26 (lyl36 hL) (lys36 hL) (by decide) ?_
            try simp (disch := omega) only [z_up_ne, z_up_nk, z_up_eq, z_mup_ne, z_mup_eq, Int.reduceToNat, Int.toNat_natCast, cr_4, cr_5, cr_6, cr_7, cr_o, cr_u, cr_uo, cr_c, cr_ne, cr_w4, cr_w5, cr_w6, cr_w7, cr_wu, cr_wc]
            refine y_istore_n 30 rfl dX6_test_29 rfl rfl (ls' := [_, _, _]) rfl (by decide) ?_
            refine x_aload_n 31 rfl dX6_test_30 0 rfl rfl ?_
            refine x_dupr 32 rfl dX6_test_31 ?_
            refine x_geti 35 rfl fX6_47 dX6_test_32 (lyl32 hL) (lys32 hL) (by decide) ?_
            try simp (disch := omega) only [z_up_ne, z_up_nk, z_up_eq, z_mup_ne, z_mup_eq, Int.reduceToNat, Int.toNat_natCast, cr_4, cr_5, cr_6, cr_7, cr_o, cr_u, cr_uo, cr_c, cr_ne, cr_w4, cr_w5, cr_w6, cr_w7, cr_wu, cr_wc]
            refine x_iconst 36 rfl dX6_test_35 (by decide) ?_
            refine y_iadd 37 rfl dX6_test_36 (by omega) ?_
            refine x_puti 40 rfl fX6_47 dX6_test_37 (lyl32 hL) (lys32 hL) (by decide) ?_
            try simp only [cr_4, cr_5, cr_6, cr_7, cr_o, cr_u, cr_uo, cr_c, cr_ne, cr_w4, cr_w5, cr_w6, cr_w7, cr_wu, cr_wc]
            rw [cr_ad s1]
            refine x_aload_n 41 rfl dX6_test_40 0 rfl rfl ?_
            refine x_getr 44 rfl fX6_26 dX6_test_41 (lyl32 hL) (lys32 hL) (by decide) (36) rfl ?_
            refine x_bipush 46 rfl dX6_test_44 (by decide) ?_
            refine x_iconst 47 rfl dX6_test_46 (by decide) ?_
            refine x_cVu 50 rfl lX6_127 dX6_test_47 (lyl36 hL) (lys36 hL) (c_X9_em1 hL (s := g_ad s1) (by show s1.2.2.1 < 400; omega) (by decide) (by decide)) rfl rfl (Nat.le_of_ble_eq_true rfl) (fun M3 hM3 => ?_)
            rw [hM3, show (12 : Int) + 16 * 0 = 12 by decide]
            refine x_aload_n 51 rfl dX6_test_50 0 rfl rfl ?_
            refine x_cVu 54 rfl lX6_133 dX6_test_51 (lyl32 hL) (lys32 hL) (c_X6_both hL hT hC hB2 hO hD hdp hin rfl) rfl rfl (Nat.le_of_ble_eq_true rfl) (fun M2 hr2 => ?_)
            rcases hq2 : g_both c v o D inner (g_em (g_ad s1) 12) with t2 | ⟨s2, w2⟩
            · rw [hq2] at hr2 hq1
              obtain ⟨x1, y1, u1, cd1, hu1, hM2⟩ := hr2
              rw [hM2]
              have hf2 : M 34 t2 ≠ -1 := by have := (hC.2 t2 ((hG _ hB2).1 t2 hq2)).2.2; omega
              have hf := hf2
              refine x_aload_n 55 rfl dX6_test_54 0 rfl rfl ?_
              refine x_getr 58 rfl fX6_26 dX6_test_55 (lyl32 hL) (lys32 hL) (by decide) (36) rfl ?_
              refine x_iload_n 59 rfl dX6_test_58 2 rfl rfl ?_
              refine x_bipush 61 rfl dX6_test_59 (by decide) ?_
              refine x_cVu 64 rfl lX6_136 dX6_test_61 (lyl36 hL) (lys36 hL) (c_X9_aim0 hL hu1 (by decide)) rfl rfl (Nat.le_of_ble_eq_true rfl) (fun M4 hr4 => ?_)
              obtain ⟨cd4, hM4⟩ := hr4
              rw [hM4]
              refine w_iinc 67 rfl dX6_test_64 rfl (by decide) (by omega) rfl (ls' := [_, _, _]) rfl (by decide) ?_
              refine x_goto 6 dX6_test_67 (by decide) ?_
              refine z_wk (ls' := [some (zn 32), some (zi ((i : Int) + 1)), none]) ⟨rfl, z_e (by omega), trivial⟩ (bad _ _ _ _ _ _ hf (by rw [← hq1]; exact ⟨_, _, _, _, hu1, rfl⟩) (by omega))
            · rw [hq2] at hr2 hq1
              have hM2 : M2 = (cr M (s2.1 : Int) (-1) (s2.2.1 : Int) (br : Int) (s2.2.2.1 : Int) s2.2.2.2) := hr2
              rw [hM2]
              have hw9 := gW_stepc hT hG hB hc1 (by decide) hq2
              have hw8 := hw9.1
              have hA9 := gW_A hB hw9
              have hu9 : s2.2.2.1 ≤ s2.1 := hA9.2.2
              have ht9 : s2.1 ≤ n := hA9.1
              have hz9 := (hG _ hB2).2 s2 w2 hq2
              have hu8 : s1.2.2.1 + 1 + 1 ≤ s2.2.2.1 := hz9.2.2.2.2.1
              refine x_aload_n 55 rfl dX6_test_54 0 rfl rfl ?_
              refine x_getr 58 rfl fX6_26 dX6_test_55 (lyl32 hL) (lys32 hL) (by decide) (36) rfl ?_
              refine x_iload_n 59 rfl dX6_test_58 2 rfl rfl ?_
              refine x_bipush 61 rfl dX6_test_59 (by decide) ?_
              refine x_cVu 64 rfl lX6_136 dX6_test_61 (lyl36 hL) (lys36 hL) (c_X9_aim1 hL (s := s2) (q := s1.2.2.1) (by omega) (by omega) (by decide)) rfl rfl (Nat.le_of_ble_eq_true rfl) (fun M1 hM1 => ?_)
              rw [hM1]
              refine w_iinc 67 rfl dX6_test_64 rfl (by decide) (by omega) rfl (ls' := [_, _, _]) rfl (by decide) ?_
              refine x_goto 6 dX6_test_67 (by decide) ?_
              refine z_wk (ls' := [some (zn 32), some (zi ((i + 1 : Nat) : Int)), none]) ⟨rfl, z_e (by omega), trivial⟩ (ih (g_aim s2 s1.2.2.1 12) _ (i + 1) hA9 (by simp only [g_aim] at hw8 ⊢; omega) (by simp only [g_aim] at hw8 ⊢; omega) hq1)
        · rw [hM1]
          rw [g_chain_e hx] at hq1
          refine x_if_eq 22 70 rfl dX6_test_19 (by decide) (fun c19 => ?_) (fun c19 => ?_)
          · refine x_retu dX6_test_70 rfl ?_
            rw [← hq1]
            rfl
          · exfalso; omega
  refine zX_of pl_RX6 [some (zn 32), none, none] 2 rfl rfl ?_
  refine x_aload_n 1 rfl dX6_test_0 0 rfl rfl ?_
  refine x_cVu 4 rfl lX6_133 dX6_test_1 (lyl32 hL) (lys32 hL) (c_X6_both hL hT hC hA hO hD hdp hin rfl) rfl rfl (Nat.le_of_ble_eq_true rfl) (fun M2 hr2 => ?_)
  rcases hq2 : g_both c v o D inner s with t2 | ⟨s2, w2⟩
  · rw [hq2] at hr2 hq
    obtain ⟨x1, y1, u1, cd1, hu1, hM2⟩ := hr2
    rw [hM2]
    have hf2 : M 34 t2 ≠ -1 := by have := (hC.2 t2 ((hG s hA).1 t2 hq2)).2.2; omega
    have hf := hf2
    refine x_iconst 5 rfl dX6_test_4 (by decide) ?_
    refine y_istore_n 6 rfl dX6_test_5 rfl rfl (ls' := [_, _, _]) rfl (by decide) ?_
    exact bad _ _ _ _ _ _ hf (by rw [← hq]; exact ⟨_, _, _, _, hu1, rfl⟩) (by omega)
  · rw [hq2] at hr2 hq
    have hM2 : M2 = (cr M (s2.1 : Int) (-1) (s2.2.1 : Int) (br : Int) (s2.2.2.1 : Int) s2.2.2.2) := hr2
    rw [hM2]
    have hw0 := (hG s hA).2 s2 w2 hq2
    have hA0 := gW_A hA hw0
    have ht0 := hw0.1
    refine x_iconst 5 rfl dX6_test_4 (by decide) ?_
    refine y_istore_n 6 rfl dX6_test_5 rfl rfl (ls' := [_, _, _]) rfl (by decide) ?_
    exact loop 401 s2 w2 0 hA0 (by omega) (by omega) hq

theorem c_X6_testD {sz : Nat} {S : zSh} {M : zMem} (hL : LY S sz) {n : Nat} {c v : Nat → Int} (hT : TK c v n) (hC : CKr M c v n) {o : Bool} (hO : M 32 8 = (if o = true then 0 else 1))  : ∀ (D : Nat) {d : Nat} {s : gS}, gA n s → ∀ {br : Nat}, br + D = 8 → zX (d + 3 * D + 8) 0 0 mX6_test [zn 32] sz S (cr M (s.1 : Int) (-1) (s.2.1 : Int) (br : Int) (s.2.2.1 : Int) s.2.2.2) (zU sz S (fun M' => cro M (br : Int) (g_testD c v o D s) M'))
  | 0, d, s, hA, br, h => c_X6_test hL hT hC hA hO h (by omega) (Or.inl ⟨rfl, by omega⟩) rfl
  | D + 1, d, s, hA, br, h => by
    refine c_X6_test hL hT hC hA hO h (by omega) (Or.inr ⟨g_testD c v o D, rfl, by omega, gG_testD hT D, fun s1 h1 => ?_⟩) rfl
    have h2 := c_X6_testD hL hT hC hO D (d := d) h1 (br := br + 1) (by omega)
    rw [show ((br + 1 : Nat) : Int) = (br : Int) + 1 by omega] at h2
    rw [show d + 3 * (D + 1) + 5 = d + 3 * D + 8 by omega]
    exact h2
