def rdoC (M : zMem) (res : gRC) (M' : zMem) : Prop := match res with
  | .inl t => ∃ x y : Int, M' = rd M x y (M 66 t)
  | .inr q => M' = rd M (q.1.1 : Int) (q.1.2.1 : Int) (-1)
theorem g_bc_inr {s : gS} {w : gV} {f : gS → gV → gRC} : g_bc (.inr (s, w)) f = f s w := rfl
theorem c_X11_readSum8 {d sz : Nat} {S : zSh} {M : zMem} (hL : LY S sz) {n : Nat} (hR : rdA M n) {o : Bool} (hO : rdO M o) {s : gS} (hA : gA n s) : zX (d + 29) 0 0 mX11_readSum [zn 55, zi 0] sz S (rd M (s.1 : Int) (s.2.1 : Int) (-1)) (zU sz S (fun M' => rdo M (g_sumD (M 64) (M 65) o 8 s) M')) := c_X11_readSumD hL hR hO 8 (d := d) hA (dp := 0) rfl
theorem c_X11_readTest8 {d sz : Nat} {S : zSh} {M : zMem} (hL : LY S sz) {n : Nat} (hR : rdA M n) {o : Bool} (hO : rdO M o) {s : gS} (hA : gA n s) : zX (d + 32) 0 0 mX11_readTest [zn 55, zi 0] sz S (rd M (s.1 : Int) (s.2.1 : Int) (-1)) (zU sz S (fun M' => rdo M (g_testD (M 64) (M 65) o 8 s) M')) := c_X11_readTestD hL hR hO 8 (d := d) hA (dp := 0) rfl

set_option maxRecDepth 100000 in
set_option maxHeartbeats 4000000 in
theorem c_X11_readClause {d sz : Nat} {S : zSh} {M : zMem} (hL : LY S sz) {n : Nat} (hR : rdA M n) {s : gS} (hA : gA n s) (hO : rdO M false) {R : gRC} (hq : g_law (M 64) (M 65) s = R) : zX (d + 33) 0 0 mX11_readClause [zn 55] sz S (rd M (s.1 : Int) (s.2.1 : Int) (-1)) (zU sz S (fun M' => rdoC M R M')) := by
  have hT := hR.1
  have hn := hR.1.1
  have hA1 := hA.1
  have hG := gG_sumD (o := false) hT 8
  have bad : ∀ (t l b : Int), b ≠ -1 → rdoC M R (rd M t l b) → zW mX11_readClause (d + 33) 0 0 [] (zU sz S (fun M' => rdoC M R M')) 29 [some (zn 55)] [] sz S (rd M t l b) := by
    intro t l b hb hQ
    refine x_aload_n 30 rfl dX11_readClause_29 0 rfl rfl ?_
    refine x_iconst 31 rfl dX11_readClause_30 (by decide) ?_
    refine x_cVi 34 rfl lX11_172 dX11_readClause_31 (lyl55 hL) (lys55 hL) (c_X11_takes0 hL hb) rfl rfl (Nat.le_of_ble_eq_true rfl) (fun r M1 hr1 => ?_)
    obtain ⟨rfl, hM1⟩ := hr1
    rw [hM1]
    refine x_if_eq 37 42 rfl dX11_readClause_34 (by decide) (fun c34 => ?_) (fun c34 => ?_)
    · refine x_retu dX11_readClause_42 rfl ?_
      exact hQ
    · exfalso; omega
  have tail : ∀ (s3 : gS) (mk : Int → gV → gC), gA n s3 → g_tail (M 64) (M 65) false s3 mk = R → zW mX11_readClause (d + 33) 0 0 [] (zU sz S (fun M' => rdoC M R M')) 29 [some (zn 55)] [] sz S (rd M (s3.1 : Int) (s3.2.1 : Int) (-1)) := by
    intro s3 mk hB h5
    refine x_aload_n 30 rfl dX11_readClause_29 0 rfl rfl ?_
    refine x_iconst 31 rfl dX11_readClause_30 (by decide) ?_
    refine x_cVi 34 rfl lX11_172 dX11_readClause_31 (lyl55 hL) (lys55 hL) (c_X11_takes1 hL hR hB) rfl rfl (Nat.le_of_ble_eq_true rfl) (fun r M1 hr1 => ?_)
    rcases hr1 with ⟨hx, rfl, hM1⟩ | ⟨hx, rfl, hM1⟩
    · rw [hM1]
      unfold g_tail at h5
      rw [if_pos hx] at h5
      have hB2 := gW_A hB (gW_ad hB (hT.lt hB.1 (show M 64 s3.1 ≠ 0 by omega)))
      refine x_if_eq 37 42 rfl dX11_readClause_34 (by decide) (fun c34 => ?_) (fun c34 => ?_)
      · exfalso; omega
      · refine x_aload_n 38 rfl dX11_readClause_37 0 rfl rfl ?_
        refine x_iconst 39 rfl dX11_readClause_38 (by decide) ?_
        refine x_cVu 42 rfl lX11_188 dX11_readClause_39 (lyl55 hL) (lys55 hL) (c_X11_readTest8 hL hR hO hB2) rfl rfl (Nat.le_of_ble_eq_true rfl) (fun M2 hr2 => ?_)
        rcases hq2 : g_testD (M 64) (M 65) false 8 (g_ad s3) with t2 | ⟨s2, w2⟩
        · rw [hq2] at hr2 h5
          obtain ⟨x1, y1, hM2⟩ := hr2
          rw [hM2]
          refine x_retu dX11_readClause_42 rfl ?_
          rw [← h5]
          exact ⟨_, _, rfl⟩
        · rw [hq2] at hr2 h5
          have hM2 : M2 = rd M (s2.1 : Int) (s2.2.1 : Int) (-1) := hr2
          rw [hM2]
          refine x_retu dX11_readClause_42 rfl ?_
          rw [← h5]
          rfl
    · rw [hM1]
      unfold g_tail at h5
      rw [if_neg hx] at h5
      refine x_if_eq 37 42 rfl dX11_readClause_34 (by decide) (fun c34 => ?_) (fun c34 => ?_)
      · refine x_retu dX11_readClause_42 rfl ?_
        rw [← h5]
        rfl
      · exfalso; omega
  refine zX_of pl_RX11 [some (zn 55)] 0 rfl rfl ?_
  refine x_aload_n 1 rfl dX11_readClause_0 0 rfl rfl ?_
  refine x_iconst 2 rfl dX11_readClause_1 (by decide) ?_
  refine x_cVi 5 rfl lX11_172 dX11_readClause_2 (lyl55 hL) (lys55 hL) (c_X11_takes1 hL hR hA) rfl rfl (Nat.le_of_ble_eq_true rfl) (fun r M1 hr1 => ?_)
  rcases hr1 with ⟨hx, rfl, hM1⟩ | ⟨hx, rfl, hM1⟩
  · rw [hM1]
    have hc1 : M 64 s.1 ≠ 0 := by omega
    have hA2 := gW_A hA (gW_ad hA (hT.lt hA1 hc1))
    unfold g_law at hq
    rw [if_pos (by omega)] at hq
    refine x_if_ne 8 16 rfl dX11_readClause_5 (by decide) (fun c5 => ?_) (fun c5 => ?_)
    · refine x_aload_n 17 rfl dX11_readClause_16 0 rfl rfl ?_
      refine x_iconst 18 rfl dX11_readClause_17 (by decide) ?_
      refine x_cVu 21 rfl lX11_181 dX11_readClause_18 (lyl55 hL) (lys55 hL) (c_X11_readSum8 hL hR hO hA2) rfl rfl (Nat.le_of_ble_eq_true rfl) (fun M2 hr2 => ?_)
      rcases hq2 : g_sumD (M 64) (M 65) false 8 (g_ad s) with t2 | ⟨s2, w2⟩
      · rw [hq2] at hr2 hq
        obtain ⟨x1, y1, hM2⟩ := hr2
        rw [hM2]
        have hb1 : M 66 t2 ≠ -1 := by have := hR.2 t2 ((hG (g_ad s) hA2).1 t2 hq2); omega
        refine x_goto 29 dX11_readClause_21 (by decide) ?_
        exact bad _ _ _ hb1 (by rw [← hq]; exact ⟨_, _, rfl⟩)
      · rw [hq2] at hr2 hq
        have hM2 : M2 = rd M (s2.1 : Int) (s2.2.1 : Int) (-1) := hr2
        rw [hM2]
        have hw9 := gW_step hT hG hA hc1 hq2 (x := 0) (by decide)
        rw [g_bc_inr] at hq
        refine x_goto 29 dX11_readClause_21 (by decide) ?_
        refine z_mem (M' := rd M ((g_em s2 0).1 : Int) ((g_em s2 0).2.1 : Int) (-1)) rfl ?_
        exact tail (g_em s2 0) _ (gW_A hA hw9) hq
    · exfalso; omega
  · rw [hM1]
    have hx1 := hx
    clear hx
    refine x_if_ne 8 16 rfl dX11_readClause_5 (by decide) (fun c5 => ?_) (fun c5 => ?_)
    · exfalso; omega
    · refine x_aload_n 9 rfl dX11_readClause_8 0 rfl rfl ?_
      refine x_iconst 10 rfl dX11_readClause_9 (by decide) ?_
      refine x_cVi 13 rfl lX11_172 dX11_readClause_10 (lyl55 hL) (lys55 hL) (c_X11_takes1 hL hR hA) rfl rfl (Nat.le_of_ble_eq_true rfl) (fun r M1 hr1 => ?_)
      rcases hr1 with ⟨hx, rfl, hM1⟩ | ⟨hx, rfl, hM1⟩
      · rw [hM1]
        have hc1 : M 64 s.1 ≠ 0 := by omega
        have hA2 := gW_A hA (gW_ad hA (hT.lt hA1 hc1))
        unfold g_law at hq
        rw [if_pos (by omega)] at hq
        refine x_if_eq 16 24 rfl dX11_readClause_13 (by decide) (fun c13 => ?_) (fun c13 => ?_)
        · exfalso; omega
        · refine x_aload_n 17 rfl dX11_readClause_16 0 rfl rfl ?_
          refine x_iconst 18 rfl dX11_readClause_17 (by decide) ?_
          refine x_cVu 21 rfl lX11_181 dX11_readClause_18 (lyl55 hL) (lys55 hL) (c_X11_readSum8 hL hR hO hA2) rfl rfl (Nat.le_of_ble_eq_true rfl) (fun M2 hr2 => ?_)
          rcases hq2 : g_sumD (M 64) (M 65) false 8 (g_ad s) with t2 | ⟨s2, w2⟩
          · rw [hq2] at hr2 hq
            obtain ⟨x1, y1, hM2⟩ := hr2
            rw [hM2]
            have hb1 : M 66 t2 ≠ -1 := by have := hR.2 t2 ((hG (g_ad s) hA2).1 t2 hq2); omega
            refine x_goto 29 dX11_readClause_21 (by decide) ?_
            exact bad _ _ _ hb1 (by rw [← hq]; exact ⟨_, _, rfl⟩)
          · rw [hq2] at hr2 hq
            have hM2 : M2 = rd M (s2.1 : Int) (s2.2.1 : Int) (-1) := hr2
            rw [hM2]
            have hw9 := gW_step hT hG hA hc1 hq2 (x := 0) (by decide)
            rw [g_bc_inr] at hq
            refine x_goto 29 dX11_readClause_21 (by decide) ?_
            refine z_mem (M' := rd M ((g_em s2 0).1 : Int) ((g_em s2 0).2.1 : Int) (-1)) rfl ?_
            exact tail (g_em s2 0) _ (gW_A hA hw9) hq
      · rw [hM1]
        have hx2 := hx
        clear hx
        refine x_if_eq 16 24 rfl dX11_readClause_13 (by decide) (fun c13 => ?_) (fun c13 => ?_)
        · refine x_aload_n 25 rfl dX11_readClause_24 0 rfl rfl ?_
          refine x_iconst 26 rfl dX11_readClause_25 (by decide) ?_
          refine x_cVu 29 rfl lX11_185 dX11_readClause_26 (lyl55 hL) (lys55 hL) (c_X11_must1 hL hR hA) rfl rfl (Nat.le_of_ble_eq_true rfl) (fun M3 hr3 => ?_)
          rcases hr3 with ⟨hx, hM3⟩ | ⟨hx, hM3⟩
          · rw [hM3]
            unfold g_law at hq
            rw [if_neg (by omega), if_pos hx] at hq
            exact tail (g_ad s) _ (gW_A hA (gW_ad hA (hT.lt hA1 (by omega)))) hq
          · rw [hM3]
            unfold g_law at hq
            rw [if_neg (by omega), if_neg hx] at hq
            have hb1 : M 66 s.1 ≠ -1 := by have := hR.2 s.1 hA1; omega
            exact bad _ _ _ hb1 (by rw [← hq]; exact ⟨_, _, rfl⟩)
        · exfalso; omega

set_option maxRecDepth 100000 in
set_option maxHeartbeats 4000000 in
theorem c_X11_readOrder {d sz : Nat} {S : zSh} {M : zMem} (hL : LY S sz) {n : Nat} (hR : rdA M n) {s : gS} (hA : gA n s) (hO : rdO M true) {R : gRC} (hq : g_ord (M 64) (M 65) s = R) : zX (d + 33) 0 0 mX11_readOrder [zn 55] sz S (rd M (s.1 : Int) (s.2.1 : Int) (-1)) (zU sz S (fun M' => rdoC M R M')) := by
  have hT := hR.1
  have hn := hR.1.1
  have hA1 := hA.1
  have hG := gG_sumD (o := true) hT 8
  have bad : ∀ (t l b : Int), b ≠ -1 → rdoC M R (rd M t l b) → zW mX11_readOrder (d + 33) 0 0 [] (zU sz S (fun M' => rdoC M R M')) 82 [some (zn 55)] [] sz S (rd M t l b) := by
    intro t l b hb hQ
    refine x_aload_n 83 rfl dX11_readOrder_82 0 rfl rfl ?_
    refine x_iconst 84 rfl dX11_readOrder_83 (by decide) ?_
    refine x_cVi 87 rfl lX11_172 dX11_readOrder_84 (lyl55 hL) (lys55 hL) (c_X11_takes0 hL hb) rfl rfl (Nat.le_of_ble_eq_true rfl) (fun r M1 hr1 => ?_)
    obtain ⟨rfl, hM1⟩ := hr1
    rw [hM1]
    refine x_if_eq 90 95 rfl dX11_readOrder_87 (by decide) (fun c87 => ?_) (fun c87 => ?_)
    · refine x_retu dX11_readOrder_95 rfl ?_
      exact hQ
    · exfalso; omega
  have tail : ∀ (s3 : gS) (mk : Int → gV → gC), gA n s3 → g_tail (M 64) (M 65) true s3 mk = R → zW mX11_readOrder (d + 33) 0 0 [] (zU sz S (fun M' => rdoC M R M')) 82 [some (zn 55)] [] sz S (rd M (s3.1 : Int) (s3.2.1 : Int) (-1)) := by
    intro s3 mk hB h5
    refine x_aload_n 83 rfl dX11_readOrder_82 0 rfl rfl ?_
    refine x_iconst 84 rfl dX11_readOrder_83 (by decide) ?_
    refine x_cVi 87 rfl lX11_172 dX11_readOrder_84 (lyl55 hL) (lys55 hL) (c_X11_takes1 hL hR hB) rfl rfl (Nat.le_of_ble_eq_true rfl) (fun r M1 hr1 => ?_)
    rcases hr1 with ⟨hx, rfl, hM1⟩ | ⟨hx, rfl, hM1⟩
    · rw [hM1]
      unfold g_tail at h5
      rw [if_pos hx] at h5
      have hB2 := gW_A hB (gW_ad hB (hT.lt hB.1 (show M 64 s3.1 ≠ 0 by omega)))
      refine x_if_eq 90 95 rfl dX11_readOrder_87 (by decide) (fun c87 => ?_) (fun c87 => ?_)
      · exfalso; omega
      · refine x_aload_n 91 rfl dX11_readOrder_90 0 rfl rfl ?_
        refine x_iconst 92 rfl dX11_readOrder_91 (by decide) ?_
        refine x_cVu 95 rfl lX11_188 dX11_readOrder_92 (lyl55 hL) (lys55 hL) (c_X11_readTest8 hL hR hO hB2) rfl rfl (Nat.le_of_ble_eq_true rfl) (fun M2 hr2 => ?_)
        rcases hq2 : g_testD (M 64) (M 65) true 8 (g_ad s3) with t2 | ⟨s2, w2⟩
        · rw [hq2] at hr2 h5
          obtain ⟨x1, y1, hM2⟩ := hr2
          rw [hM2]
          refine x_retu dX11_readOrder_95 rfl ?_
          rw [← h5]
          exact ⟨_, _, rfl⟩
        · rw [hq2] at hr2 h5
          have hM2 : M2 = rd M (s2.1 : Int) (s2.2.1 : Int) (-1) := hr2
          rw [hM2]
          refine x_retu dX11_readOrder_95 rfl ?_
          rw [← h5]
          rfl
    · rw [hM1]
      unfold g_tail at h5
      rw [if_neg hx] at h5
      refine x_if_eq 90 95 rfl dX11_readOrder_87 (by decide) (fun c87 => ?_) (fun c87 => ?_)
      · refine x_retu dX11_readOrder_95 rfl ?_
        rw [← h5]
        rfl
      · exfalso; omega
  have rest : ∀ (s3 : gS) (mk : Int → Int → gV → gC), gA n s3 → g_rest (M 64) (M 65) s3 mk = R → zW mX11_readOrder (d + 33) 0 0 [] (zU sz S (fun M' => rdoC M R M')) 66 [some (zn 55)] [] sz S (rd M (s3.1 : Int) (s3.2.1 : Int) (-1)) := by
    intro s3 mk hB h5
    refine x_aload_n 67 rfl dX11_readOrder_66 0 rfl rfl ?_
    refine x_bipush 69 rfl dX11_readOrder_67 (by decide) ?_
    refine x_cVi 72 rfl lX11_172 dX11_readOrder_69 (lyl55 hL) (lys55 hL) (c_X11_takes1 hL hR hB) rfl rfl (Nat.le_of_ble_eq_true rfl) (fun r M1 hr1 => ?_)
    rcases hr1 with ⟨hx, rfl, hM1⟩ | ⟨hx, rfl, hM1⟩
    · rw [hM1]
      unfold g_rest at h5
      rw [if_pos hx] at h5
      have hlt := hT.lt hB.1 (show M 64 s3.1 ≠ 0 by omega)
      have hB2 := gW_A hB (gW_ad hB hlt)
      refine x_if_eq 75 82 rfl dX11_readOrder_72 (by decide) (fun c72 => ?_) (fun c72 => ?_)
      · exfalso; omega
      · refine x_aload_n 76 rfl dX11_readOrder_75 0 rfl rfl ?_
        refine x_iconst 77 rfl dX11_readOrder_76 (by decide) ?_
        refine x_bipush 79 rfl dX11_readOrder_77 (by decide) ?_
        refine x_cVu 82 rfl lX11_191 dX11_readOrder_79 (lyl55 hL) (lys55 hL) (c_X11_mustN1 hL hR hB2) rfl rfl (Nat.le_of_ble_eq_true rfl) (fun M3 hr3 => ?_)
        rcases hr3 with ⟨hy, hM3⟩ | ⟨hy, hM3⟩
        · rw [hM3]
          have hy : M 64 (s3.1 + 1) = 50 ∧ 1 ≤ M 65 (s3.1 + 1) ∧ M 65 (s3.1 + 1) ≤ 20 := hy
          rw [if_pos hy] at h5
          exact tail (g_ad (g_ad s3)) _ (gW_A hB2 (gW_ad hB2 (hT.lt hB2.1 (show M 64 (s3.1 + 1) ≠ 0 by omega)))) h5
        · rw [hM3]
          have hy : ¬ (M 64 (s3.1 + 1) = 50 ∧ 1 ≤ M 65 (s3.1 + 1) ∧ M 65 (s3.1 + 1) ≤ 20) := hy
          rw [if_neg hy] at h5
          have hb1 : M 66 (s3.1 + 1) ≠ -1 := by have := hR.2 (s3.1 + 1) hlt; omega
          exact bad _ _ _ hb1 (by rw [← h5]; exact ⟨_, _, rfl⟩)
    · rw [hM1]
      unfold g_rest at h5
      rw [if_neg hx] at h5
      refine x_if_eq 75 82 rfl dX11_readOrder_72 (by decide) (fun c72 => ?_) (fun c72 => ?_)
      · exact tail s3 _ hB h5
      · exfalso; omega
  have bad66 : ∀ (t l b : Int), b ≠ -1 → rdoC M R (rd M t l b) → zW mX11_readOrder (d + 33) 0 0 [] (zU sz S (fun M' => rdoC M R M')) 66 [some (zn 55)] [] sz S (rd M t l b) := by
    intro t l b hb hQ
    refine x_aload_n 67 rfl dX11_readOrder_66 0 rfl rfl ?_
    refine x_bipush 69 rfl dX11_readOrder_67 (by decide) ?_
    refine x_cVi 72 rfl lX11_172 dX11_readOrder_69 (lyl55 hL) (lys55 hL) (c_X11_takes0 hL hb) rfl rfl (Nat.le_of_ble_eq_true rfl) (fun r M1 hr1 => ?_)
    obtain ⟨rfl, hM1⟩ := hr1
    rw [hM1]
    refine x_if_eq 75 82 rfl dX11_readOrder_72 (by decide) (fun c72 => ?_) (fun c72 => ?_)
    · exact bad _ _ _ hb hQ
    · exfalso; omega
  have bad61 : ∀ (t l b : Int), b ≠ -1 → rdoC M R (rd M t l b) → zW mX11_readOrder (d + 33) 0 0 [] (zU sz S (fun M' => rdoC M R M')) 61 [some (zn 55)] [] sz S (rd M t l b) := by
    intro t l b hb hQ
    refine x_aload_n 62 rfl dX11_readOrder_61 0 rfl rfl ?_
    refine x_iconst 63 rfl dX11_readOrder_62 (by decide) ?_
    refine x_cVu 66 rfl lX11_181 dX11_readOrder_63 (lyl55 hL) (lys55 hL) (c_X11_readSum0 hL hb) rfl rfl (Nat.le_of_ble_eq_true rfl) (fun M1 hM1 => ?_)
    rw [hM1]
    exact bad66 _ _ _ hb hQ
  have sum2 : ∀ (s3 : gS) (mk : gS → gV → Int → Int → gV → gC), gA n s3 → M 64 s3.1 ≠ 0 → g_bc (g_sumD (M 64) (M 65) true 8 (g_ad s3)) (fun s2 w2 => g_rest (M 64) (M 65) (g_em s2 0) (mk s2 w2)) = R → zW mX11_readOrder (d + 33) 0 0 [] (zU sz S (fun M' => rdoC M R M')) 61 [some (zn 55)] [] sz S (rd M ((g_ad s3).1 : Int) ((g_ad s3).2.1 : Int) (-1)) := by
    intro s3 mk hB hc1 h5
    have hB2 := gW_A hB (gW_ad hB (hT.lt hB.1 hc1))
    refine x_aload_n 62 rfl dX11_readOrder_61 0 rfl rfl ?_
    refine x_iconst 63 rfl dX11_readOrder_62 (by decide) ?_
    refine x_cVu 66 rfl lX11_181 dX11_readOrder_63 (lyl55 hL) (lys55 hL) (c_X11_readSum8 hL hR hO hB2) rfl rfl (Nat.le_of_ble_eq_true rfl) (fun M2 hr2 => ?_)
    rcases hq2 : g_sumD (M 64) (M 65) true 8 (g_ad s3) with t2 | ⟨s2, w2⟩
    · rw [hq2] at hr2 h5
      obtain ⟨x1, y1, hM2⟩ := hr2
      rw [hM2]
      have hb1 : M 66 t2 ≠ -1 := by have := hR.2 t2 ((hG (g_ad s3) hB2).1 t2 hq2); omega
      exact bad66 _ _ _ hb1 (by rw [← h5]; exact ⟨_, _, rfl⟩)
    · rw [hq2] at hr2 h5
      have hM2 : M2 = rd M (s2.1 : Int) (s2.2.1 : Int) (-1) := hr2
      rw [hM2]
      have hw9 := gW_step hT hG hB hc1 hq2 (x := 0) (by decide)
      refine z_mem (M' := rd M ((g_em s2 0).1 : Int) ((g_em s2 0).2.1 : Int) (-1)) rfl ?_
      exact rest (g_em s2 0) _ (gW_A hB hw9) h5
  refine zX_of pl_RX11 [some (zn 55)] 0 rfl rfl ?_
  refine x_aload_n 1 rfl dX11_readOrder_0 0 rfl rfl ?_
  refine x_bipush 3 rfl dX11_readOrder_1 (by decide) ?_
  refine x_cVi 6 rfl lX11_172 dX11_readOrder_3 (lyl55 hL) (lys55 hL) (c_X11_takes1 hL hR hA) rfl rfl (Nat.le_of_ble_eq_true rfl) (fun r M1 hr1 => ?_)
  rcases hr1 with ⟨hx, rfl, hM1⟩ | ⟨hx, rfl, hM1⟩
  · rw [hM1]
    have hc1 : M 64 s.1 ≠ 0 := by omega
    have hA2 := gW_A hA (gW_ad hA (hT.lt hA1 hc1))
    unfold g_ord at hq
    rw [if_pos (by omega)] at hq
    refine x_if_eq 9 23 rfl dX11_readOrder_6 (by decide) (fun c6 => ?_) (fun c6 => ?_)
    · exfalso; omega
    · refine x_aload_n 10 rfl dX11_readOrder_9 0 rfl rfl ?_
      refine x_iconst 11 rfl dX11_readOrder_10 (by decide) ?_
      refine x_cVu 14 rfl lX11_181 dX11_readOrder_11 (lyl55 hL) (lys55 hL) (c_X11_readSum8 hL hR hO hA2) rfl rfl (Nat.le_of_ble_eq_true rfl) (fun M2 hr2 => ?_)
      rcases hq2 : g_sumD (M 64) (M 65) true 8 (g_ad s) with t2 | ⟨s2, w2⟩
      · rw [hq2] at hr2 hq
        obtain ⟨x1, y1, hM2⟩ := hr2
        rw [hM2]
        have hb1 : M 66 t2 ≠ -1 := by have := hR.2 t2 ((hG (g_ad s) hA2).1 t2 hq2); omega
        refine x_aload_n 15 rfl dX11_readOrder_14 0 rfl rfl ?_
        refine x_bipush 17 rfl dX11_readOrder_15 (by decide) ?_
        refine x_cVu 20 rfl lX11_185 dX11_readOrder_17 (lyl55 hL) (lys55 hL) (c_X11_must0 hL hb1) rfl rfl (Nat.le_of_ble_eq_true rfl) (fun M1 hM1 => ?_)
        rw [hM1]
        refine x_goto 61 dX11_readOrder_20 (by decide) ?_
        exact bad61 _ _ _ hb1 (by rw [← hq]; exact ⟨_, _, rfl⟩)
      · rw [hq2] at hr2 hq
        have hM2 : M2 = rd M (s2.1 : Int) (s2.2.1 : Int) (-1) := hr2
        rw [hM2]
        have hw9 := gW_step hT hG hA hc1 hq2 (x := 0) (by decide)
        have hA3 := gW_A hA hw9
        rw [g_bc_inr] at hq
        have e9 : (if M 64 s.1 = 21 then (22 : Int) else 25) = 22 := by split <;> omega
        rw [e9] at hq
        refine z_mem (M' := rd M ((g_em s2 0).1 : Int) ((g_em s2 0).2.1 : Int) (-1)) rfl ?_
        refine x_aload_n 15 rfl dX11_readOrder_14 0 rfl rfl ?_
        refine x_bipush 17 rfl dX11_readOrder_15 (by decide) ?_
        refine x_cVu 20 rfl lX11_185 dX11_readOrder_17 (lyl55 hL) (lys55 hL) (c_X11_must1 hL hR hA3) rfl rfl (Nat.le_of_ble_eq_true rfl) (fun M3 hr3 => ?_)
        rcases hr3 with ⟨hy, hM3⟩ | ⟨hy, hM3⟩
        · rw [hM3]
          rw [if_pos (show M 64 s2.1 = 22 from hy)] at hq
          have hc2 : M 64 (g_em s2 0).1 ≠ 0 := by rw [hy]; decide
          refine x_goto 61 dX11_readOrder_20 (by decide) ?_
          exact sum2 (g_em s2 0) _ hA3 hc2 hq
        · rw [hM3]
          rw [if_neg (show ¬ M 64 s2.1 = 22 from hy)] at hq
          have hb1 : M 66 s2.1 ≠ -1 := by have := hR.2 s2.1 hA3.1; omega
          refine x_goto 61 dX11_readOrder_20 (by decide) ?_
          exact bad61 _ _ _ hb1 (by rw [← hq]; exact ⟨_, _, rfl⟩)
  · rw [hM1]
    have hx1 := hx
    clear hx
    refine x_if_eq 9 23 rfl dX11_readOrder_6 (by decide) (fun c6 => ?_) (fun c6 => ?_)
    · refine x_aload_n 24 rfl dX11_readOrder_23 0 rfl rfl ?_
      refine x_bipush 26 rfl dX11_readOrder_24 (by decide) ?_
      refine x_cVi 29 rfl lX11_172 dX11_readOrder_26 (lyl55 hL) (lys55 hL) (c_X11_takes1 hL hR hA) rfl rfl (Nat.le_of_ble_eq_true rfl) (fun r M1 hr1 => ?_)
      rcases hr1 with ⟨hx, rfl, hM1⟩ | ⟨hx, rfl, hM1⟩
      · rw [hM1]
        have hc1 : M 64 s.1 ≠ 0 := by omega
        have hA2 := gW_A hA (gW_ad hA (hT.lt hA1 hc1))
        unfold g_ord at hq
        rw [if_pos (by omega)] at hq
        refine x_if_eq 32 46 rfl dX11_readOrder_29 (by decide) (fun c29 => ?_) (fun c29 => ?_)
        · exfalso; omega
        · refine x_aload_n 33 rfl dX11_readOrder_32 0 rfl rfl ?_
          refine x_iconst 34 rfl dX11_readOrder_33 (by decide) ?_
          refine x_cVu 37 rfl lX11_181 dX11_readOrder_34 (lyl55 hL) (lys55 hL) (c_X11_readSum8 hL hR hO hA2) rfl rfl (Nat.le_of_ble_eq_true rfl) (fun M2 hr2 => ?_)
          rcases hq2 : g_sumD (M 64) (M 65) true 8 (g_ad s) with t2 | ⟨s2, w2⟩
          · rw [hq2] at hr2 hq
            obtain ⟨x1, y1, hM2⟩ := hr2
            rw [hM2]
            have hb1 : M 66 t2 ≠ -1 := by have := hR.2 t2 ((hG (g_ad s) hA2).1 t2 hq2); omega
            refine x_aload_n 38 rfl dX11_readOrder_37 0 rfl rfl ?_
            refine x_bipush 40 rfl dX11_readOrder_38 (by decide) ?_
            refine x_cVu 43 rfl lX11_185 dX11_readOrder_40 (lyl55 hL) (lys55 hL) (c_X11_must0 hL hb1) rfl rfl (Nat.le_of_ble_eq_true rfl) (fun M1 hM1 => ?_)
            rw [hM1]
            refine x_goto 61 dX11_readOrder_43 (by decide) ?_
            exact bad61 _ _ _ hb1 (by rw [← hq]; exact ⟨_, _, rfl⟩)
          · rw [hq2] at hr2 hq
            have hM2 : M2 = rd M (s2.1 : Int) (s2.2.1 : Int) (-1) := hr2
            rw [hM2]
            have hw9 := gW_step hT hG hA hc1 hq2 (x := 0) (by decide)
            have hA3 := gW_A hA hw9
            rw [g_bc_inr] at hq
            have e9 : (if M 64 s.1 = 21 then (22 : Int) else 25) = 25 := by split <;> omega
            rw [e9] at hq
            refine z_mem (M' := rd M ((g_em s2 0).1 : Int) ((g_em s2 0).2.1 : Int) (-1)) rfl ?_
            refine x_aload_n 38 rfl dX11_readOrder_37 0 rfl rfl ?_
            refine x_bipush 40 rfl dX11_readOrder_38 (by decide) ?_
            refine x_cVu 43 rfl lX11_185 dX11_readOrder_40 (lyl55 hL) (lys55 hL) (c_X11_must1 hL hR hA3) rfl rfl (Nat.le_of_ble_eq_true rfl) (fun M3 hr3 => ?_)
            rcases hr3 with ⟨hy, hM3⟩ | ⟨hy, hM3⟩
            · rw [hM3]
              rw [if_pos (show M 64 s2.1 = 25 from hy)] at hq
              have hc2 : M 64 (g_em s2 0).1 ≠ 0 := by rw [hy]; decide
              refine x_goto 61 dX11_readOrder_43 (by decide) ?_
              exact sum2 (g_em s2 0) _ hA3 hc2 hq
            · rw [hM3]
              rw [if_neg (show ¬ M 64 s2.1 = 25 from hy)] at hq
              have hb1 : M 66 s2.1 ≠ -1 := by have := hR.2 s2.1 hA3.1; omega
              refine x_goto 61 dX11_readOrder_43 (by decide) ?_
              exact bad61 _ _ _ hb1 (by rw [← hq]; exact ⟨_, _, rfl⟩)
      · rw [hM1]
        have hx2 := hx
        clear hx
        refine x_if_eq 32 46 rfl dX11_readOrder_29 (by decide) (fun c29 => ?_) (fun c29 => ?_)
        · refine x_aload_n 47 rfl dX11_readOrder_46 0 rfl rfl ?_
          refine x_bipush 49 rfl dX11_readOrder_47 (by decide) ?_
          refine x_cVi 52 rfl lX11_172 dX11_readOrder_49 (lyl55 hL) (lys55 hL) (c_X11_takes1 hL hR hA) rfl rfl (Nat.le_of_ble_eq_true rfl) (fun r M1 hr1 => ?_)
          rcases hr1 with ⟨hx, rfl, hM1⟩ | ⟨hx, rfl, hM1⟩
          · rw [hM1]
            have hc1 : M 64 s.1 ≠ 0 := by omega
            unfold g_ord at hq
            rw [if_neg (by omega), if_pos (by omega)] at hq
            refine x_if_ne 55 61 rfl dX11_readOrder_52 (by decide) (fun c52 => ?_) (fun c52 => ?_)
            · exact sum2 s _ hA hc1 hq
            · exfalso; omega
          · rw [hM1]
            have hx3 := hx
            clear hx
            refine x_if_ne 55 61 rfl dX11_readOrder_52 (by decide) (fun c52 => ?_) (fun c52 => ?_)
            · exfalso; omega
            · refine x_aload_n 56 rfl dX11_readOrder_55 0 rfl rfl ?_
              refine x_bipush 58 rfl dX11_readOrder_56 (by decide) ?_
              refine x_cVu 61 rfl lX11_185 dX11_readOrder_58 (lyl55 hL) (lys55 hL) (c_X11_must1 hL hR hA) rfl rfl (Nat.le_of_ble_eq_true rfl) (fun M3 hr3 => ?_)
              rcases hr3 with ⟨hx, hM3⟩ | ⟨hx, hM3⟩
              · rw [hM3]
                have hc1 : M 64 s.1 ≠ 0 := by omega
                unfold g_ord at hq
                rw [if_neg (by omega), if_pos (by omega)] at hq
                exact sum2 s _ hA hc1 hq
              · rw [hM3]
                unfold g_ord at hq
                rw [if_neg (by omega), if_neg (by omega)] at hq
                have hb1 : M 66 s.1 ≠ -1 := by have := hR.2 s.1 hA1; omega
                exact bad61 _ _ _ hb1 (by rw [← hq]; exact ⟨_, _, rfl⟩)
        · exfalso; omega
    · exfalso; omega

set_option maxRecDepth 100000 in
set_option maxHeartbeats 4000000 in
theorem c_X11_readOne {d sz : Nat} {S : zSh} {M : zMem} (hL : LY S sz) {n : Nat} (hR : rdA M n) {s : gS} (hA : gA n s) {o : Bool} (hO : rdO M o) : zX (d + 34) 0 0 mX11_readOne [zn 55] sz S (rd M (s.1 : Int) (s.2.1 : Int) (-1)) (zU sz S (fun M' => rdoC M (g_cl o (M 64) (M 65) s) M')) := by
  have hO1 := hO.1
  refine zX_of pl_RX11 [some (zn 55)] 0 rfl rfl ?_
  refine x_aload_n 1 rfl dX11_readOne_0 0 rfl rfl ?_
  refine x_getz 4 rfl fX11_195 dX11_readOne_1 (lyl55 hL) (lys55 hL) (by decide) ?_
  try simp (disch := omega) only [z_up_ne, z_up_nk, z_up_eq, z_mup_ne, z_mup_eq, Int.reduceToNat, Int.toNat_natCast, rd_19, rd_20, rd_21, rd_o, rd_ne, rd_u19, rd_u20, rd_u21]
  refine x_if_eq 7 14 rfl dX11_readOne_4 (by decide) (fun c4 => ?_) (fun c4 => ?_)
  · have ho : o = false := by cases o with | false => rfl | true => (simp at hO1; omega)
    subst ho
    refine x_aload_n 15 rfl dX11_readOne_14 0 rfl rfl ?_
    refine x_cVu 18 rfl lX11_202 dX11_readOne_15 (lyl55 hL) (lys55 hL) (c_X11_readClause hL hR hA hO rfl) rfl rfl (Nat.le_of_ble_eq_true rfl) (fun M2 hr2 => ?_)
    refine x_retu dX11_readOne_18 rfl ?_
    exact hr2
  · have ho : o = true := by cases o with | true => rfl | false => (simp at hO1; omega)
    subst ho
    refine x_aload_n 8 rfl dX11_readOne_7 0 rfl rfl ?_
    refine x_cVu 11 rfl lX11_199 dX11_readOne_8 (lyl55 hL) (lys55 hL) (c_X11_readOrder hL hR hA hO rfl) rfl rfl (Nat.le_of_ble_eq_true rfl) (fun M2 hr2 => ?_)
    refine x_goto 18 dX11_readOne_11 (by decide) ?_
    refine x_retu dX11_readOne_18 rfl ?_
    exact hr2
