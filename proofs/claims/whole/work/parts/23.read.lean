theorem g_loop_s {c : Nat → Int} {ops : Int → Int} {el : gS → gR} {f : Nat} {s : gS} {w : gV} (h : ops (c s.1) ≠ 0) : g_loop c ops el (f + 1) s w = g_bd (el (g_ad s)) (fun s1 w1 => g_loop c ops el f (g_em s1 (ops (c s.1))) (v_join (ops (c s.1)) w w1)) := by
  simp only [g_loop]; rw [if_neg h]
theorem g_loop_e {c : Nat → Int} {ops : Int → Int} {el : gS → gR} {f : Nat} {s : gS} {w : gV} (h : ops (c s.1) = 0) : g_loop c ops el f s w = .inr (s, w) := by
  cases f with
  | zero => rfl
  | succ f => simp only [g_loop]; rw [if_pos h]
theorem g_chain_s {c : Nat → Int} {tok op : Int} {el : gS → gR} {f : Nat} {s : gS} {w : gV} (h : c s.1 = tok) : g_chain c tok op el (f + 1) s w = g_bd (el (g_em (g_ad s) op)) (fun s1 w1 => g_chain c tok op el f (g_aim s1 s.2.2.1 op) (v_short op w w1)) := by
  simp only [g_chain]; rw [if_pos h]
theorem g_chain_e {c : Nat → Int} {tok op : Int} {el : gS → gR} {f : Nat} {s : gS} {w : gV} (h : c s.1 ≠ tok) : g_chain c tok op el f s w = .inr (s, w) := by
  cases f with
  | zero => rfl
  | succ f => simp only [g_chain]; rw [if_neg h]
theorem gW_step {c v : Nat → Int} {n : Nat} {el : gS → gR} (hT : TK c v n) (he : gG n el) {s s1 : gS} {w1 : gV} (hA : gA n s) (h1 : c s.1 ≠ 0) (h2 : el (g_ad s) = .inr (s1, w1)) {x : Int} (hx : 0 ≤ x ∧ x ≤ 100000) : gW n 2 1 s (g_em s1 x) := by
  have ha := gW_ad hA (hT.lt hA.1 h1)
  have hf := (he (g_ad s) (gW_A hA ha)).2 s1 w1 h2
  have h3 := hf.2.2.2.2.2.1
  exact gW_em (gW_trans ha hf) hx (by simp only [g_ad] at h3; omega)
theorem gW_one {c v : Nat → Int} {n : Nat} (hT : TK c v n) {s : gS} (hA : gA n s) (h1 : c s.1 ≠ 0) {op : Int} (hop : 0 ≤ op ∧ op < 16) : gW n 1 0 s (g_em (g_ad s) op) := gW_em (gW_ad hA (hT.lt hA.1 h1)) (by omega) (by simp only [g_ad]; omega)
theorem gW_stepc {c v : Nat → Int} {n : Nat} {el : gS → gR} (hT : TK c v n) (he : gG n el) {s s1 : gS} {w1 : gV} (hA : gA n s) (h1 : c s.1 ≠ 0) {op : Int} (hop : 0 ≤ op ∧ op < 16) (h2 : el (g_em (g_ad s) op) = .inr (s1, w1)) : gW n 2 1 s (g_aim s1 s.2.2.1 op) := by
  have ha2 := gW_one hT hA h1 hop
  have hw := gW_trans ha2 ((he _ (gW_A hA ha2)).2 s1 w1 h2)
  have h9 := gW_A hA hw
  obtain ⟨k1, k2, k3, k4, k5, k6, k7, k8⟩ := hw
  refine ⟨k1, k2, k3, k4, k5, k6, fun i hi => ?_, fun i h3 h4 => ?_⟩
  · simp only [g_aim, ku]; rw [if_neg (by omega)]; exact k7 i hi
  · simp only [g_aim, ku] at h4 ⊢
    by_cases e : i = s.2.2.1
    · rw [if_pos e]
      have := h9.2.2
      have := h9.1
      have := hT.1
      omega
    · rw [if_neg e]; exact k8 i h3 h4
theorem rdo_neg {M M' : zMem} {b : Bool} {r : gR} (h : rdo M r M') : rdo M (g_neg b r) M' := by
  rcases r with t | ⟨s, w⟩
  · exact h
  · cases b with
    | true => exact h
    | false => exact h

set_option maxRecDepth 100000 in
set_option maxHeartbeats 4000000 in
theorem c_X11_readTerm {d sz : Nat} {S : zSh} {M : zMem} (hL : LY S sz) {n : Nat} (hR : rdA M n) {s : gS} (hA : gA n s) {o : Bool} (hO : rdO M o) {inner : Option (gS → gR)} {dp : Nat} (hdp : dp ≤ 8) (hin : (inner = none ∧ dp = 8) ∨ ∃ f, inner = some f ∧ dp < 8 ∧ gG n f ∧ ∀ s1, gA n s1 → zX (d + 2) 0 0 mX11_readSum [zn 55, zi ((dp : Int) + 1)] sz S (rd M (s1.1 : Int) (s1.2.1 : Int) (-1)) (zU sz S (fun M' => rdo M (f s1) M'))) {R : gR} (hq : g_term (M 64) (M 65) o inner s = R) : zX (d + 4) 0 0 mX11_readTerm [zn 55, zi (dp : Int)] sz S (rd M (s.1 : Int) (s.2.1 : Int) (-1)) (zU sz S (fun M' => rdo M R M')) := by
  have hn := hR.1.1
  have hA1 := hA.1
  have hI : ∀ f, inner = some f → gG n f := fun f h => by
    rcases hin with ⟨h1, -⟩ | ⟨g, h1, -, h2, -⟩
    · rw [h1] at h; cases h
    · rw [h1] at h; cases h; exact h2
  have hG : gG n (g_part (M 64) (M 65) o inner) := gG_part hR.1 hI
  have bad : ∀ (t l b : Int), b ≠ -1 → rdo M R (rd M t l b) → zW mX11_readTerm (d + 4) 0 0 [] (zU sz S (fun M' => rdo M R M')) 5 [some (zn 55), some (zi (dp : Int))] [] sz S (rd M t l b) := by
    intro t l b hb hQ
    refine x_aload_n 6 rfl dX11_readTerm_5 0 rfl rfl ?_
    refine x_bipush 8 rfl dX11_readTerm_6 (by decide) ?_
    refine x_cSi 11 rfl lX11_211 dX11_readTerm_8 (c_X11_signOf (by decide)) rfl rfl (Nat.le_of_ble_eq_true rfl) (fun r M1 hr1 => ?_)
    obtain ⟨rfl, hM1⟩ := hr1
    rw [hM1]
    refine x_cVi 14 rfl lX11_172 dX11_readTerm_11 (lyl55 hL) (lys55 hL) (c_X11_takes0 hL hb) rfl rfl (Nat.le_of_ble_eq_true rfl) (fun r M1 hr1 => ?_)
    obtain ⟨rfl, hM1⟩ := hr1
    rw [hM1]
    refine x_if_ne 17 41 rfl dX11_readTerm_14 (by decide) (fun c14 => ?_) (fun c14 => ?_)
    · exfalso; omega
    · refine x_aload_n 18 rfl dX11_readTerm_17 0 rfl rfl ?_
      refine x_bipush 20 rfl dX11_readTerm_18 (by decide) ?_
      refine x_cSi 23 rfl lX11_211 dX11_readTerm_20 (c_X11_signOf (by decide)) rfl rfl (Nat.le_of_ble_eq_true rfl) (fun r M1 hr1 => ?_)
      obtain ⟨rfl, hM1⟩ := hr1
      rw [hM1]
      refine x_cVi 26 rfl lX11_172 dX11_readTerm_23 (lyl55 hL) (lys55 hL) (c_X11_takes0 hL hb) rfl rfl (Nat.le_of_ble_eq_true rfl) (fun r M1 hr1 => ?_)
      obtain ⟨rfl, hM1⟩ := hr1
      rw [hM1]
      refine x_if_ne 29 41 rfl dX11_readTerm_26 (by decide) (fun c26 => ?_) (fun c26 => ?_)
      · exfalso; omega
      · refine x_aload_n 30 rfl dX11_readTerm_29 0 rfl rfl ?_
        refine x_bipush 32 rfl dX11_readTerm_30 (by decide) ?_
        refine x_cSi 35 rfl lX11_211 dX11_readTerm_32 (c_X11_signOf (by decide)) rfl rfl (Nat.le_of_ble_eq_true rfl) (fun r M1 hr1 => ?_)
        obtain ⟨rfl, hM1⟩ := hr1
        rw [hM1]
        refine x_cVi 38 rfl lX11_172 dX11_readTerm_35 (lyl55 hL) (lys55 hL) (c_X11_takes0 hL hb) rfl rfl (Nat.le_of_ble_eq_true rfl) (fun r M1 hr1 => ?_)
        obtain ⟨rfl, hM1⟩ := hr1
        rw [hM1]
        refine x_if_eq 41 49 rfl dX11_readTerm_38 (by decide) (fun c38 => ?_) (fun c38 => ?_)
        · refine x_retu dX11_readTerm_49 rfl ?_
          exact hQ
        · exfalso; omega
  have loop : ∀ (f : Nat) (s1 : gS) (w1 : gV), gA n s1 → n < f + s1.1 → g_loop (M 64) gop_t (g_part (M 64) (M 65) o inner) f s1 w1 = R → zW mX11_readTerm (d + 4) 0 0 [] (zU sz S (fun M' => rdo M R M')) 5 [some (zn 55), some (zi (dp : Int))] [] sz S (rd M (s1.1 : Int) (s1.2.1 : Int) (-1)) := by
    intro f
    induction f with
    | zero => intro s1 w1 hB hf; have := hB.1; omega
    | succ f ih =>
      intro s1 w1 hB hf hq1
      refine x_aload_n 6 rfl dX11_readTerm_5 0 rfl rfl ?_
      refine x_bipush 8 rfl dX11_readTerm_6 (by decide) ?_
      refine x_cSi 11 rfl lX11_211 dX11_readTerm_8 (c_X11_signOf (by decide)) rfl rfl (Nat.le_of_ble_eq_true rfl) (fun r M1 hr1 => ?_)
      obtain ⟨rfl, hM1⟩ := hr1
      rw [hM1]
      refine x_cVi 14 rfl lX11_172 dX11_readTerm_11 (lyl55 hL) (lys55 hL) (c_X11_takes1 hL hR hB) rfl rfl (Nat.le_of_ble_eq_true rfl) (fun r M1 hr1 => ?_)
      rcases hr1 with ⟨hx, rfl, hM1⟩ | ⟨hx, rfl, hM1⟩
      · rw [hM1]
        have hop : gop_t (M 64 s1.1) ≠ 0 := by unfold gop_t; rw [hx]; decide
        have hc1 : M 64 s1.1 ≠ 0 := by omega
        have hB2 := gW_A hB (gW_ad hB (hR.1.lt hB.1 hc1))
        rw [g_loop_s hop] at hq1
        refine x_if_ne 17 41 rfl dX11_readTerm_14 (by decide) (fun c14 => ?_) (fun c14 => ?_)
        · refine x_aload_n 42 rfl dX11_readTerm_41 0 rfl rfl ?_
          refine x_iload_n 43 rfl dX11_readTerm_42 1 rfl rfl ?_
          refine x_cVu 46 rfl lX11_218 dX11_readTerm_43 (lyl55 hL) (lys55 hL) (c_X11_readPart hL hR hB2 hO hdp hin) rfl rfl (Nat.le_of_ble_eq_true rfl) (fun M2 hr2 => ?_)
          rcases hq2 : g_part (M 64) (M 65) o inner (g_ad s1) with t2 | ⟨s2, w2⟩
          · rw [hq2] at hr2 hq1
            obtain ⟨x1, y1, hM2⟩ := hr2
            rw [hM2]
            have hb1 : M 66 t2 ≠ -1 := by have := hR.2 t2 ((hG (g_ad s1) hB2).1 t2 hq2); omega
            refine x_goto 5 dX11_readTerm_46 (by decide) ?_
            exact bad _ _ _ hb1 (by rw [← hq1]; exact ⟨_, _, rfl⟩)
          · rw [hq2] at hr2 hq1
            have hM2 : M2 = rd M (s2.1 : Int) (s2.2.1 : Int) (-1) := hr2
            rw [hM2]
            refine x_goto 5 dX11_readTerm_46 (by decide) ?_
            have hin2 := gop_t_in (M 64 s1.1)
            have hw9 := gW_step hR.1 hG hB hc1 hq2 (x := gop_t (M 64 s1.1)) (by omega)
            have hw8 := hw9.1
            exact ih (g_em s2 (gop_t (M 64 s1.1))) _ (gW_A hB hw9) (by simp only [g_em] at hw8 ⊢; omega) hq1
        · exfalso; omega
      · rw [hM1]
        have hx0 := hx
        clear hx
        refine x_if_ne 17 41 rfl dX11_readTerm_14 (by decide) (fun c14 => ?_) (fun c14 => ?_)
        · exfalso; omega
        · refine x_aload_n 18 rfl dX11_readTerm_17 0 rfl rfl ?_
          refine x_bipush 20 rfl dX11_readTerm_18 (by decide) ?_
          refine x_cSi 23 rfl lX11_211 dX11_readTerm_20 (c_X11_signOf (by decide)) rfl rfl (Nat.le_of_ble_eq_true rfl) (fun r M1 hr1 => ?_)
          obtain ⟨rfl, hM1⟩ := hr1
          rw [hM1]
          refine x_cVi 26 rfl lX11_172 dX11_readTerm_23 (lyl55 hL) (lys55 hL) (c_X11_takes1 hL hR hB) rfl rfl (Nat.le_of_ble_eq_true rfl) (fun r M1 hr1 => ?_)
          rcases hr1 with ⟨hx, rfl, hM1⟩ | ⟨hx, rfl, hM1⟩
          · rw [hM1]
            have hop : gop_t (M 64 s1.1) ≠ 0 := by unfold gop_t; rw [hx]; decide
            have hc1 : M 64 s1.1 ≠ 0 := by omega
            have hB2 := gW_A hB (gW_ad hB (hR.1.lt hB.1 hc1))
            rw [g_loop_s hop] at hq1
            refine x_if_ne 29 41 rfl dX11_readTerm_26 (by decide) (fun c26 => ?_) (fun c26 => ?_)
            · refine x_aload_n 42 rfl dX11_readTerm_41 0 rfl rfl ?_
              refine x_iload_n 43 rfl dX11_readTerm_42 1 rfl rfl ?_
              refine x_cVu 46 rfl lX11_218 dX11_readTerm_43 (lyl55 hL) (lys55 hL) (c_X11_readPart hL hR hB2 hO hdp hin) rfl rfl (Nat.le_of_ble_eq_true rfl) (fun M2 hr2 => ?_)
              rcases hq2 : g_part (M 64) (M 65) o inner (g_ad s1) with t2 | ⟨s2, w2⟩
              · rw [hq2] at hr2 hq1
                obtain ⟨x1, y1, hM2⟩ := hr2
                rw [hM2]
                have hb1 : M 66 t2 ≠ -1 := by have := hR.2 t2 ((hG (g_ad s1) hB2).1 t2 hq2); omega
                refine x_goto 5 dX11_readTerm_46 (by decide) ?_
                exact bad _ _ _ hb1 (by rw [← hq1]; exact ⟨_, _, rfl⟩)
              · rw [hq2] at hr2 hq1
                have hM2 : M2 = rd M (s2.1 : Int) (s2.2.1 : Int) (-1) := hr2
                rw [hM2]
                refine x_goto 5 dX11_readTerm_46 (by decide) ?_
                have hin2 := gop_t_in (M 64 s1.1)
                have hw9 := gW_step hR.1 hG hB hc1 hq2 (x := gop_t (M 64 s1.1)) (by omega)
                have hw8 := hw9.1
                exact ih (g_em s2 (gop_t (M 64 s1.1))) _ (gW_A hB hw9) (by simp only [g_em] at hw8 ⊢; omega) hq1
            · exfalso; omega
          · rw [hM1]
            have hx1 := hx
            clear hx
            refine x_if_ne 29 41 rfl dX11_readTerm_26 (by decide) (fun c26 => ?_) (fun c26 => ?_)
            · exfalso; omega
            · refine x_aload_n 30 rfl dX11_readTerm_29 0 rfl rfl ?_
              refine x_bipush 32 rfl dX11_readTerm_30 (by decide) ?_
              refine x_cSi 35 rfl lX11_211 dX11_readTerm_32 (c_X11_signOf (by decide)) rfl rfl (Nat.le_of_ble_eq_true rfl) (fun r M1 hr1 => ?_)
              obtain ⟨rfl, hM1⟩ := hr1
              rw [hM1]
              refine x_cVi 38 rfl lX11_172 dX11_readTerm_35 (lyl55 hL) (lys55 hL) (c_X11_takes1 hL hR hB) rfl rfl (Nat.le_of_ble_eq_true rfl) (fun r M1 hr1 => ?_)
              rcases hr1 with ⟨hx, rfl, hM1⟩ | ⟨hx, rfl, hM1⟩
              · rw [hM1]
                have hop : gop_t (M 64 s1.1) ≠ 0 := by unfold gop_t; rw [hx]; decide
                have hc1 : M 64 s1.1 ≠ 0 := by omega
                have hB2 := gW_A hB (gW_ad hB (hR.1.lt hB.1 hc1))
                rw [g_loop_s hop] at hq1
                refine x_if_eq 41 49 rfl dX11_readTerm_38 (by decide) (fun c38 => ?_) (fun c38 => ?_)
                · exfalso; omega
                · refine x_aload_n 42 rfl dX11_readTerm_41 0 rfl rfl ?_
                  refine x_iload_n 43 rfl dX11_readTerm_42 1 rfl rfl ?_
                  refine x_cVu 46 rfl lX11_218 dX11_readTerm_43 (lyl55 hL) (lys55 hL) (c_X11_readPart hL hR hB2 hO hdp hin) rfl rfl (Nat.le_of_ble_eq_true rfl) (fun M2 hr2 => ?_)
                  rcases hq2 : g_part (M 64) (M 65) o inner (g_ad s1) with t2 | ⟨s2, w2⟩
                  · rw [hq2] at hr2 hq1
                    obtain ⟨x1, y1, hM2⟩ := hr2
                    rw [hM2]
                    have hb1 : M 66 t2 ≠ -1 := by have := hR.2 t2 ((hG (g_ad s1) hB2).1 t2 hq2); omega
                    refine x_goto 5 dX11_readTerm_46 (by decide) ?_
                    exact bad _ _ _ hb1 (by rw [← hq1]; exact ⟨_, _, rfl⟩)
                  · rw [hq2] at hr2 hq1
                    have hM2 : M2 = rd M (s2.1 : Int) (s2.2.1 : Int) (-1) := hr2
                    rw [hM2]
                    refine x_goto 5 dX11_readTerm_46 (by decide) ?_
                    have hin2 := gop_t_in (M 64 s1.1)
                    have hw9 := gW_step hR.1 hG hB hc1 hq2 (x := gop_t (M 64 s1.1)) (by omega)
                    have hw8 := hw9.1
                    exact ih (g_em s2 (gop_t (M 64 s1.1))) _ (gW_A hB hw9) (by simp only [g_em] at hw8 ⊢; omega) hq1
              · rw [hM1]
                have hx2 := hx
                clear hx
                refine x_if_eq 41 49 rfl dX11_readTerm_38 (by decide) (fun c38 => ?_) (fun c38 => ?_)
                · refine x_retu dX11_readTerm_49 rfl ?_
                  have hop : gop_t (M 64 s1.1) = 0 := by unfold gop_t; repeat rw [if_neg (by omega)]
                  rw [g_loop_e hop] at hq1
                  rw [← hq1]
                  rfl
                · exfalso; omega
  refine zX_of pl_RX11 [some (zn 55), some (zi (dp : Int))] 0 rfl rfl ?_
  refine x_aload_n 1 rfl dX11_readTerm_0 0 rfl rfl ?_
  refine x_iload_n 2 rfl dX11_readTerm_1 1 rfl rfl ?_
  refine x_cVu 5 rfl lX11_218 dX11_readTerm_2 (lyl55 hL) (lys55 hL) (c_X11_readPart hL hR hA hO hdp hin) rfl rfl (Nat.le_of_ble_eq_true rfl) (fun M2 hr2 => ?_)
  unfold g_term at hq
  rcases hq2 : g_part (M 64) (M 65) o inner s with t2 | ⟨s2, w2⟩
  · rw [hq2] at hr2 hq
    obtain ⟨x1, y1, hM2⟩ := hr2
    rw [hM2]
    have hb1 : M 66 t2 ≠ -1 := by have := hR.2 t2 ((hG s hA).1 t2 hq2); omega
    exact bad _ _ _ hb1 (by rw [← hq]; exact ⟨_, _, rfl⟩)
  · rw [hq2] at hr2 hq
    have hM2 : M2 = rd M (s2.1 : Int) (s2.2.1 : Int) (-1) := hr2
    rw [hM2]
    exact loop 401 s2 w2 (gW_A hA ((hG s hA).2 s2 w2 hq2)) (by omega) hq

set_option maxRecDepth 100000 in
set_option maxHeartbeats 4000000 in
theorem c_X11_readSum {d sz : Nat} {S : zSh} {M : zMem} (hL : LY S sz) {n : Nat} (hR : rdA M n) {s : gS} (hA : gA n s) {o : Bool} (hO : rdO M o) {inner : Option (gS → gR)} {dp : Nat} (hdp : dp ≤ 8) (hin : (inner = none ∧ dp = 8) ∨ ∃ f, inner = some f ∧ dp < 8 ∧ gG n f ∧ ∀ s1, gA n s1 → zX (d + 2) 0 0 mX11_readSum [zn 55, zi ((dp : Int) + 1)] sz S (rd M (s1.1 : Int) (s1.2.1 : Int) (-1)) (zU sz S (fun M' => rdo M (f s1) M'))) {R : gR} (hq : g_sum (M 64) (M 65) o inner s = R) : zX (d + 5) 0 0 mX11_readSum [zn 55, zi (dp : Int)] sz S (rd M (s.1 : Int) (s.2.1 : Int) (-1)) (zU sz S (fun M' => rdo M R M')) := by
  have hn := hR.1.1
  have hA1 := hA.1
  have hI : ∀ f, inner = some f → gG n f := fun f h => by
    rcases hin with ⟨h1, -⟩ | ⟨g, h1, -, h2, -⟩
    · rw [h1] at h; cases h
    · rw [h1] at h; cases h; exact h2
  have hG : gG n (g_term (M 64) (M 65) o inner) := gG_term hR.1 hI
  have bad : ∀ (t l b : Int), b ≠ -1 → rdo M R (rd M t l b) → zW mX11_readSum (d + 5) 0 0 [] (zU sz S (fun M' => rdo M R M')) 5 [some (zn 55), some (zi (dp : Int))] [] sz S (rd M t l b) := by
    intro t l b hb hQ
    refine x_aload_n 6 rfl dX11_readSum_5 0 rfl rfl ?_
    refine x_bipush 8 rfl dX11_readSum_6 (by decide) ?_
    refine x_cSi 11 rfl lX11_211 dX11_readSum_8 (c_X11_signOf (by decide)) rfl rfl (Nat.le_of_ble_eq_true rfl) (fun r M1 hr1 => ?_)
    obtain ⟨rfl, hM1⟩ := hr1
    rw [hM1]
    refine x_cVi 14 rfl lX11_172 dX11_readSum_11 (lyl55 hL) (lys55 hL) (c_X11_takes0 hL hb) rfl rfl (Nat.le_of_ble_eq_true rfl) (fun r M1 hr1 => ?_)
    obtain ⟨rfl, hM1⟩ := hr1
    rw [hM1]
    refine x_if_ne 17 29 rfl dX11_readSum_14 (by decide) (fun c14 => ?_) (fun c14 => ?_)
    · exfalso; omega
    · refine x_aload_n 18 rfl dX11_readSum_17 0 rfl rfl ?_
      refine x_bipush 20 rfl dX11_readSum_18 (by decide) ?_
      refine x_cSi 23 rfl lX11_211 dX11_readSum_20 (c_X11_signOf (by decide)) rfl rfl (Nat.le_of_ble_eq_true rfl) (fun r M1 hr1 => ?_)
      obtain ⟨rfl, hM1⟩ := hr1
      rw [hM1]
      refine x_cVi 26 rfl lX11_172 dX11_readSum_23 (lyl55 hL) (lys55 hL) (c_X11_takes0 hL hb) rfl rfl (Nat.le_of_ble_eq_true rfl) (fun r M1 hr1 => ?_)
      obtain ⟨rfl, hM1⟩ := hr1
      rw [hM1]
      refine x_if_eq 29 37 rfl dX11_readSum_26 (by decide) (fun c26 => ?_) (fun c26 => ?_)
      · refine x_retu dX11_readSum_37 rfl ?_
        exact hQ
      · exfalso; omega
  have loop : ∀ (f : Nat) (s1 : gS) (w1 : gV), gA n s1 → n < f + s1.1 → g_loop (M 64) gop_s (g_term (M 64) (M 65) o inner) f s1 w1 = R → zW mX11_readSum (d + 5) 0 0 [] (zU sz S (fun M' => rdo M R M')) 5 [some (zn 55), some (zi (dp : Int))] [] sz S (rd M (s1.1 : Int) (s1.2.1 : Int) (-1)) := by
    intro f
    induction f with
    | zero => intro s1 w1 hB hf; have := hB.1; omega
    | succ f ih =>
      intro s1 w1 hB hf hq1
      refine x_aload_n 6 rfl dX11_readSum_5 0 rfl rfl ?_
      refine x_bipush 8 rfl dX11_readSum_6 (by decide) ?_
      refine x_cSi 11 rfl lX11_211 dX11_readSum_8 (c_X11_signOf (by decide)) rfl rfl (Nat.le_of_ble_eq_true rfl) (fun r M1 hr1 => ?_)
      obtain ⟨rfl, hM1⟩ := hr1
      rw [hM1]
      refine x_cVi 14 rfl lX11_172 dX11_readSum_11 (lyl55 hL) (lys55 hL) (c_X11_takes1 hL hR hB) rfl rfl (Nat.le_of_ble_eq_true rfl) (fun r M1 hr1 => ?_)
      rcases hr1 with ⟨hx, rfl, hM1⟩ | ⟨hx, rfl, hM1⟩
      · rw [hM1]
        have hop : gop_s (M 64 s1.1) ≠ 0 := by unfold gop_s; rw [hx]; decide
        have hc1 : M 64 s1.1 ≠ 0 := by omega
        have hB2 := gW_A hB (gW_ad hB (hR.1.lt hB.1 hc1))
        rw [g_loop_s hop] at hq1
        refine x_if_ne 17 29 rfl dX11_readSum_14 (by decide) (fun c14 => ?_) (fun c14 => ?_)
        · refine x_aload_n 30 rfl dX11_readSum_29 0 rfl rfl ?_
          refine x_iload_n 31 rfl dX11_readSum_30 1 rfl rfl ?_
          refine x_cVu 34 rfl lX11_215 dX11_readSum_31 (lyl55 hL) (lys55 hL) (c_X11_readTerm hL hR hB2 hO hdp hin rfl) rfl rfl (Nat.le_of_ble_eq_true rfl) (fun M2 hr2 => ?_)
          rcases hq2 : g_term (M 64) (M 65) o inner (g_ad s1) with t2 | ⟨s2, w2⟩
          · rw [hq2] at hr2 hq1
            obtain ⟨x1, y1, hM2⟩ := hr2
            rw [hM2]
            have hb1 : M 66 t2 ≠ -1 := by have := hR.2 t2 ((hG (g_ad s1) hB2).1 t2 hq2); omega
            refine x_goto 5 dX11_readSum_34 (by decide) ?_
            exact bad _ _ _ hb1 (by rw [← hq1]; exact ⟨_, _, rfl⟩)
          · rw [hq2] at hr2 hq1
            have hM2 : M2 = rd M (s2.1 : Int) (s2.2.1 : Int) (-1) := hr2
            rw [hM2]
            refine x_goto 5 dX11_readSum_34 (by decide) ?_
            have hin2 := gop_s_in (M 64 s1.1)
            have hw9 := gW_step hR.1 hG hB hc1 hq2 (x := gop_s (M 64 s1.1)) (by omega)
            have hw8 := hw9.1
            exact ih (g_em s2 (gop_s (M 64 s1.1))) _ (gW_A hB hw9) (by simp only [g_em] at hw8 ⊢; omega) hq1
        · exfalso; omega
      · rw [hM1]
        have hx0 := hx
        clear hx
        refine x_if_ne 17 29 rfl dX11_readSum_14 (by decide) (fun c14 => ?_) (fun c14 => ?_)
        · exfalso; omega
        · refine x_aload_n 18 rfl dX11_readSum_17 0 rfl rfl ?_
          refine x_bipush 20 rfl dX11_readSum_18 (by decide) ?_
          refine x_cSi 23 rfl lX11_211 dX11_readSum_20 (c_X11_signOf (by decide)) rfl rfl (Nat.le_of_ble_eq_true rfl) (fun r M1 hr1 => ?_)
          obtain ⟨rfl, hM1⟩ := hr1
          rw [hM1]
          refine x_cVi 26 rfl lX11_172 dX11_readSum_23 (lyl55 hL) (lys55 hL) (c_X11_takes1 hL hR hB) rfl rfl (Nat.le_of_ble_eq_true rfl) (fun r M1 hr1 => ?_)
          rcases hr1 with ⟨hx, rfl, hM1⟩ | ⟨hx, rfl, hM1⟩
          · rw [hM1]
            have hop : gop_s (M 64 s1.1) ≠ 0 := by unfold gop_s; rw [hx]; decide
            have hc1 : M 64 s1.1 ≠ 0 := by omega
            have hB2 := gW_A hB (gW_ad hB (hR.1.lt hB.1 hc1))
            rw [g_loop_s hop] at hq1
            refine x_if_eq 29 37 rfl dX11_readSum_26 (by decide) (fun c26 => ?_) (fun c26 => ?_)
            · exfalso; omega
            · refine x_aload_n 30 rfl dX11_readSum_29 0 rfl rfl ?_
              refine x_iload_n 31 rfl dX11_readSum_30 1 rfl rfl ?_
              refine x_cVu 34 rfl lX11_215 dX11_readSum_31 (lyl55 hL) (lys55 hL) (c_X11_readTerm hL hR hB2 hO hdp hin rfl) rfl rfl (Nat.le_of_ble_eq_true rfl) (fun M2 hr2 => ?_)
              rcases hq2 : g_term (M 64) (M 65) o inner (g_ad s1) with t2 | ⟨s2, w2⟩
              · rw [hq2] at hr2 hq1
                obtain ⟨x1, y1, hM2⟩ := hr2
                rw [hM2]
                have hb1 : M 66 t2 ≠ -1 := by have := hR.2 t2 ((hG (g_ad s1) hB2).1 t2 hq2); omega
                refine x_goto 5 dX11_readSum_34 (by decide) ?_
                exact bad _ _ _ hb1 (by rw [← hq1]; exact ⟨_, _, rfl⟩)
              · rw [hq2] at hr2 hq1
                have hM2 : M2 = rd M (s2.1 : Int) (s2.2.1 : Int) (-1) := hr2
                rw [hM2]
                refine x_goto 5 dX11_readSum_34 (by decide) ?_
                have hin2 := gop_s_in (M 64 s1.1)
                have hw9 := gW_step hR.1 hG hB hc1 hq2 (x := gop_s (M 64 s1.1)) (by omega)
                have hw8 := hw9.1
                exact ih (g_em s2 (gop_s (M 64 s1.1))) _ (gW_A hB hw9) (by simp only [g_em] at hw8 ⊢; omega) hq1
          · rw [hM1]
            have hx1 := hx
            clear hx
            refine x_if_eq 29 37 rfl dX11_readSum_26 (by decide) (fun c26 => ?_) (fun c26 => ?_)
            · refine x_retu dX11_readSum_37 rfl ?_
              have hop : gop_s (M 64 s1.1) = 0 := by unfold gop_s; repeat rw [if_neg (by omega)]
              rw [g_loop_e hop] at hq1
              rw [← hq1]
              rfl
            · exfalso; omega
  refine zX_of pl_RX11 [some (zn 55), some (zi (dp : Int))] 0 rfl rfl ?_
  refine x_aload_n 1 rfl dX11_readSum_0 0 rfl rfl ?_
  refine x_iload_n 2 rfl dX11_readSum_1 1 rfl rfl ?_
  refine x_cVu 5 rfl lX11_215 dX11_readSum_2 (lyl55 hL) (lys55 hL) (c_X11_readTerm hL hR hA hO hdp hin rfl) rfl rfl (Nat.le_of_ble_eq_true rfl) (fun M2 hr2 => ?_)
  unfold g_sum at hq
  rcases hq2 : g_term (M 64) (M 65) o inner s with t2 | ⟨s2, w2⟩
  · rw [hq2] at hr2 hq
    obtain ⟨x1, y1, hM2⟩ := hr2
    rw [hM2]
    have hb1 : M 66 t2 ≠ -1 := by have := hR.2 t2 ((hG s hA).1 t2 hq2); omega
    exact bad _ _ _ hb1 (by rw [← hq]; exact ⟨_, _, rfl⟩)
  · rw [hq2] at hr2 hq
    have hM2 : M2 = rd M (s2.1 : Int) (s2.2.1 : Int) (-1) := hr2
    rw [hM2]
    exact loop 401 s2 w2 (gW_A hA ((hG s hA).2 s2 w2 hq2)) (by omega) hq

theorem c_X11_readSumD {sz : Nat} {S : zSh} {M : zMem} (hL : LY S sz) {n : Nat} (hR : rdA M n) {o : Bool} (hO : rdO M o) : ∀ (D : Nat) {d : Nat} {s : gS}, gA n s → ∀ {dp : Nat}, dp + D = 8 → zX (d + 3 * D + 5) 0 0 mX11_readSum [zn 55, zi (dp : Int)] sz S (rd M (s.1 : Int) (s.2.1 : Int) (-1)) (zU sz S (fun M' => rdo M (g_sumD (M 64) (M 65) o D s) M'))
  | 0, d, s, hA, dp, h => c_X11_readSum hL hR hA hO (by omega) (Or.inl ⟨rfl, by omega⟩) rfl
  | D + 1, d, s, hA, dp, h => by
    have e : d + 3 * (D + 1) + 5 = d + 3 * D + 3 + 5 := by omega
    rw [e]
    refine c_X11_readSum hL hR hA hO (by omega) (Or.inr ⟨g_sumD (M 64) (M 65) o D, rfl, by omega, gG_sumD hR.1 D, fun s1 h1 => ?_⟩) rfl
    have h2 := c_X11_readSumD hL hR hO D (d := d) h1 (dp := dp + 1) (by omega)
    rw [show ((dp + 1 : Nat) : Int) = (dp : Int) + 1 by omega] at h2
    exact h2

set_option maxRecDepth 100000 in
set_option maxHeartbeats 4000000 in
theorem c_X11_readPlain0 {d sz : Nat} {S : zSh} {M : zMem} (hL : LY S sz) {t l b : Int} (hb : b ≠ -1) {x : Int} : zX (d + 4) 0 0 mX11_readPlain [zn 55, zi x] sz S (rd M t l b) (zU sz S (fun M' => M' = rd M t l b)) := by
  refine zX_of pl_RX11 [some (zn 55), some (zi x), none, none] 2 rfl rfl ?_
  refine x_iconst 1 rfl dX11_readPlain_0 (by decide) ?_
  refine y_istore_n 2 rfl dX11_readPlain_1 rfl rfl (ls' := [_, _, _, _]) rfl (by decide) ?_
  refine x_iload_n 3 rfl dX11_readPlain_2 2 rfl rfl ?_
  refine x_if_eq 6 16 rfl dX11_readPlain_3 (by decide) (fun c3 => ?_) (fun c3 => ?_)
  · exfalso; omega
  · refine x_aload_n 7 rfl dX11_readPlain_6 0 rfl rfl ?_
    refine x_bipush 9 rfl dX11_readPlain_7 (by decide) ?_
    refine x_cVi 12 rfl lX11_172 dX11_readPlain_9 (lyl55 hL) (lys55 hL) (c_X11_takes0 hL hb) rfl rfl (Nat.le_of_ble_eq_true rfl) (fun r M1 hr1 => ?_)
    obtain ⟨rfl, hM1⟩ := hr1
    rw [hM1]
    refine y_istore_n 13 rfl dX11_readPlain_12 rfl rfl (ls' := [_, _, _, _]) rfl (by decide) ?_
    refine x_goto 2 dX11_readPlain_13 (by decide) ?_
    refine x_iload_n 3 rfl dX11_readPlain_2 2 rfl rfl ?_
    refine x_if_eq 6 16 rfl dX11_readPlain_3 (by decide) (fun c3 => ?_) (fun c3 => ?_)
    · refine x_aload_n 17 rfl dX11_readPlain_16 0 rfl rfl ?_
      refine x_cVi 20 rfl lX11_165 dX11_readPlain_17 (lyl55 hL) (lys55 hL) (c_X11_fine0 hL hb) rfl rfl (Nat.le_of_ble_eq_true rfl) (fun r M1 hr1 => ?_)
      obtain ⟨rfl, hM1⟩ := hr1
      rw [hM1]
      refine x_if_ne 23 24 rfl dX11_readPlain_20 (by decide) (fun c20 => ?_) (fun c20 => ?_)
      · exfalso; omega
      · refine x_retu dX11_readPlain_23 rfl ?_
        rfl
    · exfalso; omega

set_option maxRecDepth 100000 in
set_option maxHeartbeats 4000000 in
theorem c_X11_readBoth0 {d sz : Nat} {S : zSh} {M : zMem} (hL : LY S sz) {t l b : Int} (hb : b ≠ -1) {x : Int} : zX (d + 5) 0 0 mX11_readBoth [zn 55, zi x] sz S (rd M t l b) (zU sz S (fun M' => M' = rd M t l b)) := by
  refine zX_of pl_RX11 [some (zn 55), some (zi x)] 0 rfl rfl ?_
  refine x_aload_n 1 rfl dX11_readBoth_0 0 rfl rfl ?_
  refine x_iload_n 2 rfl dX11_readBoth_1 1 rfl rfl ?_
  refine x_cVu 5 rfl lX11_208 dX11_readBoth_2 (lyl55 hL) (lys55 hL) (c_X11_readPlain0 hL hb) rfl rfl (Nat.le_of_ble_eq_true rfl) (fun M1 hM1 => ?_)
  rw [hM1]
  refine x_aload_n 6 rfl dX11_readBoth_5 0 rfl rfl ?_
  refine x_bipush 8 rfl dX11_readBoth_6 (by decide) ?_
  refine x_cVi 11 rfl lX11_172 dX11_readBoth_8 (lyl55 hL) (lys55 hL) (c_X11_takes0 hL hb) rfl rfl (Nat.le_of_ble_eq_true rfl) (fun r M1 hr1 => ?_)
  obtain ⟨rfl, hM1⟩ := hr1
  rw [hM1]
  refine x_if_eq 14 22 rfl dX11_readBoth_11 (by decide) (fun c11 => ?_) (fun c11 => ?_)
  · refine x_retu dX11_readBoth_22 rfl ?_
    rfl
  · exfalso; omega

set_option maxRecDepth 100000 in
set_option maxHeartbeats 4000000 in
theorem c_X11_readTest0 {d sz : Nat} {S : zSh} {M : zMem} (hL : LY S sz) {t l b : Int} (hb : b ≠ -1) {x : Int} : zX (d + 6) 0 0 mX11_readTest [zn 55, zi x] sz S (rd M t l b) (zU sz S (fun M' => M' = rd M t l b)) := by
  refine zX_of pl_RX11 [some (zn 55), some (zi x)] 0 rfl rfl ?_
  refine x_aload_n 1 rfl dX11_readTest_0 0 rfl rfl ?_
  refine x_iload_n 2 rfl dX11_readTest_1 1 rfl rfl ?_
  refine x_cVu 5 rfl lX11_205 dX11_readTest_2 (lyl55 hL) (lys55 hL) (c_X11_readBoth0 hL hb) rfl rfl (Nat.le_of_ble_eq_true rfl) (fun M1 hM1 => ?_)
  rw [hM1]
  refine x_aload_n 6 rfl dX11_readTest_5 0 rfl rfl ?_
  refine x_iconst 7 rfl dX11_readTest_6 (by decide) ?_
  refine x_cVi 10 rfl lX11_172 dX11_readTest_7 (lyl55 hL) (lys55 hL) (c_X11_takes0 hL hb) rfl rfl (Nat.le_of_ble_eq_true rfl) (fun r M1 hr1 => ?_)
  obtain ⟨rfl, hM1⟩ := hr1
  rw [hM1]
  refine x_if_eq 13 21 rfl dX11_readTest_10 (by decide) (fun c10 => ?_) (fun c10 => ?_)
  · refine x_retu dX11_readTest_21 rfl ?_
    rfl
  · exfalso; omega

set_option maxRecDepth 100000 in
set_option maxHeartbeats 4000000 in
theorem c_X11_readPlain {d sz : Nat} {S : zSh} {M : zMem} (hL : LY S sz) {n : Nat} (hR : rdA M n) {s : gS} (hA : gA n s) {o : Bool} (hO : rdO M o) {inner : Option (gS → gR)} {dp D : Nat} (hdp : dp + D = 8) (hin : (inner = none ∧ dp = 8) ∨ ∃ f, inner = some f ∧ dp < 8 ∧ gG n f ∧ ∀ s1, gA n s1 → zX (d + 3 * D + 5) 0 0 mX11_readTest [zn 55, zi ((dp : Int) + 1)] sz S (rd M (s1.1 : Int) (s1.2.1 : Int) (-1)) (zU sz S (fun M' => rdo M (f s1) M')))  : zX (d + 3 * D + 6) 0 0 mX11_readPlain [zn 55, zi (dp : Int)] sz S (rd M (s.1 : Int) (s.2.1 : Int) (-1)) (zU sz S (fun M' => rdo M (g_plain (M 64) (M 65) o D inner s) M')) := by
  have hn := hR.1.1
  have hA1 := hA.1
  have hI : ∀ f, inner = some f → gG n f := fun f h => by
    rcases hin with ⟨h1, -⟩ | ⟨g, h1, -, h2, -⟩
    · rw [h1] at h; cases h
    · rw [h1] at h; cases h; exact h2
  have hG9 := gG_sumD (o := o) hR.1 D
  obtain ⟨q, hN⟩ : ∃ q, g_nots (M 64) 401 s.1 false = q := ⟨_, rfl⟩
  have hN9 := g_nots_in hR.1 401 s.1 false hA1
  rw [hN] at hN9
  have hB : gA n (q.1, s.2) := ⟨hN9.2.1, hA.2.1, by have := hA.2.2; show s.2.2.1 ≤ q.1; omega⟩
  have hB0 : q.1 ≤ n := hB.1
  have hl0 := hA.2.1
  have hcq := hR.1.2.2.1 q.1 hB.1
  have hbq : M 66 q.1 ≠ -1 := by have := hR.2 q.1 hB.1; omega
  have fin : zW mX11_readPlain (d + 3 * D + 6) 0 0 [] (zU sz S (fun M' => rdo M (g_plain (M 64) (M 65) o D inner s) M')) 16 [some (zn 55), some (zi (dp : Int)), some (zi 0), none] [] sz S (rd M (q.1 : Int) (s.2.1 : Int) (-1)) := by
    refine x_aload_n 17 rfl dX11_readPlain_16 0 rfl rfl ?_
    refine x_cVi 20 rfl lX11_165 dX11_readPlain_17 (lyl55 hL) (lys55 hL) (c_X11_fine1 hL) rfl rfl (Nat.le_of_ble_eq_true rfl) (fun r M1 hr1 => ?_)
    obtain ⟨rfl, hM1⟩ := hr1
    rw [hM1]
    refine x_if_ne 23 24 rfl dX11_readPlain_20 (by decide) (fun c20 => ?_) (fun c20 => ?_)
    · refine x_aload_n 25 rfl dX11_readPlain_24 0 rfl rfl ?_
      refine x_getr 28 rfl fX11_50 dX11_readPlain_25 (lyl55 hL) (lys55 hL) (by decide) (64) rfl ?_
      refine x_aload_n 29 rfl dX11_readPlain_28 0 rfl rfl ?_
      refine x_geti 32 rfl fX11_169 dX11_readPlain_29 (lyl55 hL) (lys55 hL) (by decide) ?_
      try simp (disch := omega) only [z_up_ne, z_up_nk, z_up_eq, z_mup_ne, z_mup_eq, Int.reduceToNat, Int.toNat_natCast, rd_19, rd_20, rd_21, rd_o, rd_ne, rd_u19, rd_u20, rd_u21]
      refine x_iald 33 rfl dX11_readPlain_32 (lyl64 hL) (lys64 hL) (by omega) (by omega) ?_
      try simp (disch := omega) only [z_up_ne, z_up_nk, z_up_eq, z_mup_ne, z_mup_eq, Int.reduceToNat, Int.toNat_natCast, rd_19, rd_20, rd_21, rd_o, rd_ne, rd_u19, rd_u20, rd_u21]
      refine y_istore_n 34 rfl dX11_readPlain_33 rfl rfl (ls' := [_, _, _, _]) rfl (by decide) ?_
      refine x_iload_n 35 rfl dX11_readPlain_34 3 rfl rfl ?_
      refine x_bipush 37 rfl dX11_readPlain_35 (by decide) ?_
      refine x_cSi 40 rfl lX11_211 dX11_readPlain_37 (c_X11_signOf (by decide)) rfl rfl (Nat.le_of_ble_eq_true rfl) (fun r M1 hr1 => ?_)
      obtain ⟨rfl, hM1⟩ := hr1
      rw [hM1]
      refine x_icmp_ne 43 90 rfl dX11_readPlain_40 (by decide) (fun c40 => ?_) (fun c40 => ?_)
      · have c140 : ¬ M 64 q.1 = 140 := by omega
        refine x_aload_n 91 rfl dX11_readPlain_90 0 rfl rfl ?_
        refine x_iload_n 92 rfl dX11_readPlain_91 1 rfl rfl ?_
        refine x_cVu 95 rfl lX11_181 dX11_readPlain_92 (lyl55 hL) (lys55 hL) (c_X11_readSumD hL hR hO D hB hdp) rfl rfl (Nat.le_of_ble_eq_true rfl) (fun M2 hr2 => ?_)
        rcases hq2 : g_sumD (M 64) (M 65) o D (q.1, s.2) with t1 | ⟨s1, w1⟩
        · rw [hq2] at hr2
          obtain ⟨x1, y1, hM2⟩ := hr2
          rw [hM2]
          have hb1 : M 66 t1 ≠ -1 := by have := hR.2 t1 ((hG9 _ hB).1 t1 hq2); omega
          refine x_aload_n 96 rfl dX11_readPlain_95 0 rfl rfl ?_
          refine x_bipush 98 rfl dX11_readPlain_96 (by decide) ?_
          refine x_cSi 101 rfl lX11_211 dX11_readPlain_98 (c_X11_signOf (by decide)) rfl rfl (Nat.le_of_ble_eq_true rfl) (fun r M1 hr1 => ?_)
          obtain ⟨rfl, hM1⟩ := hr1
          rw [hM1]
          refine x_cVi 104 rfl lX11_172 dX11_readPlain_101 (lyl55 hL) (lys55 hL) (c_X11_takes0 hL hb1) rfl rfl (Nat.le_of_ble_eq_true rfl) (fun r M1 hr1 => ?_)
          obtain ⟨rfl, hM1⟩ := hr1
          rw [hM1]
          refine x_if_ne 107 128 rfl dX11_readPlain_104 (by decide) (fun c104 => ?_) (fun c104 => ?_)
          · exfalso; omega
          · refine x_aload_n 108 rfl dX11_readPlain_107 0 rfl rfl ?_
            refine x_bipush 110 rfl dX11_readPlain_108 (by decide) ?_
            refine x_cSi 113 rfl lX11_211 dX11_readPlain_110 (c_X11_signOf (by decide)) rfl rfl (Nat.le_of_ble_eq_true rfl) (fun r M1 hr1 => ?_)
            obtain ⟨rfl, hM1⟩ := hr1
            rw [hM1]
            refine x_cVi 116 rfl lX11_172 dX11_readPlain_113 (lyl55 hL) (lys55 hL) (c_X11_takes0 hL hb1) rfl rfl (Nat.le_of_ble_eq_true rfl) (fun r M1 hr1 => ?_)
            obtain ⟨rfl, hM1⟩ := hr1
            rw [hM1]
            refine x_if_ne 119 128 rfl dX11_readPlain_116 (by decide) (fun c116 => ?_) (fun c116 => ?_)
            · exfalso; omega
            · refine x_aload_n 120 rfl dX11_readPlain_119 0 rfl rfl ?_
              refine x_bipush 122 rfl dX11_readPlain_120 (by decide) ?_
              refine x_cSi 125 rfl lX11_211 dX11_readPlain_122 (c_X11_signOf (by decide)) rfl rfl (Nat.le_of_ble_eq_true rfl) (fun r M1 hr1 => ?_)
              obtain ⟨rfl, hM1⟩ := hr1
              rw [hM1]
              refine x_cVu 128 rfl lX11_185 dX11_readPlain_125 (lyl55 hL) (lys55 hL) (c_X11_must0 hL hb1) rfl rfl (Nat.le_of_ble_eq_true rfl) (fun M1 hM1 => ?_)
              rw [hM1]
              refine x_aload_n 129 rfl dX11_readPlain_128 0 rfl rfl ?_
              refine x_iload_n 130 rfl dX11_readPlain_129 1 rfl rfl ?_
              refine x_cVu 133 rfl lX11_181 dX11_readPlain_130 (lyl55 hL) (lys55 hL) (c_X11_readSum0 hL hb1) rfl rfl (Nat.le_of_ble_eq_true rfl) (fun M1 hM1 => ?_)
              rw [hM1]
              refine x_retu dX11_readPlain_133 rfl ?_
              rw [show g_plain (M 64) (M 65) o D inner s = g_neg q.2 (g_pos (M 64) (M 65) o D inner (q.1, s.2)) by rw [← hN]; rfl]
              apply rdo_neg
              rw [show g_pos (M 64) (M 65) o D inner (q.1, s.2) = .inl t1 by (unfold g_pos; rw [if_neg c140]; simp only [hq2, g_bd])]
              exact ⟨_, _, rfl⟩
        · rw [hq2] at hr2
          have hM2 : M2 = rd M (s1.1 : Int) (s1.2.1 : Int) (-1) := hr2
          rw [hM2]
          have hw1 := (hG9 _ hB).2 s1 w1 hq2
          have hB1 := gW_A hB hw1
          refine x_aload_n 96 rfl dX11_readPlain_95 0 rfl rfl ?_
          refine x_bipush 98 rfl dX11_readPlain_96 (by decide) ?_
          refine x_cSi 101 rfl lX11_211 dX11_readPlain_98 (c_X11_signOf (by decide)) rfl rfl (Nat.le_of_ble_eq_true rfl) (fun r M1 hr1 => ?_)
          obtain ⟨rfl, hM1⟩ := hr1
          rw [hM1]
          refine x_cVi 104 rfl lX11_172 dX11_readPlain_101 (lyl55 hL) (lys55 hL) (c_X11_takes1 hL hR hB1) rfl rfl (Nat.le_of_ble_eq_true rfl) (fun r M1 hr1 => ?_)
          rcases hr1 with ⟨hx, rfl, hM1⟩ | ⟨hx, rfl, hM1⟩
          · rw [hM1]
            have hop : ¬ gop_c (M 64 s1.1) = 0 := by unfold gop_c; rw [hx]; decide
            have hc1 : M 64 s1.1 ≠ 0 := by omega
            have hB2 := gW_A hB1 (gW_ad hB1 (hR.1.lt hB1.1 hc1))
            refine x_if_ne 107 128 rfl dX11_readPlain_104 (by decide) (fun c104 => ?_) (fun c104 => ?_)
            · refine x_aload_n 129 rfl dX11_readPlain_128 0 rfl rfl ?_
              refine x_iload_n 130 rfl dX11_readPlain_129 1 rfl rfl ?_
              refine x_cVu 133 rfl lX11_181 dX11_readPlain_130 (lyl55 hL) (lys55 hL) (c_X11_readSumD hL hR hO D hB2 hdp) rfl rfl (Nat.le_of_ble_eq_true rfl) (fun M4 hr4 => ?_)
              rcases hq4 : g_sumD (M 64) (M 65) o D (g_ad s1) with t4 | ⟨s4, w4⟩
              · rw [hq4] at hr4
                obtain ⟨x1, y1, hM4⟩ := hr4
                rw [hM4]
                refine x_retu dX11_readPlain_133 rfl ?_
                rw [show g_plain (M 64) (M 65) o D inner s = g_neg q.2 (g_pos (M 64) (M 65) o D inner (q.1, s.2)) by rw [← hN]; rfl]
                apply rdo_neg
                rw [show g_pos (M 64) (M 65) o D inner (q.1, s.2) = .inl t4 by (unfold g_pos; rw [if_neg c140]; simp only [hq2, g_bd]; rw [if_neg hop]; simp only [hq4])]
                exact ⟨_, _, rfl⟩
              · rw [hq4] at hr4
                have hM4 : M4 = rd M (s4.1 : Int) (s4.2.1 : Int) (-1) := hr4
                rw [hM4]
                refine x_retu dX11_readPlain_133 rfl ?_
                rw [show g_plain (M 64) (M 65) o D inner s = g_neg q.2 (g_pos (M 64) (M 65) o D inner (q.1, s.2)) by rw [← hN]; rfl]
                apply rdo_neg
                rw [show g_pos (M 64) (M 65) o D inner (q.1, s.2) = .inr (g_em s4 (gop_c (M 64 s1.1)), v_join (gop_c (M 64 s1.1)) w1 w4) by (unfold g_pos; rw [if_neg c140]; simp only [hq2, g_bd]; rw [if_neg hop]; simp only [hq4])]
                rfl
            · exfalso; omega
          · rw [hM1]
            have hx1 := hx
            clear hx
            refine x_if_ne 107 128 rfl dX11_readPlain_104 (by decide) (fun c104 => ?_) (fun c104 => ?_)
            · exfalso; omega
            · refine x_aload_n 108 rfl dX11_readPlain_107 0 rfl rfl ?_
              refine x_bipush 110 rfl dX11_readPlain_108 (by decide) ?_
              refine x_cSi 113 rfl lX11_211 dX11_readPlain_110 (c_X11_signOf (by decide)) rfl rfl (Nat.le_of_ble_eq_true rfl) (fun r M1 hr1 => ?_)
              obtain ⟨rfl, hM1⟩ := hr1
              rw [hM1]
              refine x_cVi 116 rfl lX11_172 dX11_readPlain_113 (lyl55 hL) (lys55 hL) (c_X11_takes1 hL hR hB1) rfl rfl (Nat.le_of_ble_eq_true rfl) (fun r M1 hr1 => ?_)
              rcases hr1 with ⟨hx, rfl, hM1⟩ | ⟨hx, rfl, hM1⟩
              · rw [hM1]
                have hop : ¬ gop_c (M 64 s1.1) = 0 := by unfold gop_c; rw [hx]; decide
                have hc1 : M 64 s1.1 ≠ 0 := by omega
                have hB2 := gW_A hB1 (gW_ad hB1 (hR.1.lt hB1.1 hc1))
                refine x_if_ne 119 128 rfl dX11_readPlain_116 (by decide) (fun c116 => ?_) (fun c116 => ?_)
                · refine x_aload_n 129 rfl dX11_readPlain_128 0 rfl rfl ?_
                  refine x_iload_n 130 rfl dX11_readPlain_129 1 rfl rfl ?_
                  refine x_cVu 133 rfl lX11_181 dX11_readPlain_130 (lyl55 hL) (lys55 hL) (c_X11_readSumD hL hR hO D hB2 hdp) rfl rfl (Nat.le_of_ble_eq_true rfl) (fun M4 hr4 => ?_)
                  rcases hq4 : g_sumD (M 64) (M 65) o D (g_ad s1) with t4 | ⟨s4, w4⟩
                  · rw [hq4] at hr4
                    obtain ⟨x1, y1, hM4⟩ := hr4
                    rw [hM4]
                    refine x_retu dX11_readPlain_133 rfl ?_
                    rw [show g_plain (M 64) (M 65) o D inner s = g_neg q.2 (g_pos (M 64) (M 65) o D inner (q.1, s.2)) by rw [← hN]; rfl]
                    apply rdo_neg
                    rw [show g_pos (M 64) (M 65) o D inner (q.1, s.2) = .inl t4 by (unfold g_pos; rw [if_neg c140]; simp only [hq2, g_bd]; rw [if_neg hop]; simp only [hq4])]
                    exact ⟨_, _, rfl⟩
                  · rw [hq4] at hr4
                    have hM4 : M4 = rd M (s4.1 : Int) (s4.2.1 : Int) (-1) := hr4
                    rw [hM4]
                    refine x_retu dX11_readPlain_133 rfl ?_
                    rw [show g_plain (M 64) (M 65) o D inner s = g_neg q.2 (g_pos (M 64) (M 65) o D inner (q.1, s.2)) by rw [← hN]; rfl]
                    apply rdo_neg
                    rw [show g_pos (M 64) (M 65) o D inner (q.1, s.2) = .inr (g_em s4 (gop_c (M 64 s1.1)), v_join (gop_c (M 64 s1.1)) w1 w4) by (unfold g_pos; rw [if_neg c140]; simp only [hq2, g_bd]; rw [if_neg hop]; simp only [hq4])]
                    rfl
                · exfalso; omega
              · rw [hM1]
                have hx2 := hx
                clear hx
                refine x_if_ne 119 128 rfl dX11_readPlain_116 (by decide) (fun c116 => ?_) (fun c116 => ?_)
                · exfalso; omega
                · refine x_aload_n 120 rfl dX11_readPlain_119 0 rfl rfl ?_
                  refine x_bipush 122 rfl dX11_readPlain_120 (by decide) ?_
                  refine x_cSi 125 rfl lX11_211 dX11_readPlain_122 (c_X11_signOf (by decide)) rfl rfl (Nat.le_of_ble_eq_true rfl) (fun r M1 hr1 => ?_)
                  obtain ⟨rfl, hM1⟩ := hr1
                  rw [hM1]
                  refine x_cVu 128 rfl lX11_185 dX11_readPlain_125 (lyl55 hL) (lys55 hL) (c_X11_must1 hL hR hB1) rfl rfl (Nat.le_of_ble_eq_true rfl) (fun M3 hr3 => ?_)
                  rcases hr3 with ⟨hx, hM1⟩ | ⟨hx, hM1⟩
                  · rw [hM1]
                    have hop : ¬ gop_c (M 64 s1.1) = 0 := by unfold gop_c; rw [hx]; decide
                    have hc1 : M 64 s1.1 ≠ 0 := by omega
                    have hB2 := gW_A hB1 (gW_ad hB1 (hR.1.lt hB1.1 hc1))
                    refine x_aload_n 129 rfl dX11_readPlain_128 0 rfl rfl ?_
                    refine x_iload_n 130 rfl dX11_readPlain_129 1 rfl rfl ?_
                    refine x_cVu 133 rfl lX11_181 dX11_readPlain_130 (lyl55 hL) (lys55 hL) (c_X11_readSumD hL hR hO D hB2 hdp) rfl rfl (Nat.le_of_ble_eq_true rfl) (fun M4 hr4 => ?_)
                    rcases hq4 : g_sumD (M 64) (M 65) o D (g_ad s1) with t4 | ⟨s4, w4⟩
                    · rw [hq4] at hr4
                      obtain ⟨x1, y1, hM4⟩ := hr4
                      rw [hM4]
                      refine x_retu dX11_readPlain_133 rfl ?_
                      rw [show g_plain (M 64) (M 65) o D inner s = g_neg q.2 (g_pos (M 64) (M 65) o D inner (q.1, s.2)) by rw [← hN]; rfl]
                      apply rdo_neg
                      rw [show g_pos (M 64) (M 65) o D inner (q.1, s.2) = .inl t4 by (unfold g_pos; rw [if_neg c140]; simp only [hq2, g_bd]; rw [if_neg hop]; simp only [hq4])]
                      exact ⟨_, _, rfl⟩
                    · rw [hq4] at hr4
                      have hM4 : M4 = rd M (s4.1 : Int) (s4.2.1 : Int) (-1) := hr4
                      rw [hM4]
                      refine x_retu dX11_readPlain_133 rfl ?_
                      rw [show g_plain (M 64) (M 65) o D inner s = g_neg q.2 (g_pos (M 64) (M 65) o D inner (q.1, s.2)) by rw [← hN]; rfl]
                      apply rdo_neg
                      rw [show g_pos (M 64) (M 65) o D inner (q.1, s.2) = .inr (g_em s4 (gop_c (M 64 s1.1)), v_join (gop_c (M 64 s1.1)) w1 w4) by (unfold g_pos; rw [if_neg c140]; simp only [hq2, g_bd]; rw [if_neg hop]; simp only [hq4])]
                      rfl
                  · rw [hM1]
                    have hb1 : M 66 s1.1 ≠ -1 := by have := hR.2 s1.1 hB1.1; omega
                    have hop : gop_c (M 64 s1.1) = 0 := by unfold gop_c; repeat rw [if_neg (by omega)]
                    refine x_aload_n 129 rfl dX11_readPlain_128 0 rfl rfl ?_
                    refine x_iload_n 130 rfl dX11_readPlain_129 1 rfl rfl ?_
                    refine x_cVu 133 rfl lX11_181 dX11_readPlain_130 (lyl55 hL) (lys55 hL) (c_X11_readSum0 hL hb1) rfl rfl (Nat.le_of_ble_eq_true rfl) (fun M1 hM1 => ?_)
                    rw [hM1]
                    refine x_retu dX11_readPlain_133 rfl ?_
                    rw [show g_plain (M 64) (M 65) o D inner s = g_neg q.2 (g_pos (M 64) (M 65) o D inner (q.1, s.2)) by rw [← hN]; rfl]
                    apply rdo_neg
                    rw [show g_pos (M 64) (M 65) o D inner (q.1, s.2) = .inl s1.1 by (unfold g_pos; rw [if_neg c140]; simp only [hq2, g_bd]; rw [if_pos hop])]
                    exact ⟨_, _, rfl⟩
      · refine x_iload_n 44 rfl dX11_readPlain_43 1 rfl rfl ?_
        refine x_bipush 46 rfl dX11_readPlain_44 (by decide) ?_
        refine x_icmp_ne 49 53 rfl dX11_readPlain_46 (by decide) (fun c46 => ?_) (fun c46 => ?_)
        · rcases hin with ⟨hin, h8⟩ | ⟨f, hin1, h8, hg, hf⟩
          · exfalso; omega
          have hc1 : M 64 q.1 ≠ 0 := by omega
          have hB2 := gW_A hB (gW_ad hB (hR.1.lt hB.1 hc1))
          refine x_aload_n 54 rfl dX11_readPlain_53 0 rfl rfl ?_
          refine x_cVi 57 rfl lX11_165 dX11_readPlain_54 (lyl55 hL) (lys55 hL) (c_X11_fine1 hL) rfl rfl (Nat.le_of_ble_eq_true rfl) (fun r M1 hr1 => ?_)
          obtain ⟨rfl, hM1⟩ := hr1
          rw [hM1]
          refine x_if_ne 60 61 rfl dX11_readPlain_57 (by decide) (fun c57 => ?_) (fun c57 => ?_)
          · refine x_aload_n 62 rfl dX11_readPlain_61 0 rfl rfl ?_
            refine x_dupr 63 rfl dX11_readPlain_62 ?_
            refine x_geti 66 rfl fX11_169 dX11_readPlain_63 (lyl55 hL) (lys55 hL) (by decide) ?_
            try simp (disch := omega) only [z_up_ne, z_up_nk, z_up_eq, z_mup_ne, z_mup_eq, Int.reduceToNat, Int.toNat_natCast, rd_19, rd_20, rd_21, rd_o, rd_ne, rd_u19, rd_u20, rd_u21]
            refine x_iconst 67 rfl dX11_readPlain_66 (by decide) ?_
            refine y_iadd 68 rfl dX11_readPlain_67 (by omega) ?_
            refine x_puti 71 rfl fX11_169 dX11_readPlain_68 (lyl55 hL) (lys55 hL) (by decide) ?_
            try simp only [rd_19, rd_20, rd_21, rd_o, rd_ne, rd_u19, rd_u20, rd_u21]
            rw [rd_ad (q.1, s.2)]
            refine x_aload_n 72 rfl dX11_readPlain_71 0 rfl rfl ?_
            refine x_iload_n 73 rfl dX11_readPlain_72 1 rfl rfl ?_
            refine x_iconst 74 rfl dX11_readPlain_73 (by decide) ?_
            refine y_iadd 75 rfl dX11_readPlain_74 (by omega) ?_
            refine x_cVu 78 rfl lX11_188 dX11_readPlain_75 (lyl55 hL) (lys55 hL) (hf (g_ad (q.1, s.2)) hB2) rfl rfl (Nat.le_of_ble_eq_true rfl) (fun M2 hr2 => ?_)
            rcases hq2 : f (g_ad (q.1, s.2)) with t1 | ⟨s1, w1⟩
            · rw [hq2] at hr2
              obtain ⟨x1, y1, hM2⟩ := hr2
              rw [hM2]
              have hb1 : M 66 t1 ≠ -1 := by have := hR.2 t1 ((hg _ hB2).1 t1 hq2); omega
              refine x_aload_n 79 rfl dX11_readPlain_78 0 rfl rfl ?_
              refine x_bipush 81 rfl dX11_readPlain_79 (by decide) ?_
              refine x_cSi 84 rfl lX11_211 dX11_readPlain_81 (c_X11_signOf (by decide)) rfl rfl (Nat.le_of_ble_eq_true rfl) (fun r M1 hr1 => ?_)
              obtain ⟨rfl, hM1⟩ := hr1
              rw [hM1]
              refine x_cVu 87 rfl lX11_185 dX11_readPlain_84 (lyl55 hL) (lys55 hL) (c_X11_must0 hL hb1) rfl rfl (Nat.le_of_ble_eq_true rfl) (fun M1 hM1 => ?_)
              rw [hM1]
              refine x_goto 133 dX11_readPlain_87 (by decide) ?_
              refine x_retu dX11_readPlain_133 rfl ?_
              rw [show g_plain (M 64) (M 65) o D inner s = g_neg q.2 (g_pos (M 64) (M 65) o D inner (q.1, s.2)) by rw [← hN]; rfl]
              apply rdo_neg
              rw [show g_pos (M 64) (M 65) o D inner (q.1, s.2) = .inl t1 by (unfold g_pos; rw [if_pos (by simp only; omega), hin1]; simp only [hq2, g_bd])]
              exact ⟨_, _, rfl⟩
            · rw [hq2] at hr2
              have hM2 : M2 = rd M (s1.1 : Int) (s1.2.1 : Int) (-1) := hr2
              rw [hM2]
              have hB9 := gW_A hB2 ((hg _ hB2).2 s1 w1 hq2)
              refine x_aload_n 79 rfl dX11_readPlain_78 0 rfl rfl ?_
              refine x_bipush 81 rfl dX11_readPlain_79 (by decide) ?_
              refine x_cSi 84 rfl lX11_211 dX11_readPlain_81 (c_X11_signOf (by decide)) rfl rfl (Nat.le_of_ble_eq_true rfl) (fun r M1 hr1 => ?_)
              obtain ⟨rfl, hM1⟩ := hr1
              rw [hM1]
              refine x_cVu 87 rfl lX11_185 dX11_readPlain_84 (lyl55 hL) (lys55 hL) (c_X11_must1 hL hR hB9) rfl rfl (Nat.le_of_ble_eq_true rfl) (fun M3 hr3 => ?_)
              rcases hr3 with ⟨hx, hM3⟩ | ⟨hx, hM3⟩
              · rw [hM3]
                refine x_goto 133 dX11_readPlain_87 (by decide) ?_
                refine x_retu dX11_readPlain_133 rfl ?_
                rw [show g_plain (M 64) (M 65) o D inner s = g_neg q.2 (g_pos (M 64) (M 65) o D inner (q.1, s.2)) by rw [← hN]; rfl]
                apply rdo_neg
                rw [show g_pos (M 64) (M 65) o D inner (q.1, s.2) = .inr (g_ad s1, w1) by (unfold g_pos; rw [if_pos (by simp only; omega), hin1]; simp only [hq2, g_bd]; rw [if_pos (by omega)])]
                rfl
              · rw [hM3]
                refine x_goto 133 dX11_readPlain_87 (by decide) ?_
                refine x_retu dX11_readPlain_133 rfl ?_
                rw [show g_plain (M 64) (M 65) o D inner s = g_neg q.2 (g_pos (M 64) (M 65) o D inner (q.1, s.2)) by rw [← hN]; rfl]
                apply rdo_neg
                rw [show g_pos (M 64) (M 65) o D inner (q.1, s.2) = .inl s1.1 by (unfold g_pos; rw [if_pos (by simp only; omega), hin1]; simp only [hq2, g_bd]; rw [if_neg (by omega)])]
                exact ⟨_, _, rfl⟩
          · exfalso; omega
        · have hin1 : inner = none := by
            rcases hin with ⟨hin, h8⟩ | ⟨f, h1, h8, hg, hf⟩
            · exact hin
            · exfalso; omega
          refine x_aload_n 50 rfl dX11_readPlain_49 0 rfl rfl ?_
          refine x_cVu 53 rfl lX11_175 dX11_readPlain_50 (lyl55 hL) (lys55 hL) (c_X11_faults1 hL (by omega)) rfl rfl (Nat.le_of_ble_eq_true rfl) (fun M1 hM1 => ?_)
          rw [hM1, Int.toNat_natCast]
          refine x_aload_n 54 rfl dX11_readPlain_53 0 rfl rfl ?_
          refine x_cVi 57 rfl lX11_165 dX11_readPlain_54 (lyl55 hL) (lys55 hL) (c_X11_fine0 hL hbq) rfl rfl (Nat.le_of_ble_eq_true rfl) (fun r M1 hr1 => ?_)
          obtain ⟨rfl, hM1⟩ := hr1
          rw [hM1]
          refine x_if_ne 60 61 rfl dX11_readPlain_57 (by decide) (fun c57 => ?_) (fun c57 => ?_)
          · exfalso; omega
          · refine x_retu dX11_readPlain_60 rfl ?_
            rw [show g_plain (M 64) (M 65) o D inner s = g_neg q.2 (g_pos (M 64) (M 65) o D inner (q.1, s.2)) by rw [← hN]; rfl]
            apply rdo_neg
            rw [show g_pos (M 64) (M 65) o D inner (q.1, s.2) = .inl q.1 by (unfold g_pos; rw [if_pos (by simp only; omega), hin1])]
            exact ⟨_, _, rfl⟩
    · exfalso; omega
  have loop : ∀ (f t : Nat) (b : Bool), s.1 ≤ t → t ≤ n → n < f + t → g_nots (M 64) f t b = q → zW mX11_readPlain (d + 3 * D + 6) 0 0 [] (zU sz S (fun M' => rdo M (g_plain (M 64) (M 65) o D inner s) M')) 2 [some (zn 55), some (zi (dp : Int)), some (zi 1), none] [] sz S (rd M (t : Int) (s.2.1 : Int) (-1)) := by
    intro f
    induction f with
    | zero => intro t b h0 h1 h2; omega
    | succ f ih =>
      intro t b h0 h1 h2 h3
      have hBt : gA n (t, s.2) := ⟨h1, hA.2.1, by have := hA.2.2; show s.2.2.1 ≤ t; omega⟩
      refine x_iload_n 3 rfl dX11_readPlain_2 2 rfl rfl ?_
      refine x_if_eq 6 16 rfl dX11_readPlain_3 (by decide) (fun c3 => ?_) (fun c3 => ?_)
      · exfalso; omega
      · refine x_aload_n 7 rfl dX11_readPlain_6 0 rfl rfl ?_
        refine x_bipush 9 rfl dX11_readPlain_7 (by decide) ?_
        refine x_cVi 12 rfl lX11_172 dX11_readPlain_9 (lyl55 hL) (lys55 hL) (c_X11_takes1 hL hR hBt) rfl rfl (Nat.le_of_ble_eq_true rfl) (fun r M1 hr1 => ?_)
        rcases hr1 with ⟨hx, rfl, hM1⟩ | ⟨hx, rfl, hM1⟩
        · rw [hM1]
          have hx : M 64 t = 7 := hx
          simp only [g_nots] at h3
          rw [if_pos hx] at h3
          have h4 := hR.1.lt h1 (by omega)
          refine y_istore_n 13 rfl dX11_readPlain_12 rfl rfl (ls' := [_, _, _, _]) rfl (by decide) ?_
          refine x_goto 2 dX11_readPlain_13 (by decide) ?_
          exact ih (t + 1) (!b) (by omega) h4 (by omega) h3
        · rw [hM1]
          have hx : ¬ M 64 t = 7 := hx
          simp only [g_nots] at h3
          rw [if_neg hx] at h3
          refine y_istore_n 13 rfl dX11_readPlain_12 rfl rfl (ls' := [_, _, _, _]) rfl (by decide) ?_
          refine x_goto 2 dX11_readPlain_13 (by decide) ?_
          refine x_iload_n 3 rfl dX11_readPlain_2 2 rfl rfl ?_
          refine x_if_eq 6 16 rfl dX11_readPlain_3 (by decide) (fun c3 => ?_) (fun c3 => ?_)
          · rw [← h3] at fin; exact fin
          · exfalso; omega
  refine zX_of pl_RX11 [some (zn 55), some (zi (dp : Int)), none, none] 2 rfl rfl ?_
  refine x_iconst 1 rfl dX11_readPlain_0 (by decide) ?_
  refine y_istore_n 2 rfl dX11_readPlain_1 rfl rfl (ls' := [_, _, _, _]) rfl (by decide) ?_
  exact loop 401 s.1 false (Nat.le_refl _) hA1 (by omega) hN

set_option maxRecDepth 100000 in
set_option maxHeartbeats 4000000 in
theorem c_X11_readBoth {d sz : Nat} {S : zSh} {M : zMem} (hL : LY S sz) {n : Nat} (hR : rdA M n) {s : gS} (hA : gA n s) {o : Bool} (hO : rdO M o) {inner : Option (gS → gR)} {dp D : Nat} (hdp : dp + D = 8) (hin : (inner = none ∧ dp = 8) ∨ ∃ f, inner = some f ∧ dp < 8 ∧ gG n f ∧ ∀ s1, gA n s1 → zX (d + 3 * D + 5) 0 0 mX11_readTest [zn 55, zi ((dp : Int) + 1)] sz S (rd M (s1.1 : Int) (s1.2.1 : Int) (-1)) (zU sz S (fun M' => rdo M (f s1) M'))) {R : gR} (hq : g_both (M 64) (M 65) o D inner s = R) : zX (d + 3 * D + 7) 0 0 mX11_readBoth [zn 55, zi (dp : Int)] sz S (rd M (s.1 : Int) (s.2.1 : Int) (-1)) (zU sz S (fun M' => rdo M R M')) := by
  have hn := hR.1.1
  have hA1 := hA.1
  have hI : ∀ f, inner = some f → gG n f := fun f h => by
    rcases hin with ⟨h1, -⟩ | ⟨g, h1, -, h2, -⟩
    · rw [h1] at h; cases h
    · rw [h1] at h; cases h; exact h2
  have hG : gG n (g_plain (M 64) (M 65) o D inner) := gG_plain hR.1 hI
  have bad : ∀ (t l b : Int), b ≠ -1 → rdo M R (rd M t l b) → zW mX11_readBoth (d + 3 * D + 7) 0 0 [] (zU sz S (fun M' => rdo M R M')) 5 [some (zn 55), some (zi (dp : Int))] [] sz S (rd M t l b) := by
    intro t l b hb hQ
    refine x_aload_n 6 rfl dX11_readBoth_5 0 rfl rfl ?_
    refine x_bipush 8 rfl dX11_readBoth_6 (by decide) ?_
    refine x_cVi 11 rfl lX11_172 dX11_readBoth_8 (lyl55 hL) (lys55 hL) (c_X11_takes0 hL hb) rfl rfl (Nat.le_of_ble_eq_true rfl) (fun r M1 hr1 => ?_)
    obtain ⟨rfl, hM1⟩ := hr1
    rw [hM1]
    refine x_if_eq 14 22 rfl dX11_readBoth_11 (by decide) (fun c11 => ?_) (fun c11 => ?_)
    · refine x_retu dX11_readBoth_22 rfl ?_
      exact hQ
    · exfalso; omega
  have loop : ∀ (f : Nat) (s1 : gS) (w1 : gV), gA n s1 → n < f + s1.1 → g_chain (M 64) 6 13 (g_plain (M 64) (M 65) o D inner) f s1 w1 = R → zW mX11_readBoth (d + 3 * D + 7) 0 0 [] (zU sz S (fun M' => rdo M R M')) 5 [some (zn 55), some (zi (dp : Int))] [] sz S (rd M (s1.1 : Int) (s1.2.1 : Int) (-1)) := by
    intro f
    induction f with
    | zero => intro s1 w1 hB hf; have := hB.1; omega
    | succ f ih =>
      intro s1 w1 hB hf hq1
      refine x_aload_n 6 rfl dX11_readBoth_5 0 rfl rfl ?_
      refine x_bipush 8 rfl dX11_readBoth_6 (by decide) ?_
      refine x_cVi 11 rfl lX11_172 dX11_readBoth_8 (lyl55 hL) (lys55 hL) (c_X11_takes1 hL hR hB) rfl rfl (Nat.le_of_ble_eq_true rfl) (fun r M1 hr1 => ?_)
      rcases hr1 with ⟨hx, rfl, hM1⟩ | ⟨hx, rfl, hM1⟩
      · rw [hM1]
        have hc1 : M 64 s1.1 ≠ 0 := by omega
        have hB2 := gW_A hB (gW_one hR.1 hB hc1 (op := 13) (by decide))
        rw [g_chain_s hx] at hq1
        refine z_mem (M' := rd M ((g_em (g_ad s1) 13).1 : Int) ((g_em (g_ad s1) 13).2.1 : Int) (-1)) rfl ?_
        refine x_if_eq 14 22 rfl dX11_readBoth_11 (by decide) (fun c11 => ?_) (fun c11 => ?_)
        · exfalso; omega
        · refine x_aload_n 15 rfl dX11_readBoth_14 0 rfl rfl ?_
          refine x_iload_n 16 rfl dX11_readBoth_15 1 rfl rfl ?_
          refine x_cVu 19 rfl lX11_208 dX11_readBoth_16 (lyl55 hL) (lys55 hL) (c_X11_readPlain hL hR hB2 hO hdp hin) rfl rfl (Nat.le_of_ble_eq_true rfl) (fun M2 hr2 => ?_)
          rcases hq2 : g_plain (M 64) (M 65) o D inner (g_em (g_ad s1) 13) with t2 | ⟨s2, w2⟩
          · rw [hq2] at hr2 hq1
            obtain ⟨x1, y1, hM2⟩ := hr2
            rw [hM2]
            have hb1 : M 66 t2 ≠ -1 := by have := hR.2 t2 ((hG _ hB2).1 t2 hq2); omega
            refine x_goto 5 dX11_readBoth_19 (by decide) ?_
            exact bad _ _ _ hb1 (by rw [← hq1]; exact ⟨_, _, rfl⟩)
          · rw [hq2] at hr2 hq1
            have hM2 : M2 = rd M (s2.1 : Int) (s2.2.1 : Int) (-1) := hr2
            rw [hM2]
            refine x_goto 5 dX11_readBoth_19 (by decide) ?_
            have hw9 := gW_stepc hR.1 hG hB hc1 (by decide) hq2
            have hw8 := hw9.1
            exact ih (g_aim s2 s1.2.2.1 13) _ (gW_A hB hw9) (by simp only [g_aim] at hw8 ⊢; omega) hq1
      · rw [hM1]
        refine x_if_eq 14 22 rfl dX11_readBoth_11 (by decide) (fun c11 => ?_) (fun c11 => ?_)
        · refine x_retu dX11_readBoth_22 rfl ?_
          rw [g_chain_e hx] at hq1
          rw [← hq1]
          rfl
        · exfalso; omega
  refine zX_of pl_RX11 [some (zn 55), some (zi (dp : Int))] 0 rfl rfl ?_
  refine x_aload_n 1 rfl dX11_readBoth_0 0 rfl rfl ?_
  refine x_iload_n 2 rfl dX11_readBoth_1 1 rfl rfl ?_
  refine x_cVu 5 rfl lX11_208 dX11_readBoth_2 (lyl55 hL) (lys55 hL) (c_X11_readPlain hL hR hA hO hdp hin) rfl rfl (Nat.le_of_ble_eq_true rfl) (fun M2 hr2 => ?_)
  unfold g_both at hq
  rcases hq2 : g_plain (M 64) (M 65) o D inner s with t2 | ⟨s2, w2⟩
  · rw [hq2] at hr2 hq
    obtain ⟨x1, y1, hM2⟩ := hr2
    rw [hM2]
    have hb1 : M 66 t2 ≠ -1 := by have := hR.2 t2 ((hG s hA).1 t2 hq2); omega
    exact bad _ _ _ hb1 (by rw [← hq]; exact ⟨_, _, rfl⟩)
  · rw [hq2] at hr2 hq
    have hM2 : M2 = rd M (s2.1 : Int) (s2.2.1 : Int) (-1) := hr2
    rw [hM2]
    exact loop 401 s2 w2 (gW_A hA ((hG s hA).2 s2 w2 hq2)) (by omega) hq

set_option maxRecDepth 100000 in
set_option maxHeartbeats 4000000 in
theorem c_X11_readTest {d sz : Nat} {S : zSh} {M : zMem} (hL : LY S sz) {n : Nat} (hR : rdA M n) {s : gS} (hA : gA n s) {o : Bool} (hO : rdO M o) {inner : Option (gS → gR)} {dp D : Nat} (hdp : dp + D = 8) (hin : (inner = none ∧ dp = 8) ∨ ∃ f, inner = some f ∧ dp < 8 ∧ gG n f ∧ ∀ s1, gA n s1 → zX (d + 3 * D + 5) 0 0 mX11_readTest [zn 55, zi ((dp : Int) + 1)] sz S (rd M (s1.1 : Int) (s1.2.1 : Int) (-1)) (zU sz S (fun M' => rdo M (f s1) M'))) {R : gR} (hq : g_test (M 64) (M 65) o D inner s = R) : zX (d + 3 * D + 8) 0 0 mX11_readTest [zn 55, zi (dp : Int)] sz S (rd M (s.1 : Int) (s.2.1 : Int) (-1)) (zU sz S (fun M' => rdo M R M')) := by
  have hn := hR.1.1
  have hA1 := hA.1
  have hI : ∀ f, inner = some f → gG n f := fun f h => by
    rcases hin with ⟨h1, -⟩ | ⟨g, h1, -, h2, -⟩
    · rw [h1] at h; cases h
    · rw [h1] at h; cases h; exact h2
  have hG : gG n (g_both (M 64) (M 65) o D inner) := gG_both hR.1 hI
  have bad : ∀ (t l b : Int), b ≠ -1 → rdo M R (rd M t l b) → zW mX11_readTest (d + 3 * D + 8) 0 0 [] (zU sz S (fun M' => rdo M R M')) 5 [some (zn 55), some (zi (dp : Int))] [] sz S (rd M t l b) := by
    intro t l b hb hQ
    refine x_aload_n 6 rfl dX11_readTest_5 0 rfl rfl ?_
    refine x_iconst 7 rfl dX11_readTest_6 (by decide) ?_
    refine x_cVi 10 rfl lX11_172 dX11_readTest_7 (lyl55 hL) (lys55 hL) (c_X11_takes0 hL hb) rfl rfl (Nat.le_of_ble_eq_true rfl) (fun r M1 hr1 => ?_)
    obtain ⟨rfl, hM1⟩ := hr1
    rw [hM1]
    refine x_if_eq 13 21 rfl dX11_readTest_10 (by decide) (fun c10 => ?_) (fun c10 => ?_)
    · refine x_retu dX11_readTest_21 rfl ?_
      exact hQ
    · exfalso; omega
  have loop : ∀ (f : Nat) (s1 : gS) (w1 : gV), gA n s1 → n < f + s1.1 → g_chain (M 64) 5 12 (g_both (M 64) (M 65) o D inner) f s1 w1 = R → zW mX11_readTest (d + 3 * D + 8) 0 0 [] (zU sz S (fun M' => rdo M R M')) 5 [some (zn 55), some (zi (dp : Int))] [] sz S (rd M (s1.1 : Int) (s1.2.1 : Int) (-1)) := by
    intro f
    induction f with
    | zero => intro s1 w1 hB hf; have := hB.1; omega
    | succ f ih =>
      intro s1 w1 hB hf hq1
      refine x_aload_n 6 rfl dX11_readTest_5 0 rfl rfl ?_
      refine x_iconst 7 rfl dX11_readTest_6 (by decide) ?_
      refine x_cVi 10 rfl lX11_172 dX11_readTest_7 (lyl55 hL) (lys55 hL) (c_X11_takes1 hL hR hB) rfl rfl (Nat.le_of_ble_eq_true rfl) (fun r M1 hr1 => ?_)
      rcases hr1 with ⟨hx, rfl, hM1⟩ | ⟨hx, rfl, hM1⟩
      · rw [hM1]
        have hc1 : M 64 s1.1 ≠ 0 := by omega
        have hB2 := gW_A hB (gW_one hR.1 hB hc1 (op := 12) (by decide))
        rw [g_chain_s hx] at hq1
        refine z_mem (M' := rd M ((g_em (g_ad s1) 12).1 : Int) ((g_em (g_ad s1) 12).2.1 : Int) (-1)) rfl ?_
        refine x_if_eq 13 21 rfl dX11_readTest_10 (by decide) (fun c10 => ?_) (fun c10 => ?_)
        · exfalso; omega
        · refine x_aload_n 14 rfl dX11_readTest_13 0 rfl rfl ?_
          refine x_iload_n 15 rfl dX11_readTest_14 1 rfl rfl ?_
          refine x_cVu 18 rfl lX11_205 dX11_readTest_15 (lyl55 hL) (lys55 hL) (c_X11_readBoth hL hR hB2 hO hdp hin rfl) rfl rfl (Nat.le_of_ble_eq_true rfl) (fun M2 hr2 => ?_)
          rcases hq2 : g_both (M 64) (M 65) o D inner (g_em (g_ad s1) 12) with t2 | ⟨s2, w2⟩
          · rw [hq2] at hr2 hq1
            obtain ⟨x1, y1, hM2⟩ := hr2
            rw [hM2]
            have hb1 : M 66 t2 ≠ -1 := by have := hR.2 t2 ((hG _ hB2).1 t2 hq2); omega
            refine x_goto 5 dX11_readTest_18 (by decide) ?_
            exact bad _ _ _ hb1 (by rw [← hq1]; exact ⟨_, _, rfl⟩)
          · rw [hq2] at hr2 hq1
            have hM2 : M2 = rd M (s2.1 : Int) (s2.2.1 : Int) (-1) := hr2
            rw [hM2]
            refine x_goto 5 dX11_readTest_18 (by decide) ?_
            have hw9 := gW_stepc hR.1 hG hB hc1 (by decide) hq2
            have hw8 := hw9.1
            exact ih (g_aim s2 s1.2.2.1 12) _ (gW_A hB hw9) (by simp only [g_aim] at hw8 ⊢; omega) hq1
      · rw [hM1]
        refine x_if_eq 13 21 rfl dX11_readTest_10 (by decide) (fun c10 => ?_) (fun c10 => ?_)
        · refine x_retu dX11_readTest_21 rfl ?_
          rw [g_chain_e hx] at hq1
          rw [← hq1]
          rfl
        · exfalso; omega
  refine zX_of pl_RX11 [some (zn 55), some (zi (dp : Int))] 0 rfl rfl ?_
  refine x_aload_n 1 rfl dX11_readTest_0 0 rfl rfl ?_
  refine x_iload_n 2 rfl dX11_readTest_1 1 rfl rfl ?_
  refine x_cVu 5 rfl lX11_205 dX11_readTest_2 (lyl55 hL) (lys55 hL) (c_X11_readBoth hL hR hA hO hdp hin rfl) rfl rfl (Nat.le_of_ble_eq_true rfl) (fun M2 hr2 => ?_)
  unfold g_test at hq
  rcases hq2 : g_both (M 64) (M 65) o D inner s with t2 | ⟨s2, w2⟩
  · rw [hq2] at hr2 hq
    obtain ⟨x1, y1, hM2⟩ := hr2
    rw [hM2]
    have hb1 : M 66 t2 ≠ -1 := by have := hR.2 t2 ((hG s hA).1 t2 hq2); omega
    exact bad _ _ _ hb1 (by rw [← hq]; exact ⟨_, _, rfl⟩)
  · rw [hq2] at hr2 hq
    have hM2 : M2 = rd M (s2.1 : Int) (s2.2.1 : Int) (-1) := hr2
    rw [hM2]
    exact loop 401 s2 w2 (gW_A hA ((hG s hA).2 s2 w2 hq2)) (by omega) hq

theorem c_X11_readTestD {sz : Nat} {S : zSh} {M : zMem} (hL : LY S sz) {n : Nat} (hR : rdA M n) {o : Bool} (hO : rdO M o) : ∀ (D : Nat) {d : Nat} {s : gS}, gA n s → ∀ {dp : Nat}, dp + D = 8 → zX (d + 3 * D + 8) 0 0 mX11_readTest [zn 55, zi (dp : Int)] sz S (rd M (s.1 : Int) (s.2.1 : Int) (-1)) (zU sz S (fun M' => rdo M (g_testD (M 64) (M 65) o D s) M'))
  | 0, d, s, hA, dp, h => c_X11_readTest hL hR hA hO h (Or.inl ⟨rfl, by omega⟩) rfl
  | D + 1, d, s, hA, dp, h => by
    refine c_X11_readTest hL hR hA hO h (Or.inr ⟨g_testD (M 64) (M 65) o D, rfl, by omega, gG_testD hR.1 D, fun s1 h1 => ?_⟩) rfl
    have h2 := c_X11_readTestD hL hR hO D (d := d) h1 (dp := dp + 1) (by omega)
    rw [show ((dp + 1 : Nat) : Int) = (dp : Int) + 1 by omega] at h2
    rw [show d + 3 * (D + 1) + 5 = d + 3 * D + 8 by omega]
    exact h2
