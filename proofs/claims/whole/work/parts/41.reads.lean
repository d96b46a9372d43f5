def gz (cd : Nat → Int) : gS := (0, 0, 0, cd)
theorem gz_A {n : Nat} {cd : Nat → Int} : gA n (gz cd) := ⟨by show 0 ≤ n; omega, by show 0 ≤ 50; omega, by show 0 ≤ 0; omega⟩
/-- what is left of a text behind a clause -/
def g_more (o : Bool) (c v : Nat → Int) (n f : Nat) (s : gS) (L : List gC) : Nat ⊕ (gS × List gC) := if c s.1 = 159 then g_text o c v n f (g_ad s) L else if s.1 = n then .inr (s, L) else .inl s.1
theorem g_text_s {o : Bool} {c v : Nat → Int} {n f : Nat} {s s1 : gS} {L : List gC} {x : gC} (h : g_cl o c v s = .inr (s1, x)) : g_text o c v n (f + 1) s L = g_more o c v n f s1 (L ++ [x]) := by
  simp only [g_text, h]; rfl
theorem g_text_f {o : Bool} {c v : Nat → Int} {n f : Nat} {s : gS} {L : List gC} {t : Nat} (h : g_cl o c v s = .inl t) : g_text o c v n (f + 1) s L = .inl t := by
  simp only [g_text, h]
/-- what the reference's reading leaves: fault -/
def rdoT (M : zMem) (res : Nat ⊕ (gS × List gC)) (r : Int) (M' : zMem) : Prop := match res with
  | .inl t => r = 0 ∧ ∃ x y : Int, M' = rd (z_up M 55 14 (M 66 t)) x y (M 66 t)
  | .inr _ => r = 1 ∧ ∃ x y : Int, M' = rd (z_up M 55 14 (-1)) x y (-1)
theorem rd_14 {M : zMem} {t l b x : Int} : z_up (rd M t l b) 55 14 x = rd (z_up M 55 14 x) t l b := by
  funext i j
  by_cases h : i = 55
  · subst h; by_cases h1 : j = 19 <;> by_cases h2 : j = 20 <;> by_cases h3 : j = 21 <;> by_cases h4 : j = 14 <;> simp [rd, z_up, h1, h2, h3, h4] <;> omega
  · simp [rd, z_up, h]

set_option maxRecDepth 100000 in
set_option maxHeartbeats 4000000 in
theorem w_X11_reads28 {d sz : Nat} {S : zSh} {M : zMem} (hL : LY S sz) {n : Nat} (hR : rdA M n) {o : Bool} (hO : rdO M o) (hN : M 55 18 = (n : Int)) {cd0 : Nat → Int} {R : Nat ⊕ (gS × List gC)} (hq0 : g_text o (M 64) (M 65) n 12 (gz cd0) [] = R) : zW mX11_reads (d + 35) 0 0 [] (zI sz S (fun r M' => rdoT M R r M')) 28 [some (zn 55), none] [] sz S (rd M 0 0 (-1)) := by
  have hT := hR.1
  have hn := hR.1.1
  have h18 : M 55 18 = (n : Int) := hN
  have fin0 : ∀ (j t l b : Int), b ≠ -1 → (∃ t0, R = .inl t0 ∧ b = M 66 t0) → zW mX11_reads (d + 35) 0 0 [] (zI sz S (fun r M' => rdoT M R r M')) 73 [some (zn 55), some (zi j)] [] sz S (rd M t l b) := by
    intro j t l b hb hQ
    refine x_aload_n 74 rfl dX11_reads_73 0 rfl rfl ?_
    refine x_cVi 77 rfl lX11_165 dX11_reads_74 (lyl55 hL) (lys55 hL) (c_X11_fine0 hL hb) rfl rfl (Nat.le_of_ble_eq_true rfl) (fun r M1 hr1 => ?_)
    obtain ⟨rfl, hM1⟩ := hr1
    rw [hM1]
    refine x_if_eq 80 95 rfl dX11_reads_77 (by decide) (fun c77 => ?_) (fun c77 => ?_)
    · refine x_aload_n 96 rfl dX11_reads_95 0 rfl rfl ?_
      refine x_aload_n 97 rfl dX11_reads_96 0 rfl rfl ?_
      refine x_geti 100 rfl fX11_162 dX11_reads_97 (lyl55 hL) (lys55 hL) (by decide) ?_
      try simp (disch := omega) only [z_up_ne, z_up_nk, z_up_eq, z_mup_ne, z_mup_eq, Int.reduceToNat, Int.toNat_natCast, rd_19, rd_20, rd_21, rd_o, rd_ne, rd_u19, rd_u20, rd_u21]
      refine x_puti 103 rfl fX11_47 dX11_reads_100 (lyl55 hL) (lys55 hL) (by decide) ?_
      try simp only [rd_19, rd_20, rd_21, rd_o, rd_ne, rd_u19, rd_u20, rd_u21]
      rw [rd_14]
      refine x_aload_n 104 rfl dX11_reads_103 0 rfl rfl ?_
      refine x_cVi 107 rfl lX11_165 dX11_reads_104 (lyl55 hL) (lys55 hL) (c_X11_fine0 hL hb) rfl rfl (Nat.le_of_ble_eq_true rfl) (fun r M1 hr1 => ?_)
      obtain ⟨rfl, hM1⟩ := hr1
      rw [hM1]
      refine x_retz dX11_reads_107 rfl (by omega) ?_
      obtain ⟨t0, rfl, rfl⟩ := hQ
      exact ⟨rfl, _, _, rfl⟩
    · exfalso; omega
  have bad : ∀ (j t l b : Int), b ≠ -1 → (∃ t0, R = .inl t0 ∧ b = M 66 t0) → zW mX11_reads (d + 35) 0 0 [] (zI sz S (fun r M' => rdoT M R r M')) 34 [some (zn 55), some (zi j)] [] sz S (rd M t l b) := by
    intro j t l b hb hQ
    refine x_aload_n 35 rfl dX11_reads_34 0 rfl rfl ?_
    refine x_bipush 37 rfl dX11_reads_35 (by decide) ?_
    refine x_cSi 40 rfl lX11_211 dX11_reads_37 (c_X11_signOf (by decide)) rfl rfl (Nat.le_of_ble_eq_true rfl) (fun r M1 hr1 => ?_)
    obtain ⟨rfl, hM1⟩ := hr1
    rw [hM1]
    refine x_cVi 43 rfl lX11_172 dX11_reads_40 (lyl55 hL) (lys55 hL) (c_X11_takes0 hL hb) rfl rfl (Nat.le_of_ble_eq_true rfl) (fun r M1 hr1 => ?_)
    obtain ⟨rfl, hM1⟩ := hr1
    rw [hM1]
    refine x_if_eq 46 73 rfl dX11_reads_43 (by decide) (fun c43 => ?_) (fun c43 => ?_)
    · exact fin0 _ _ _ _ hb hQ
    · exfalso; omega
  have loop : ∀ (f : Nat) (s1 : gS) (L : List gC) (j : Int), gA n s1 → (f : Int) + j = 12 → 0 ≤ j → g_more o (M 64) (M 65) n f s1 L = R → zW mX11_reads (d + 35) 0 0 [] (zI sz S (fun r M' => rdoT M R r M')) 34 [some (zn 55), some (zi j)] [] sz S (rd M (s1.1 : Int) (s1.2.1 : Int) (-1)) := by
    intro f
    induction f with
    | zero =>
      intro s1 L j hA hj hj0 hq
      have hA1 := hA.1
      refine x_aload_n 35 rfl dX11_reads_34 0 rfl rfl ?_
      refine x_bipush 37 rfl dX11_reads_35 (by decide) ?_
      refine x_cSi 40 rfl lX11_211 dX11_reads_37 (c_X11_signOf (by decide)) rfl rfl (Nat.le_of_ble_eq_true rfl) (fun r M1 hr1 => ?_)
      obtain ⟨rfl, hM1⟩ := hr1
      rw [hM1]
      refine x_cVi 43 rfl lX11_172 dX11_reads_40 (lyl55 hL) (lys55 hL) (c_X11_takes1 hL hR hA) rfl rfl (Nat.le_of_ble_eq_true rfl) (fun r M1 hr1 => ?_)
      rcases hr1 with ⟨hx, rfl, hM1⟩ | ⟨hx, rfl, hM1⟩
      · rw [hM1]
        have hx : M 64 s1.1 = 159 := by omega
        unfold g_more at hq
        rw [if_pos hx] at hq
        have hlt := hT.lt hA1 (show M 64 s1.1 ≠ 0 by omega)
        have hA2 := gW_A hA (gW_ad hA hlt)
        have hb1 : M 66 (s1.1 + 1) ≠ -1 := by have := hR.2 (s1.1 + 1) (hlt); omega
        have hq : .inl (s1.1 + 1) = R := hq
        refine x_if_eq 46 73 rfl dX11_reads_43 (by decide) (fun c43 => ?_) (fun c43 => ?_)
        · exfalso; omega
        · refine x_iload_n 47 rfl dX11_reads_46 1 rfl rfl ?_
          refine x_bipush 49 rfl dX11_reads_47 (by decide) ?_
          refine x_icmp_ne 52 56 rfl dX11_reads_49 (by decide) (fun c49 => ?_) (fun c49 => ?_)
          · exfalso; omega
          · refine x_aload_n 53 rfl dX11_reads_52 0 rfl rfl ?_
            refine x_cVu 56 rfl lX11_175 dX11_reads_53 (lyl55 hL) (lys55 hL) (c_X11_faults1 hL (by have := hA2.1; have := hR.1.1; omega)) rfl rfl (Nat.le_of_ble_eq_true rfl) (fun M1 hM1 => ?_)
            rw [hM1, Int.toNat_natCast]
            refine x_aload_n 57 rfl dX11_reads_56 0 rfl rfl ?_
            refine x_cVi 60 rfl lX11_165 dX11_reads_57 (lyl55 hL) (lys55 hL) (c_X11_fine0 hL hb1) rfl rfl (Nat.le_of_ble_eq_true rfl) (fun r M1 hr1 => ?_)
            obtain ⟨rfl, hM1⟩ := hr1
            rw [hM1]
            refine x_if_eq 63 67 rfl dX11_reads_60 (by decide) (fun c60 => ?_) (fun c60 => ?_)
            · refine w_iinc 70 rfl dX11_reads_67 rfl (by decide) (by omega) rfl (ls' := [_, _]) rfl (by decide) ?_
              refine x_goto 34 dX11_reads_70 (by decide) ?_
              exact bad _ _ _ _ hb1 ⟨s1.1 + 1, hq.symm, rfl⟩
            · exfalso; omega
      · rw [hM1]
        have hx : ¬ M 64 s1.1 = 159 := by omega
        unfold g_more at hq
        rw [if_neg hx] at hq
        refine x_if_eq 46 73 rfl dX11_reads_43 (by decide) (fun c43 => ?_) (fun c43 => ?_)
        · refine x_aload_n 74 rfl dX11_reads_73 0 rfl rfl ?_
          refine x_cVi 77 rfl lX11_165 dX11_reads_74 (lyl55 hL) (lys55 hL) (c_X11_fine1 hL) rfl rfl (Nat.le_of_ble_eq_true rfl) (fun r M1 hr1 => ?_)
          obtain ⟨rfl, hM1⟩ := hr1
          rw [hM1]
          refine x_if_eq 80 95 rfl dX11_reads_77 (by decide) (fun c77 => ?_) (fun c77 => ?_)
          · exfalso; omega
          · refine x_aload_n 81 rfl dX11_reads_80 0 rfl rfl ?_
            refine x_geti 84 rfl fX11_169 dX11_reads_81 (lyl55 hL) (lys55 hL) (by decide) ?_
            try simp (disch := omega) only [z_up_ne, z_up_nk, z_up_eq, z_mup_ne, z_mup_eq, Int.reduceToNat, Int.toNat_natCast, rd_19, rd_20, rd_21, rd_o, rd_ne, rd_u19, rd_u20, rd_u21]
            refine x_aload_n 85 rfl dX11_reads_84 0 rfl rfl ?_
            refine x_geti 88 rfl fX11_149 dX11_reads_85 (lyl55 hL) (lys55 hL) (by decide) ?_
            try simp (disch := omega) only [z_up_ne, z_up_nk, z_up_eq, z_mup_ne, z_mup_eq, Int.reduceToNat, Int.toNat_natCast, rd_19, rd_20, rd_21, rd_o, rd_ne, rd_u19, rd_u20, rd_u21]
            refine x_icmp_ge 91 95 rfl dX11_reads_88 (by decide) (fun c88 => ?_) (fun c88 => ?_)
            · rw [if_pos (by omega)] at hq
              refine x_aload_n 96 rfl dX11_reads_95 0 rfl rfl ?_
              refine x_aload_n 97 rfl dX11_reads_96 0 rfl rfl ?_
              refine x_geti 100 rfl fX11_162 dX11_reads_97 (lyl55 hL) (lys55 hL) (by decide) ?_
              try simp (disch := omega) only [z_up_ne, z_up_nk, z_up_eq, z_mup_ne, z_mup_eq, Int.reduceToNat, Int.toNat_natCast, rd_19, rd_20, rd_21, rd_o, rd_ne, rd_u19, rd_u20, rd_u21]
              refine x_puti 103 rfl fX11_47 dX11_reads_100 (lyl55 hL) (lys55 hL) (by decide) ?_
              try simp only [rd_19, rd_20, rd_21, rd_o, rd_ne, rd_u19, rd_u20, rd_u21]
              rw [rd_14]
              refine x_aload_n 104 rfl dX11_reads_103 0 rfl rfl ?_
              refine x_cVi 107 rfl lX11_165 dX11_reads_104 (lyl55 hL) (lys55 hL) (c_X11_fine1 hL) rfl rfl (Nat.le_of_ble_eq_true rfl) (fun r M1 hr1 => ?_)
              obtain ⟨rfl, hM1⟩ := hr1
              rw [hM1]
              refine x_retz dX11_reads_107 rfl (by omega) ?_
              rw [← hq]
              exact ⟨rfl, _, _, rfl⟩
            · rw [if_neg (by omega)] at hq
              have hb1 : M 66 s1.1 ≠ -1 := by have := hR.2 s1.1 (hA1); omega
              refine x_aload_n 92 rfl dX11_reads_91 0 rfl rfl ?_
              refine x_cVu 95 rfl lX11_175 dX11_reads_92 (lyl55 hL) (lys55 hL) (c_X11_faults1 hL (by omega)) rfl rfl (Nat.le_of_ble_eq_true rfl) (fun M1 hM1 => ?_)
              rw [hM1, Int.toNat_natCast]
              refine x_aload_n 96 rfl dX11_reads_95 0 rfl rfl ?_
              refine x_aload_n 97 rfl dX11_reads_96 0 rfl rfl ?_
              refine x_geti 100 rfl fX11_162 dX11_reads_97 (lyl55 hL) (lys55 hL) (by decide) ?_
              try simp (disch := omega) only [z_up_ne, z_up_nk, z_up_eq, z_mup_ne, z_mup_eq, Int.reduceToNat, Int.toNat_natCast, rd_19, rd_20, rd_21, rd_o, rd_ne, rd_u19, rd_u20, rd_u21]
              refine x_puti 103 rfl fX11_47 dX11_reads_100 (lyl55 hL) (lys55 hL) (by decide) ?_
              try simp only [rd_19, rd_20, rd_21, rd_o, rd_ne, rd_u19, rd_u20, rd_u21]
              rw [rd_14]
              refine x_aload_n 104 rfl dX11_reads_103 0 rfl rfl ?_
              refine x_cVi 107 rfl lX11_165 dX11_reads_104 (lyl55 hL) (lys55 hL) (c_X11_fine0 hL hb1) rfl rfl (Nat.le_of_ble_eq_true rfl) (fun r M1 hr1 => ?_)
              obtain ⟨rfl, hM1⟩ := hr1
              rw [hM1]
              refine x_retz dX11_reads_107 rfl (by omega) ?_
              rw [← hq]
              exact ⟨rfl, _, _, rfl⟩
        · exfalso; omega
    | succ f ih =>
      intro s1 L j hA hj hj0 hq
      have hA1 := hA.1
      refine x_aload_n 35 rfl dX11_reads_34 0 rfl rfl ?_
      refine x_bipush 37 rfl dX11_reads_35 (by decide) ?_
      refine x_cSi 40 rfl lX11_211 dX11_reads_37 (c_X11_signOf (by decide)) rfl rfl (Nat.le_of_ble_eq_true rfl) (fun r M1 hr1 => ?_)
      obtain ⟨rfl, hM1⟩ := hr1
      rw [hM1]
      refine x_cVi 43 rfl lX11_172 dX11_reads_40 (lyl55 hL) (lys55 hL) (c_X11_takes1 hL hR hA) rfl rfl (Nat.le_of_ble_eq_true rfl) (fun r M1 hr1 => ?_)
      rcases hr1 with ⟨hx, rfl, hM1⟩ | ⟨hx, rfl, hM1⟩
      · rw [hM1]
        have hx : M 64 s1.1 = 159 := by omega
        unfold g_more at hq
        rw [if_pos hx] at hq
        have hlt := hT.lt hA1 (show M 64 s1.1 ≠ 0 by omega)
        have hA2 := gW_A hA (gW_ad hA hlt)
        refine x_if_eq 46 73 rfl dX11_reads_43 (by decide) (fun c43 => ?_) (fun c43 => ?_)
        · exfalso; omega
        · refine x_iload_n 47 rfl dX11_reads_46 1 rfl rfl ?_
          refine x_bipush 49 rfl dX11_reads_47 (by decide) ?_
          refine x_icmp_ne 52 56 rfl dX11_reads_49 (by decide) (fun c49 => ?_) (fun c49 => ?_)
          · refine x_aload_n 57 rfl dX11_reads_56 0 rfl rfl ?_
            refine x_cVi 60 rfl lX11_165 dX11_reads_57 (lyl55 hL) (lys55 hL) (c_X11_fine1 hL) rfl rfl (Nat.le_of_ble_eq_true rfl) (fun r M1 hr1 => ?_)
            obtain ⟨rfl, hM1⟩ := hr1
            rw [hM1]
            refine x_if_eq 63 67 rfl dX11_reads_60 (by decide) (fun c60 => ?_) (fun c60 => ?_)
            · exfalso; omega
            · refine x_aload_n 64 rfl dX11_reads_63 0 rfl rfl ?_
              refine x_cVu 67 rfl lX11_233 dX11_reads_64 (lyl55 hL) (lys55 hL) (c_X11_readOne hL hR hA2 hO) rfl rfl (Nat.le_of_ble_eq_true rfl) (fun M2 hr2 => ?_)
              rcases hq2 : g_cl o (M 64) (M 65) (g_ad s1) with t2 | ⟨s2, w2⟩
              · rw [hq2] at hr2
                rw [g_text_f hq2] at hq
                obtain ⟨x1, y1, hM2⟩ := hr2
                rw [hM2]
                have hb1 : M 66 t2 ≠ -1 := by have := hR.2 t2 ((g_cl_ok hT hA2).1 t2 hq2); omega
                refine w_iinc 70 rfl dX11_reads_67 rfl (by decide) (by omega) rfl (ls' := [_, _]) rfl (by decide) ?_
                refine x_goto 34 dX11_reads_70 (by decide) ?_
                exact bad _ _ _ _ hb1 ⟨t2, hq.symm, rfl⟩
              · rw [hq2] at hr2
                rw [g_text_s hq2] at hq
                have hM2 : M2 = rd M (s2.1 : Int) (s2.2.1 : Int) (-1) := hr2
                rw [hM2]
                refine w_iinc 70 rfl dX11_reads_67 rfl (by decide) (by omega) rfl (ls' := [_, _]) rfl (by decide) ?_
                refine x_goto 34 dX11_reads_70 (by decide) ?_
                exact ih s2 _ _ (gW_A hA2 ((g_cl_ok hT hA2).2 s2 w2 hq2).1) (by omega) (by omega) hq
          · exfalso; omega
      · rw [hM1]
        have hx : ¬ M 64 s1.1 = 159 := by omega
        unfold g_more at hq
        rw [if_neg hx] at hq
        refine x_if_eq 46 73 rfl dX11_reads_43 (by decide) (fun c43 => ?_) (fun c43 => ?_)
        · refine x_aload_n 74 rfl dX11_reads_73 0 rfl rfl ?_
          refine x_cVi 77 rfl lX11_165 dX11_reads_74 (lyl55 hL) (lys55 hL) (c_X11_fine1 hL) rfl rfl (Nat.le_of_ble_eq_true rfl) (fun r M1 hr1 => ?_)
          obtain ⟨rfl, hM1⟩ := hr1
          rw [hM1]
          refine x_if_eq 80 95 rfl dX11_reads_77 (by decide) (fun c77 => ?_) (fun c77 => ?_)
          · exfalso; omega
          · refine x_aload_n 81 rfl dX11_reads_80 0 rfl rfl ?_
            refine x_geti 84 rfl fX11_169 dX11_reads_81 (lyl55 hL) (lys55 hL) (by decide) ?_
            try simp (disch := omega) only [z_up_ne, z_up_nk, z_up_eq, z_mup_ne, z_mup_eq, Int.reduceToNat, Int.toNat_natCast, rd_19, rd_20, rd_21, rd_o, rd_ne, rd_u19, rd_u20, rd_u21]
            refine x_aload_n 85 rfl dX11_reads_84 0 rfl rfl ?_
            refine x_geti 88 rfl fX11_149 dX11_reads_85 (lyl55 hL) (lys55 hL) (by decide) ?_
            try simp (disch := omega) only [z_up_ne, z_up_nk, z_up_eq, z_mup_ne, z_mup_eq, Int.reduceToNat, Int.toNat_natCast, rd_19, rd_20, rd_21, rd_o, rd_ne, rd_u19, rd_u20, rd_u21]
            refine x_icmp_ge 91 95 rfl dX11_reads_88 (by decide) (fun c88 => ?_) (fun c88 => ?_)
            · rw [if_pos (by omega)] at hq
              refine x_aload_n 96 rfl dX11_reads_95 0 rfl rfl ?_
              refine x_aload_n 97 rfl dX11_reads_96 0 rfl rfl ?_
              refine x_geti 100 rfl fX11_162 dX11_reads_97 (lyl55 hL) (lys55 hL) (by decide) ?_
              try simp (disch := omega) only [z_up_ne, z_up_nk, z_up_eq, z_mup_ne, z_mup_eq, Int.reduceToNat, Int.toNat_natCast, rd_19, rd_20, rd_21, rd_o, rd_ne, rd_u19, rd_u20, rd_u21]
              refine x_puti 103 rfl fX11_47 dX11_reads_100 (lyl55 hL) (lys55 hL) (by decide) ?_
              try simp only [rd_19, rd_20, rd_21, rd_o, rd_ne, rd_u19, rd_u20, rd_u21]
              rw [rd_14]
              refine x_aload_n 104 rfl dX11_reads_103 0 rfl rfl ?_
              refine x_cVi 107 rfl lX11_165 dX11_reads_104 (lyl55 hL) (lys55 hL) (c_X11_fine1 hL) rfl rfl (Nat.le_of_ble_eq_true rfl) (fun r M1 hr1 => ?_)
              obtain ⟨rfl, hM1⟩ := hr1
              rw [hM1]
              refine x_retz dX11_reads_107 rfl (by omega) ?_
              rw [← hq]
              exact ⟨rfl, _, _, rfl⟩
            · rw [if_neg (by omega)] at hq
              have hb1 : M 66 s1.1 ≠ -1 := by have := hR.2 s1.1 (hA1); omega
              refine x_aload_n 92 rfl dX11_reads_91 0 rfl rfl ?_
              refine x_cVu 95 rfl lX11_175 dX11_reads_92 (lyl55 hL) (lys55 hL) (c_X11_faults1 hL (by omega)) rfl rfl (Nat.le_of_ble_eq_true rfl) (fun M1 hM1 => ?_)
              rw [hM1, Int.toNat_natCast]
              refine x_aload_n 96 rfl dX11_reads_95 0 rfl rfl ?_
              refine x_aload_n 97 rfl dX11_reads_96 0 rfl rfl ?_
              refine x_geti 100 rfl fX11_162 dX11_reads_97 (lyl55 hL) (lys55 hL) (by decide) ?_
              try simp (disch := omega) only [z_up_ne, z_up_nk, z_up_eq, z_mup_ne, z_mup_eq, Int.reduceToNat, Int.toNat_natCast, rd_19, rd_20, rd_21, rd_o, rd_ne, rd_u19, rd_u20, rd_u21]
              refine x_puti 103 rfl fX11_47 dX11_reads_100 (lyl55 hL) (lys55 hL) (by decide) ?_
              try simp only [rd_19, rd_20, rd_21, rd_o, rd_ne, rd_u19, rd_u20, rd_u21]
              rw [rd_14]
              refine x_aload_n 104 rfl dX11_reads_103 0 rfl rfl ?_
              refine x_cVi 107 rfl lX11_165 dX11_reads_104 (lyl55 hL) (lys55 hL) (c_X11_fine0 hL hb1) rfl rfl (Nat.le_of_ble_eq_true rfl) (fun r M1 hr1 => ?_)
              obtain ⟨rfl, hM1⟩ := hr1
              rw [hM1]
              refine x_retz dX11_reads_107 rfl (by omega) ?_
              rw [← hq]
              exact ⟨rfl, _, _, rfl⟩
        · exfalso; omega
  refine z_mem (M' := rd M ((gz cd0).1 : Int) ((gz cd0).2.1 : Int) (-1)) rfl ?_
  refine x_aload_n 29 rfl dX11_reads_28 0 rfl rfl ?_
  refine x_cVu 32 rfl lX11_233 dX11_reads_29 (lyl55 hL) (lys55 hL) (c_X11_readOne hL hR gz_A hO) rfl rfl (Nat.le_of_ble_eq_true rfl) (fun M2 hr2 => ?_)
  rcases hq2 : g_cl o (M 64) (M 65) (gz cd0) with t2 | ⟨s2, w2⟩
  · rw [hq2] at hr2
    rw [g_text_f hq2] at hq0
    obtain ⟨x1, y1, hM2⟩ := hr2
    rw [hM2]
    have hb1 : M 66 t2 ≠ -1 := by have := hR.2 t2 ((g_cl_ok hT gz_A).1 t2 hq2); omega
    refine x_iconst 33 rfl dX11_reads_32 (by decide) ?_
    refine y_istore_n 34 rfl dX11_reads_33 rfl rfl (ls' := [_, _]) rfl (by decide) ?_
    exact bad _ _ _ _ hb1 ⟨t2, hq0.symm, rfl⟩
  · rw [hq2] at hr2
    rw [g_text_s hq2] at hq0
    have hM2 : M2 = rd M (s2.1 : Int) (s2.2.1 : Int) (-1) := hr2
    rw [hM2]
    refine x_iconst 33 rfl dX11_reads_32 (by decide) ?_
    refine y_istore_n 34 rfl dX11_reads_33 rfl rfl (ls' := [_, _]) rfl (by decide) ?_
    exact loop 11 s2 _ _ (gW_A gz_A ((g_cl_ok hT gz_A).2 s2 w2 hq2).1) (by decide) (by decide) hq0

theorem rdA_sp {M : zMem} {size : Nat} (hs : size ≤ 400) (hB : tbI M) {T : tS} (hT : tkG (mC (tb M)) (mV (tb M)) (tb M) size 401 0 (0, M 64, M 65, M 66) = T) : rdA (z_up (sp M (T.1 : Int) (ku T.2.1 T.1 0) (ku T.2.2.1 T.1 0) (ku T.2.2.2 T.1 (size : Int))) 55 13 0) T.1 := by
  have h := tok_TK (b := tb M) (fun i => by unfold tb; omega) hs hT
  unfold rdA
  rw [z_up_ne (by decide), z_up_ne (by decide), z_up_ne (by decide), sp_64, sp_65, sp_66]
  exact h

set_option maxRecDepth 100000 in
set_option maxHeartbeats 4000000 in
theorem c_X11_reads {d sz : Nat} {S : zSh} {M : zMem} (hL : LY S sz) {size : Nat} (h13 : M 55 13 = (size : Int)) (hs : size ≤ 400) (hW : wdI M) (hB : tbI M) {o : Bool} (hO : rdO M o) {T : tS} (hT : tkG (mC (tb M)) (mV (tb M)) (tb M) size 401 0 (0, M 64, M 65, M 66) = T) {cd0 : Nat → Int} {R : Nat ⊕ (gS × List gC)} (hq : g_text o (ku T.2.1 T.1 0) (ku T.2.2.1 T.1 0) T.1 12 (gz cd0) [] = R) : zX (d + 35) 0 0 mX11_reads [zn 55] sz S M (zI sz S (fun r M' => rdoT (z_up (sp M (T.1 : Int) (ku T.2.1 T.1 0) (ku T.2.2.1 T.1 0) (ku T.2.2.2 T.1 (size : Int))) 55 13 0) R r M')) := by
  refine zX_of pl_RX11 [some (zn 55), none] 1 rfl rfl ?_
  refine x_aload_n 1 rfl dX11_reads_0 0 rfl rfl ?_
  refine x_aload_n 2 rfl dX11_reads_1 0 rfl rfl ?_
  refine x_geti 5 rfl fX11_143 dX11_reads_2 (lyl55 hL) (lys55 hL) (by decide) ?_
  rw [h13]
  refine x_cVu 8 rfl lX11_230 dX11_reads_5 (lyl55 hL) (lys55 hL) (c_X11_splits hL hs hW hB hT) rfl rfl (Nat.le_of_ble_eq_true rfl) (fun M1 hM1 => ?_)
  rw [hM1]
  refine x_aload_n 9 rfl dX11_reads_8 0 rfl rfl ?_
  refine x_iconst 10 rfl dX11_reads_9 (by decide) ?_
  refine x_puti 13 rfl fX11_143 dX11_reads_10 (lyl55 hL) (lys55 hL) (by decide) ?_
  refine x_aload_n 14 rfl dX11_reads_13 0 rfl rfl ?_
  refine x_iconst 15 rfl dX11_reads_14 (by decide) ?_
  refine x_puti 18 rfl fX11_169 dX11_reads_15 (lyl55 hL) (lys55 hL) (by decide) ?_
  refine x_aload_n 19 rfl dX11_reads_18 0 rfl rfl ?_
  refine x_iconst 20 rfl dX11_reads_19 (by decide) ?_
  refine x_puti 23 rfl fX11_178 dX11_reads_20 (lyl55 hL) (lys55 hL) (by decide) ?_
  refine x_aload_n 24 rfl dX11_reads_23 0 rfl rfl ?_
  refine x_iconst 25 rfl dX11_reads_24 (by decide) ?_
  refine x_puti 28 rfl fX11_162 dX11_reads_25 (lyl55 hL) (lys55 hL) (by decide) ?_
  refine w_X11_reads28 (M := (z_up (sp M (T.1 : Int) (ku T.2.1 T.1 0) (ku T.2.2.1 T.1 0) (ku T.2.2.2 T.1 (size : Int))) 55 13 0)) hL (rdA_sp hs hB hT) (o := o) (cd0 := cd0) ?_ ?_ ?_
  · obtain ⟨h1, h2, h3⟩ := hO
    refine ⟨?_, ?_, ?_⟩
    · rw [z_up_nk (by decide), sp_o (by decide)]; exact h1
    · rw [z_up_nk (by decide), sp_o (by decide)]; exact h2
    · rw [z_up_nk (by decide), sp_o (by decide)]; exact h3
  · rw [z_up_nk (by decide), sp_18]
  · rw [z_up_ne (by decide), z_up_ne (by decide), sp_64, sp_65]; exact hq
