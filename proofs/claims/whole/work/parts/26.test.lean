theorem c_X11_sumOfD {sz : Nat} {S : zSh} {M : zMem} (hL : LY S sz) {B n : Nat} {c v : Nat → Int} (hM : EVM M B n c v) (hT : TK c v n) {o : Bool} (hO : M 55 25 = (if o = true then 1 else 0)) (hi : KI (M 57)) (hE : mEb M o)  : ∀ (D : Nat) {d : Nat} {live b : Int}, (live = 0 ∨ live = 1) → (b = 0 ∨ b = 1) → ∀ {s s' : gS} {w : gV}, gA n s → g_sumD c v o D s = .inr (s', w) → zX (d + 3 * D + 5) 0 0 mX11_sumOf [zn 55, zi live] sz S (ev M ((B + s.1 : Nat) : Int) b) (zJ sz S (fun r M' => EVO M B live b (w (mE M o)) s'.1 r M'))
  | 0, d, live, b, hlv, hb, s, s', w, hA, hq => c_X11_sumOf hL hM hT hlv hb hO hi hE hA (inner := none) (fun f h => by cases h) hq
  | D + 1, d, live, b, hlv, hb, s, s', w, hA, hq => by
    rw [show d + 3 * (D + 1) + 5 = d + 3 * D + 3 + 5 by omega]
    refine c_X11_sumOf hL hM hT hlv hb hO hi hE hA (inner := some (g_sumD c v o D)) (fun f h => ?_) hq
    cases h
    exact ⟨gG_sumD hT D, fun s1 s2 w1 b1 hb1 hA1 hq1 => c_X11_sumOfD hL hM hT hO hi hE D (d := d) hlv hb1 hA1 hq1⟩
theorem g_pos_inv {c v : Nat → Int} {o : Bool} {D : Nat} {inner : Option (gS → gR)} {s s' : gS} {w : gV} (h : g_pos c v o D inner s = .inr (s', w)) :
    (c s.1 = 140 ∧ ∃ f s1, inner = some f ∧ f (g_ad s) = .inr (s1, w) ∧ c s1.1 = 141 ∧ s' = g_ad s1) ∨
    (c s.1 ≠ 140 ∧ ∃ s1 a s2 b, g_sumD c v o D s = .inr (s1, a) ∧ gop_c (c s1.1) ≠ 0 ∧ g_sumD c v o D (g_ad s1) = .inr (s2, b) ∧ s'.1 = s2.1 ∧ w = v_join (gop_c (c s1.1)) a b) := by
  unfold g_pos at h
  by_cases h1 : c s.1 = 140
  · rw [if_pos h1] at h
    left
    rcases inner with _ | f
    · cases h
    · obtain ⟨s1, w1, h2, h3⟩ := g_bd_r h
      split at h3
      · rename_i h4
        cases h3
        exact ⟨h1, f, s1, rfl, h2, h4, rfl⟩
      · cases h3
  · rw [if_neg h1] at h
    right
    obtain ⟨s1, a, h2, h3⟩ := g_bd_r h
    by_cases h4 : gop_c (c s1.1) = 0
    · rw [if_pos h4] at h3; cases h3
    · rw [if_neg h4] at h3
      obtain ⟨s2, b, h5, h6⟩ := g_bd_r h3
      cases h6
      exact ⟨h1, s1, a, s2, b, h2, h4, h5, rfl, rfl⟩

set_option maxRecDepth 100000 in
set_option maxHeartbeats 4000000 in
theorem c_X11_pos_b {d sz : Nat} {S : zSh} {M : zMem} (hL : LY S sz) {B n : Nat} {c v : Nat → Int} (hM : EVM M B n c v) (hT : TK c v n) {live b : Int} (hlv : live = 0 ∨ live = 1) (hb : b = 0 ∨ b = 1) {o : Bool} {s s1 : gS} {w : gV} (hs : s.1 < n) (hs1 : s1.1 < n) (h140 : c s.1 = 140) (hf : zX (d + 2) 0 0 mX11_testOf [zn 55, zi live] sz S (ev M ((B + (s.1 + 1) : Nat) : Int) b) (zI sz S (fun r M' => EVT M B live b (w (mE M o)) s1.1 r M'))) : zX (d + 3) 0 0 mX11_positiveOf [zn 55, zi live] sz S (ev M ((B + s.1 : Nat) : Int) b) (zI sz S (fun r M' => EVT M B live b (w (mE M o)) (s1.1 + 1) r M')) := by
  have hM2 := hM.2.1
  have hn := hT.1
  refine zX_of pl_RX11 [some (zn 55), some (zi live), none, none, none, none, none] 5 rfl rfl ?_
  refine x_aload_n 1 rfl dX11_positiveOf_0 0 rfl rfl ?_
  refine x_bipush 3 rfl dX11_positiveOf_1 (by decide) ?_
  refine x_cSi 6 rfl lX11_211 dX11_positiveOf_3 (c_X11_signOf (by decide)) rfl rfl (Nat.le_of_ble_eq_true rfl) (fun r M1 hr1 => ?_)
  obtain ⟨rfl, hM1⟩ := hr1
  rw [hM1]
  refine x_cVi 9 rfl lX11_273 dX11_positiveOf_6 (lyl55 hL) (lys55 hL) (c_X11_passes0 hL hM hT (Nat.le_of_lt hs)) rfl rfl (Nat.le_of_ble_eq_true rfl) (fun r M1 hr1 => ?_)
  rcases hr1 with ⟨hx, rfl, hM1⟩ | ⟨hx, rfl, hM1⟩
  · rw [hM1]
    refine x_if_eq 12 30 rfl dX11_positiveOf_9 (by decide) (fun c9 => ?_) (fun c9 => ?_)
    · exfalso; omega
    · refine x_aload_n 13 rfl dX11_positiveOf_12 0 rfl rfl ?_
      refine x_iload_n 14 rfl dX11_positiveOf_13 1 rfl rfl ?_
      refine x_cVi 17 rfl lX11_300 dX11_positiveOf_14 (lyl55 hL) (lys55 hL) hf rfl rfl (Nat.le_of_ble_eq_true rfl) (fun r M2 hr2 => ?_)
      rcases hr2 with ⟨e1, e2, x2, e3, rfl, e5, hM2⟩ | ⟨e1, e2, e3, e4, hM2⟩ | ⟨e1, e4, hM2⟩
      · rw [hM2]
        refine y_istore_n 18 rfl dX11_positiveOf_17 rfl rfl (ls' := [_, _, _, _, _, _, _]) rfl (by decide) ?_
        refine x_aload_n 19 rfl dX11_positiveOf_18 0 rfl rfl ?_
        refine x_dupr 20 rfl dX11_positiveOf_19 ?_
        refine x_geti 23 rfl fX11_249 dX11_positiveOf_20 (lyl55 hL) (lys55 hL) (by decide) ?_
        try simp (disch := omega) only [z_up_ne, z_up_nk, z_up_eq, z_mup_ne, z_mup_eq, Int.reduceToNat, Int.toNat_natCast, ev_22, ev_24, ev_o, ev_ne, ev_u22, ev_u24]
        refine x_iconst 24 rfl dX11_positiveOf_23 (by decide) ?_
        refine y_iadd 25 rfl dX11_positiveOf_24 (by omega) ?_
        refine x_puti 28 rfl fX11_249 dX11_positiveOf_25 (lyl55 hL) (lys55 hL) (by decide) ?_
        try simp only [ev_22, ev_24, ev_o, ev_ne, ev_u22, ev_u24]
        rw [ev_ad]
        refine x_iload_n 29 rfl dX11_positiveOf_28 2 rfl rfl ?_
        refine x_retz dX11_positiveOf_29 rfl (by omega) ?_
        left; exact ⟨e1, e2, _, e3, rfl, e5, rfl⟩
      · rw [hM2]
        refine y_istore_n 18 rfl dX11_positiveOf_17 rfl rfl (ls' := [_, _, _, _, _, _, _]) rfl (by decide) ?_
        refine x_aload_n 19 rfl dX11_positiveOf_18 0 rfl rfl ?_
        refine x_dupr 20 rfl dX11_positiveOf_19 ?_
        refine x_geti 23 rfl fX11_249 dX11_positiveOf_20 (lyl55 hL) (lys55 hL) (by decide) ?_
        try simp (disch := omega) only [z_up_ne, z_up_nk, z_up_eq, z_mup_ne, z_mup_eq, Int.reduceToNat, Int.toNat_natCast, ev_22, ev_24, ev_o, ev_ne, ev_u22, ev_u24]
        refine x_iconst 24 rfl dX11_positiveOf_23 (by decide) ?_
        refine y_iadd 25 rfl dX11_positiveOf_24 (by omega) ?_
        refine x_puti 28 rfl fX11_249 dX11_positiveOf_25 (lyl55 hL) (lys55 hL) (by decide) ?_
        try simp only [ev_22, ev_24, ev_o, ev_ne, ev_u22, ev_u24]
        rw [ev_ad]
        refine x_iload_n 29 rfl dX11_positiveOf_28 2 rfl rfl ?_
        refine x_retz dX11_positiveOf_29 rfl (by omega) ?_
        right; left; exact ⟨e1, e2, e3, e4, rfl⟩
      · rw [hM2]
        refine y_istore_n 18 rfl dX11_positiveOf_17 rfl rfl (ls' := [_, _, _, _, _, _, _]) rfl (by decide) ?_
        refine x_aload_n 19 rfl dX11_positiveOf_18 0 rfl rfl ?_
        refine x_dupr 20 rfl dX11_positiveOf_19 ?_
        refine x_geti 23 rfl fX11_249 dX11_positiveOf_20 (lyl55 hL) (lys55 hL) (by decide) ?_
        try simp (disch := omega) only [z_up_ne, z_up_nk, z_up_eq, z_mup_ne, z_mup_eq, Int.reduceToNat, Int.toNat_natCast, ev_22, ev_24, ev_o, ev_ne, ev_u22, ev_u24]
        refine x_iconst 24 rfl dX11_positiveOf_23 (by decide) ?_
        refine y_iadd 25 rfl dX11_positiveOf_24 (by omega) ?_
        refine x_puti 28 rfl fX11_249 dX11_positiveOf_25 (lyl55 hL) (lys55 hL) (by decide) ?_
        try simp only [ev_22, ev_24, ev_o, ev_ne, ev_u22, ev_u24]
        rw [ev_ad]
        refine x_iload_n 29 rfl dX11_positiveOf_28 2 rfl rfl ?_
        refine x_retz dX11_positiveOf_29 rfl (by omega) ?_
        right; right; exact ⟨e1, e4, rfl⟩
  · exfalso; omega

set_option maxRecDepth 100000 in
set_option maxHeartbeats 4000000 in
theorem c_X11_pos_c {d sz : Nat} {S : zSh} {M : zMem} (hL : LY S sz) {B n : Nat} {c v : Nat → Int} (hM : EVM M B n c v) (hT : TK c v n) {live b : Int} (hlv : live = 0 ∨ live = 1) (hb : b = 0 ∨ b = 1) {o : Bool} {D : Nat} {s s1 s2 : gS} {wa wb : gV} (hA : gA n s) (h140 : c s.1 ≠ 140) (hB : gA n s1) (hB2 : gA n (g_ad s1)) (hq1 : g_sumD c v o D s = .inr (s1, wa)) (hop : gop_c (c s1.1) ≠ 0) (hq2 : g_sumD c v o D (g_ad s1) = .inr (s2, wb)) (hsum : ∀ (s1 s2 : gS) (w1 : gV) (b1 : Int), (b1 = 0 ∨ b1 = 1) → gA n s1 → g_sumD c v o D s1 = .inr (s2, w1) → zX (d + 2) 0 0 mX11_sumOf [zn 55, zi live] sz S (ev M ((B + s1.1 : Nat) : Int) b1) (zJ sz S (fun r M' => EVO M B live b1 (w1 (mE M o)) s2.1 r M')))  : zX (d + 3) 0 0 mX11_positiveOf [zn 55, zi live] sz S (ev M ((B + s.1 : Nat) : Int) b) (zI sz S (fun r M' => EVT M B live b (v_join (gop_c (c s1.1)) wa wb (mE M o)) s2.1 r M')) := by
  have hM2 := hM.2.1
  have hn := hT.1
  have hA1 := hA.1
  have hB1 := hB.1
  have h3 : c s1.1 = 160 ∨ c s1.1 = 162 ∨ c s1.1 = 161 := by
    unfold gop_c at hop; split at hop; omega; split at hop; omega; split at hop; omega; exact absurd rfl hop
  refine zX_of pl_RX11 [some (zn 55), some (zi live), none, none, none, none, none] 5 rfl rfl ?_
  refine x_aload_n 1 rfl dX11_positiveOf_0 0 rfl rfl ?_
  refine x_bipush 3 rfl dX11_positiveOf_1 (by decide) ?_
  refine x_cSi 6 rfl lX11_211 dX11_positiveOf_3 (c_X11_signOf (by decide)) rfl rfl (Nat.le_of_ble_eq_true rfl) (fun r M1 hr1 => ?_)
  obtain ⟨rfl, hM1⟩ := hr1
  rw [hM1]
  refine x_cVi 9 rfl lX11_273 dX11_positiveOf_6 (lyl55 hL) (lys55 hL) (c_X11_passes0 hL hM hT hA1) rfl rfl (Nat.le_of_ble_eq_true rfl) (fun r M1 hr1 => ?_)
  rcases hr1 with ⟨hx, rfl, hM1⟩ | ⟨hx, rfl, hM1⟩
  · exfalso; omega
  · rw [hM1]
    refine x_if_eq 12 30 rfl dX11_positiveOf_9 (by decide) (fun c9 => ?_) (fun c9 => ?_)
    · refine x_aload_n 31 rfl dX11_positiveOf_30 0 rfl rfl ?_
      refine x_iload_n 32 rfl dX11_positiveOf_31 1 rfl rfl ?_
      refine x_cVj 35 rfl lX11_276 dX11_positiveOf_32 (lyl55 hL) (lys55 hL) (hsum s s1 wa b hb hA hq1) rfl rfl (Nat.le_of_ble_eq_true rfl) (fun r2 M2 hr2 => ?_)
      rcases hr2 with ⟨e1, e2, x2, e3, rfl, e5, hM2⟩ | ⟨e1, e2, e3, rfl, hM2⟩ | ⟨e1, rfl, hM2⟩
      · rw [hM2]
        refine y_lstore_n 36 rfl dX11_positiveOf_35 rfl rfl (ls' := [_, _, _, _, _, _, _]) rfl (by decide) ?_
        refine x_aload_n 37 rfl dX11_positiveOf_36 0 rfl rfl ?_
        refine x_aload_n 38 rfl dX11_positiveOf_37 0 rfl rfl ?_
        refine x_geti 41 rfl fX11_249 dX11_positiveOf_38 (lyl55 hL) (lys55 hL) (by decide) ?_
        try simp (disch := omega) only [z_up_ne, z_up_nk, z_up_eq, z_mup_ne, z_mup_eq, Int.reduceToNat, Int.toNat_natCast, ev_22, ev_24, ev_o, ev_ne, ev_u22, ev_u24]
        refine x_cVi 44 rfl lX11_252 dX11_positiveOf_41 (lyl55 hL) (lys55 hL) (c_X11_codeAt hL hM hT hB1) rfl rfl (Nat.le_of_ble_eq_true rfl) (fun r M1 hr1 => ?_)
        obtain ⟨rfl, hM1⟩ := hr1
        rw [hM1]
        refine y_istore 46 rfl dX11_positiveOf_44 rfl (ls' := [_, _, _, _, _, _, _]) rfl (by decide) ?_
        refine x_aload_n 47 rfl dX11_positiveOf_46 0 rfl rfl ?_
        refine x_dupr 48 rfl dX11_positiveOf_47 ?_
        refine x_geti 51 rfl fX11_249 dX11_positiveOf_48 (lyl55 hL) (lys55 hL) (by decide) ?_
        try simp (disch := omega) only [z_up_ne, z_up_nk, z_up_eq, z_mup_ne, z_mup_eq, Int.reduceToNat, Int.toNat_natCast, ev_22, ev_24, ev_o, ev_ne, ev_u22, ev_u24]
        refine x_iconst 52 rfl dX11_positiveOf_51 (by decide) ?_
        refine y_iadd 53 rfl dX11_positiveOf_52 (by omega) ?_
        refine x_puti 56 rfl fX11_249 dX11_positiveOf_53 (lyl55 hL) (lys55 hL) (by decide) ?_
        try simp only [ev_22, ev_24, ev_o, ev_ne, ev_u22, ev_u24]
        rw [ev_ad]
        refine z_mem (M' := ev M ((B + (g_ad s1).1 : Nat) : Int) _) rfl ?_
        refine x_aload_n 57 rfl dX11_positiveOf_56 0 rfl rfl ?_
        refine x_iload_n 58 rfl dX11_positiveOf_57 1 rfl rfl ?_
        refine x_cVj 61 rfl lX11_276 dX11_positiveOf_58 (lyl55 hL) (lys55 hL) (hsum (g_ad s1) s2 wb _ (Or.inl rfl) hB2 hq2) rfl rfl (Nat.le_of_ble_eq_true rfl) (fun r4 M4 hr4 => ?_)
        rcases hr4 with ⟨g1, g2, x4, g3, rfl, g5, hM4⟩ | ⟨g1, g2, g3, rfl, hM4⟩ | ⟨g1, rfl, hM4⟩
        · rw [hM4]
          refine y_lstore 63 rfl dX11_positiveOf_61 rfl (ls' := [_, _, _, _, _, _, _]) rfl (by decide) ?_
          refine x_iload_n 64 rfl dX11_positiveOf_63 1 rfl rfl ?_
          refine x_if_eq 67 125 rfl dX11_positiveOf_64 (by decide) (fun c64 => ?_) (fun c64 => ?_)
          · exfalso; omega
          · refine x_aload_n 68 rfl dX11_positiveOf_67 0 rfl rfl ?_
            refine x_getz 71 rfl fX11_259 dX11_positiveOf_68 (lyl55 hL) (lys55 hL) (by decide) ?_
            try simp (disch := omega) only [z_up_ne, z_up_nk, z_up_eq, z_mup_ne, z_mup_eq, Int.reduceToNat, Int.toNat_natCast, ev_22, ev_24, ev_o, ev_ne, ev_u22, ev_u24]
            refine x_if_ne 74 125 rfl dX11_positiveOf_71 (by decide) (fun c71 => ?_) (fun c71 => ?_)
            · exfalso; omega
            · refine x_iload 76 rfl dX11_positiveOf_74 rfl ?_
              refine x_bipush 78 rfl dX11_positiveOf_76 (by decide) ?_
              refine x_cSi 81 rfl lX11_211 dX11_positiveOf_78 (c_X11_signOf (by decide)) rfl rfl (Nat.le_of_ble_eq_true rfl) (fun r M1 hr1 => ?_)
              obtain ⟨rfl, hM1⟩ := hr1
              rw [hM1]
              refine x_icmp_ne 84 94 rfl dX11_positiveOf_81 (by decide) (fun c81 => ?_) (fun c81 => ?_)
              · refine x_iload 96 rfl dX11_positiveOf_94 rfl ?_
                refine x_bipush 98 rfl dX11_positiveOf_96 (by decide) ?_
                refine x_cSi 101 rfl lX11_211 dX11_positiveOf_98 (c_X11_signOf (by decide)) rfl rfl (Nat.le_of_ble_eq_true rfl) (fun r M1 hr1 => ?_)
                obtain ⟨rfl, hM1⟩ := hr1
                rw [hM1]
                refine x_icmp_ne 104 114 rfl dX11_positiveOf_101 (by decide) (fun c101 => ?_) (fun c101 => ?_)
                · refine x_lload_n 115 rfl dX11_positiveOf_114 2 rfl rfl ?_
                  refine x_lload 117 rfl dX11_positiveOf_115 rfl ?_
                  refine x_lcmp 118 rfl dX11_positiveOf_117 ?_
                  refine x_if_ne 121 125 rfl dX11_positiveOf_118 (by decide) (fun c118 => ?_) (fun c118 => ?_)
                  · rw [zcmp_eq] at c118
                    refine x_iconst 126 rfl dX11_positiveOf_125 (by decide) ?_
                    refine x_retz dX11_positiveOf_126 rfl (by omega) ?_
                    left; refine ⟨e1, e2, 0, ?_, rfl, by decide, rfl⟩
                    rw [show gop_c (c s1.1) = 10 by rw [show c s1.1 = 161 by omega]; decide]
                    simp only [v_join, e3, g3]
                    rw [show zjoin 10 r2 r4 = 0 by unfold zjoin; simp; omega]
                    rfl
                  · have c118 := zcmp_eq.mp (show zcmp r2 r4 = 0 by omega)
                    refine x_iconst 122 rfl dX11_positiveOf_121 (by decide) ?_
                    refine x_goto 126 dX11_positiveOf_122 (by decide) ?_
                    refine x_retz dX11_positiveOf_126 rfl (by omega) ?_
                    left; refine ⟨e1, e2, 1, ?_, rfl, by decide, rfl⟩
                    rw [show gop_c (c s1.1) = 10 by rw [show c s1.1 = 161 by omega]; decide]
                    simp only [v_join, e3, g3]
                    rw [show zjoin 10 r2 r4 = 1 by unfold zjoin; simp; omega]
                    rfl
                · refine x_lload_n 105 rfl dX11_positiveOf_104 2 rfl rfl ?_
                  refine x_lload 107 rfl dX11_positiveOf_105 rfl ?_
                  refine x_lcmp 108 rfl dX11_positiveOf_107 ?_
                  refine x_if_le 111 125 rfl dX11_positiveOf_108 (by decide) (fun c108 => ?_) (fun c108 => ?_)
                  · rw [zcmp_le] at c108
                    refine x_iconst 126 rfl dX11_positiveOf_125 (by decide) ?_
                    refine x_retz dX11_positiveOf_126 rfl (by omega) ?_
                    left; refine ⟨e1, e2, 0, ?_, rfl, by decide, rfl⟩
                    rw [show gop_c (c s1.1) = 9 by rw [show c s1.1 = 162 by omega]; decide]
                    simp only [v_join, e3, g3]
                    rw [show zjoin 9 r2 r4 = 0 by unfold zjoin; simp; omega]
                    rfl
                  · rw [zcmp_le] at c108
                    refine x_goto 121 dX11_positiveOf_111 (by decide) ?_
                    refine x_iconst 122 rfl dX11_positiveOf_121 (by decide) ?_
                    refine x_goto 126 dX11_positiveOf_122 (by decide) ?_
                    refine x_retz dX11_positiveOf_126 rfl (by omega) ?_
                    left; refine ⟨e1, e2, 1, ?_, rfl, by decide, rfl⟩
                    rw [show gop_c (c s1.1) = 9 by rw [show c s1.1 = 162 by omega]; decide]
                    simp only [v_join, e3, g3]
                    rw [show zjoin 9 r2 r4 = 1 by unfold zjoin; simp; omega]
                    rfl
              · refine x_lload_n 85 rfl dX11_positiveOf_84 2 rfl rfl ?_
                refine x_lload 87 rfl dX11_positiveOf_85 rfl ?_
                refine x_lcmp 88 rfl dX11_positiveOf_87 ?_
                refine x_if_ge 91 125 rfl dX11_positiveOf_88 (by decide) (fun c88 => ?_) (fun c88 => ?_)
                · rw [zcmp_ge] at c88
                  refine x_iconst 126 rfl dX11_positiveOf_125 (by decide) ?_
                  refine x_retz dX11_positiveOf_126 rfl (by omega) ?_
                  left; refine ⟨e1, e2, 0, ?_, rfl, by decide, rfl⟩
                  rw [show gop_c (c s1.1) = 8 by rw [show c s1.1 = 160 by omega]; decide]
                  simp only [v_join, e3, g3]
                  rw [show zjoin 8 r2 r4 = 0 by unfold zjoin; simp; omega]
                  rfl
                · rw [zcmp_ge] at c88
                  refine x_goto 121 dX11_positiveOf_91 (by decide) ?_
                  refine x_iconst 122 rfl dX11_positiveOf_121 (by decide) ?_
                  refine x_goto 126 dX11_positiveOf_122 (by decide) ?_
                  refine x_retz dX11_positiveOf_126 rfl (by omega) ?_
                  left; refine ⟨e1, e2, 1, ?_, rfl, by decide, rfl⟩
                  rw [show gop_c (c s1.1) = 8 by rw [show c s1.1 = 160 by omega]; decide]
                  simp only [v_join, e3, g3]
                  rw [show zjoin 8 r2 r4 = 1 by unfold zjoin; simp; omega]
                  rfl
        · rw [hM4]
          refine y_lstore 63 rfl dX11_positiveOf_61 rfl (ls' := [_, _, _, _, _, _, _]) rfl (by decide) ?_
          refine x_iload_n 64 rfl dX11_positiveOf_63 1 rfl rfl ?_
          refine x_if_eq 67 125 rfl dX11_positiveOf_64 (by decide) (fun c64 => ?_) (fun c64 => ?_)
          · exfalso; omega
          · refine x_aload_n 68 rfl dX11_positiveOf_67 0 rfl rfl ?_
            refine x_getz 71 rfl fX11_259 dX11_positiveOf_68 (lyl55 hL) (lys55 hL) (by decide) ?_
            try simp (disch := omega) only [z_up_ne, z_up_nk, z_up_eq, z_mup_ne, z_mup_eq, Int.reduceToNat, Int.toNat_natCast, ev_22, ev_24, ev_o, ev_ne, ev_u22, ev_u24]
            refine x_if_ne 74 125 rfl dX11_positiveOf_71 (by decide) (fun c71 => ?_) (fun c71 => ?_)
            · refine x_iconst 126 rfl dX11_positiveOf_125 (by decide) ?_
              refine x_retz dX11_positiveOf_126 rfl (by omega) ?_
              right; left; exact ⟨e1, e2, by simp [v_join, e3, g3], Or.inl rfl, rfl⟩
            · exfalso; omega
        · exfalso; omega
      · rw [hM2]
        refine y_lstore_n 36 rfl dX11_positiveOf_35 rfl rfl (ls' := [_, _, _, _, _, _, _]) rfl (by decide) ?_
        refine x_aload_n 37 rfl dX11_positiveOf_36 0 rfl rfl ?_
        refine x_aload_n 38 rfl dX11_positiveOf_37 0 rfl rfl ?_
        refine x_geti 41 rfl fX11_249 dX11_positiveOf_38 (lyl55 hL) (lys55 hL) (by decide) ?_
        try simp (disch := omega) only [z_up_ne, z_up_nk, z_up_eq, z_mup_ne, z_mup_eq, Int.reduceToNat, Int.toNat_natCast, ev_22, ev_24, ev_o, ev_ne, ev_u22, ev_u24]
        refine x_cVi 44 rfl lX11_252 dX11_positiveOf_41 (lyl55 hL) (lys55 hL) (c_X11_codeAt hL hM hT hB1) rfl rfl (Nat.le_of_ble_eq_true rfl) (fun r M1 hr1 => ?_)
        obtain ⟨rfl, hM1⟩ := hr1
        rw [hM1]
        refine y_istore 46 rfl dX11_positiveOf_44 rfl (ls' := [_, _, _, _, _, _, _]) rfl (by decide) ?_
        refine x_aload_n 47 rfl dX11_positiveOf_46 0 rfl rfl ?_
        refine x_dupr 48 rfl dX11_positiveOf_47 ?_
        refine x_geti 51 rfl fX11_249 dX11_positiveOf_48 (lyl55 hL) (lys55 hL) (by decide) ?_
        try simp (disch := omega) only [z_up_ne, z_up_nk, z_up_eq, z_mup_ne, z_mup_eq, Int.reduceToNat, Int.toNat_natCast, ev_22, ev_24, ev_o, ev_ne, ev_u22, ev_u24]
        refine x_iconst 52 rfl dX11_positiveOf_51 (by decide) ?_
        refine y_iadd 53 rfl dX11_positiveOf_52 (by omega) ?_
        refine x_puti 56 rfl fX11_249 dX11_positiveOf_53 (lyl55 hL) (lys55 hL) (by decide) ?_
        try simp only [ev_22, ev_24, ev_o, ev_ne, ev_u22, ev_u24]
        rw [ev_ad]
        refine z_mem (M' := ev M ((B + (g_ad s1).1 : Nat) : Int) _) rfl ?_
        refine x_aload_n 57 rfl dX11_positiveOf_56 0 rfl rfl ?_
        refine x_iload_n 58 rfl dX11_positiveOf_57 1 rfl rfl ?_
        refine x_cVj 61 rfl lX11_276 dX11_positiveOf_58 (lyl55 hL) (lys55 hL) (hsum (g_ad s1) s2 wb _ (Or.inr rfl) hB2 hq2) rfl rfl (Nat.le_of_ble_eq_true rfl) (fun r4 M4 hr4 => ?_)
        rcases hr4 with ⟨g1, g2, x4, g3, rfl, g5, hM4⟩ | ⟨g1, g2, g3, rfl, hM4⟩ | ⟨g1, rfl, hM4⟩
        · exfalso; omega
        · exfalso; omega
        · rw [hM4]
          refine y_lstore 63 rfl dX11_positiveOf_61 rfl (ls' := [_, _, _, _, _, _, _]) rfl (by decide) ?_
          refine x_iload_n 64 rfl dX11_positiveOf_63 1 rfl rfl ?_
          refine x_if_eq 67 125 rfl dX11_positiveOf_64 (by decide) (fun c64 => ?_) (fun c64 => ?_)
          · exfalso; omega
          · refine x_aload_n 68 rfl dX11_positiveOf_67 0 rfl rfl ?_
            refine x_getz 71 rfl fX11_259 dX11_positiveOf_68 (lyl55 hL) (lys55 hL) (by decide) ?_
            try simp (disch := omega) only [z_up_ne, z_up_nk, z_up_eq, z_mup_ne, z_mup_eq, Int.reduceToNat, Int.toNat_natCast, ev_22, ev_24, ev_o, ev_ne, ev_u22, ev_u24]
            refine x_if_ne 74 125 rfl dX11_positiveOf_71 (by decide) (fun c71 => ?_) (fun c71 => ?_)
            · refine x_iconst 126 rfl dX11_positiveOf_125 (by decide) ?_
              refine x_retz dX11_positiveOf_126 rfl (by omega) ?_
              right; left; exact ⟨e1, e2, by simp [v_join, e3], Or.inl rfl, rfl⟩
            · exfalso; omega
      · rw [hM2]
        refine y_lstore_n 36 rfl dX11_positiveOf_35 rfl rfl (ls' := [_, _, _, _, _, _, _]) rfl (by decide) ?_
        refine x_aload_n 37 rfl dX11_positiveOf_36 0 rfl rfl ?_
        refine x_aload_n 38 rfl dX11_positiveOf_37 0 rfl rfl ?_
        refine x_geti 41 rfl fX11_249 dX11_positiveOf_38 (lyl55 hL) (lys55 hL) (by decide) ?_
        try simp (disch := omega) only [z_up_ne, z_up_nk, z_up_eq, z_mup_ne, z_mup_eq, Int.reduceToNat, Int.toNat_natCast, ev_22, ev_24, ev_o, ev_ne, ev_u22, ev_u24]
        refine x_cVi 44 rfl lX11_252 dX11_positiveOf_41 (lyl55 hL) (lys55 hL) (c_X11_codeAt hL hM hT hB1) rfl rfl (Nat.le_of_ble_eq_true rfl) (fun r M1 hr1 => ?_)
        obtain ⟨rfl, hM1⟩ := hr1
        rw [hM1]
        refine y_istore 46 rfl dX11_positiveOf_44 rfl (ls' := [_, _, _, _, _, _, _]) rfl (by decide) ?_
        refine x_aload_n 47 rfl dX11_positiveOf_46 0 rfl rfl ?_
        refine x_dupr 48 rfl dX11_positiveOf_47 ?_
        refine x_geti 51 rfl fX11_249 dX11_positiveOf_48 (lyl55 hL) (lys55 hL) (by decide) ?_
        try simp (disch := omega) only [z_up_ne, z_up_nk, z_up_eq, z_mup_ne, z_mup_eq, Int.reduceToNat, Int.toNat_natCast, ev_22, ev_24, ev_o, ev_ne, ev_u22, ev_u24]
        refine x_iconst 52 rfl dX11_positiveOf_51 (by decide) ?_
        refine y_iadd 53 rfl dX11_positiveOf_52 (by omega) ?_
        refine x_puti 56 rfl fX11_249 dX11_positiveOf_53 (lyl55 hL) (lys55 hL) (by decide) ?_
        try simp only [ev_22, ev_24, ev_o, ev_ne, ev_u22, ev_u24]
        rw [ev_ad]
        refine z_mem (M' := ev M ((B + (g_ad s1).1 : Nat) : Int) _) rfl ?_
        refine x_aload_n 57 rfl dX11_positiveOf_56 0 rfl rfl ?_
        refine x_iload_n 58 rfl dX11_positiveOf_57 1 rfl rfl ?_
        refine x_cVj 61 rfl lX11_276 dX11_positiveOf_58 (lyl55 hL) (lys55 hL) (hsum (g_ad s1) s2 wb _ hb hB2 hq2) rfl rfl (Nat.le_of_ble_eq_true rfl) (fun r4 M4 hr4 => ?_)
        rcases hr4 with ⟨g1, g2, x4, g3, rfl, g5, hM4⟩ | ⟨g1, g2, g3, rfl, hM4⟩ | ⟨g1, rfl, hM4⟩
        · exfalso; omega
        · exfalso; omega
        · rw [hM4]
          refine y_lstore 63 rfl dX11_positiveOf_61 rfl (ls' := [_, _, _, _, _, _, _]) rfl (by decide) ?_
          refine x_iload_n 64 rfl dX11_positiveOf_63 1 rfl rfl ?_
          refine x_if_eq 67 125 rfl dX11_positiveOf_64 (by decide) (fun c64 => ?_) (fun c64 => ?_)
          · refine x_iconst 126 rfl dX11_positiveOf_125 (by decide) ?_
            refine x_retz dX11_positiveOf_126 rfl (by omega) ?_
            right; right; exact ⟨e1, Or.inl rfl, rfl⟩
          · refine x_aload_n 68 rfl dX11_positiveOf_67 0 rfl rfl ?_
            refine x_getz 71 rfl fX11_259 dX11_positiveOf_68 (lyl55 hL) (lys55 hL) (by decide) ?_
            try simp (disch := omega) only [z_up_ne, z_up_nk, z_up_eq, z_mup_ne, z_mup_eq, Int.reduceToNat, Int.toNat_natCast, ev_22, ev_24, ev_o, ev_ne, ev_u22, ev_u24]
            refine x_if_ne 74 125 rfl dX11_positiveOf_71 (by decide) (fun c71 => ?_) (fun c71 => ?_)
            · refine x_iconst 126 rfl dX11_positiveOf_125 (by decide) ?_
              refine x_retz dX11_positiveOf_126 rfl (by omega) ?_
              right; right; exact ⟨e1, Or.inl rfl, rfl⟩
            · exfalso; omega
    · exfalso; omega

theorem c_X11_positiveOf {d sz : Nat} {S : zSh} {M : zMem} (hL : LY S sz) {B n : Nat} {c v : Nat → Int} (hM : EVM M B n c v) (hT : TK c v n) {live b : Int} (hlv : live = 0 ∨ live = 1) (hb : b = 0 ∨ b = 1) {o : Bool} (hO : M 55 25 = (if o = true then 1 else 0)) (hi : KI (M 57)) (hE : mEb M o) {s s' : gS} {w : gV} (hA : gA n s) {inner : Option (gS → gR)} {D : Nat} (htest : ∀ f, inner = some f → gG n f ∧ ∀ (s1 s2 : gS) (w1 : gV) (live1 b1 : Int), (live1 = 0 ∨ live1 = 1) → (b1 = 0 ∨ b1 = 1) → gA n s1 → f s1 = .inr (s2, w1) → zX (d + 4 * D + 5) 0 0 mX11_testOf [zn 55, zi live1] sz S (ev M ((B + s1.1 : Nat) : Int) b1) (zI sz S (fun r M' => EVT M B live1 b1 (w1 (mE M o)) s2.1 r M'))) (hq : g_pos c v o D inner s = .inr (s', w)) : zX (d + 4 * D + 6) 0 0 mX11_positiveOf [zn 55, zi live] sz S (ev M ((B + s.1 : Nat) : Int) b) (zI sz S (fun r M' => EVT M B live b (w (mE M o)) s'.1 r M')) := by
  have hA1 := hA.1
  rcases g_pos_inv hq with ⟨h1, f, s1, h2, h3, h4, rfl⟩ | ⟨h1, s1, a, s2, b2, h2, h3, h4, h5, rfl⟩
  · have ht := hT.lt hA1 (show c s.1 ≠ 0 by omega)
    have hg := htest f h2
    have hA2 := gW_A hA (gW_ad hA ht)
    have hw := (hg.1 _ hA2).2 _ _ h3
    have h9 := hg.2 (g_ad s) s1 w live b hlv hb hA2 h3
    have e1 : (g_ad s).1 = s.1 + 1 := rfl
    have e2 : (g_ad s1).1 = s1.1 + 1 := rfl
    rw [e1] at h9
    rw [e2]
    exact c_X11_pos_b hL hM hT hlv hb ht (hT.lt hw.2.1 (by omega)) h1 h9
  · have hw := (gG_sumD (o := o) hT D s hA).2 _ _ h2
    have hB := gW_A hA hw
    have hB2 := gW_A hB (gW_ad hB (hT.lt hB.1 (by rcases gop_c_in (c s1.1) with h | h; exact absurd h h3; exact h.2)))
    rw [h5]
    refine c_X11_pos_c hL hM hT hlv hb hA h1 hB hB2 h2 h3 h4 (fun s3 s4 w3 b3 hb3 hA3 hq3 => ?_)
    have h9 := c_X11_sumOfD hL hM hT hO hi hE D (d := d + D) hlv hb3 hA3 hq3
    rw [show d + D + 3 * D + 5 = d + 4 * D + 3 + 2 by omega] at h9
    exact h9

theorem EVT_neg {M M' : zMem} {B t : Nat} {live b r nb r' : Int} {w1 : gV} {e : Int → Int → Int} {q : Bool} (hlv : live = 0 ∨ live = 1) (hnb : nb = (if q = true then 1 else 0)) (hr' : r' = (if r = nb then 0 else 1)) (h : EVT M B live b (w1 e) t r M') : EVT M B live b ((if q = true then v_not w1 else w1) e) t r' M' := by
  rcases h with ⟨e1, e2, x, e3, rfl, e5, hM⟩ | ⟨e1, e2, e3, e4, hM⟩ | ⟨e1, e4, hM⟩
  · left
    refine ⟨e1, e2, r', ?_, rfl, by rw [hr']; split <;> omega, hM⟩
    cases q with
    | true =>
      have hn1 : nb = 1 := by rw [hnb]; rfl
      simp only [v_not, e3, if_true]
      rw [hr']
      congr 1
      split <;> omega
    | false =>
      have hn0 : nb = 0 := by rw [hnb]; rfl
      simp only [e3, Bool.false_eq_true, if_false]
      rw [hr']
      congr 1
      split <;> omega
  · right; left
    refine ⟨e1, e2, ?_, by rw [hr']; split <;> omega, hM⟩
    cases q with
    | true => simp [v_not, e3]
    | false => simp [e3]
  · right; right
    exact ⟨e1, by rw [hr']; split <;> omega, hM⟩
theorem g_plain_inv {c v : Nat → Int} {o : Bool} {D : Nat} {inner : Option (gS → gR)} {s s' : gS} {w : gV} {q : Nat × Bool} (hN : g_nots c 401 s.1 false = q) (h : g_plain c v o D inner s = .inr (s', w)) : ∃ s1 w1, g_pos c v o D inner (q.1, s.2) = .inr (s1, w1) ∧ s'.1 = s1.1 ∧ w = (if q.2 = true then v_not w1 else w1) := by
  unfold g_plain g_neg at h
  rw [hN] at h
  obtain ⟨s1, w1, h2, h3⟩ := g_bd_r h
  refine ⟨s1, w1, h2, ?_⟩
  split at h3
  · rename_i h4; cases h3; exact ⟨rfl, by rw [if_pos h4]⟩
  · rename_i h4; cases h3; exact ⟨rfl, by rw [if_neg h4]⟩

set_option maxRecDepth 100000 in
set_option maxHeartbeats 4000000 in
theorem c_X11_plainOf {d sz : Nat} {S : zSh} {M : zMem} (hL : LY S sz) {B n : Nat} {c v : Nat → Int} (hM : EVM M B n c v) (hT : TK c v n) {live b : Int} (hlv : live = 0 ∨ live = 1) (hb : b = 0 ∨ b = 1) {o : Bool} (hO : M 55 25 = (if o = true then 1 else 0)) (hi : KI (M 57)) (hE : mEb M o) {s s' : gS} {w : gV} (hA : gA n s) {inner : Option (gS → gR)} {D : Nat} (htest : ∀ f, inner = some f → gG n f ∧ ∀ (s1 s2 : gS) (w1 : gV) (live1 b1 : Int), (live1 = 0 ∨ live1 = 1) → (b1 = 0 ∨ b1 = 1) → gA n s1 → f s1 = .inr (s2, w1) → zX (d + 4 * D + 5) 0 0 mX11_testOf [zn 55, zi live1] sz S (ev M ((B + s1.1 : Nat) : Int) b1) (zI sz S (fun r M' => EVT M B live1 b1 (w1 (mE M o)) s2.1 r M'))) (hq : g_plain c v o D inner s = .inr (s', w)) : zX (d + 4 * D + 7) 0 0 mX11_plainOf [zn 55, zi live] sz S (ev M ((B + s.1 : Nat) : Int) b) (zI sz S (fun r M' => EVT M B live b (w (mE M o)) s'.1 r M')) := by
  have hM2 := hM.2.1
  have hn := hT.1
  have hA1 := hA.1
  obtain ⟨q, hN⟩ : ∃ q, g_nots c 401 s.1 false = q := ⟨_, rfl⟩
  obtain ⟨s1, w1, hq1, hs1, hw0⟩ := g_plain_inv hN hq
  have hN9 := g_nots_in hT 401 s.1 false hA1
  rw [hN] at hN9
  have hB : gA n (q.1, s.2) := ⟨hN9.2.1, hA.2.1, by have := hA.2.2; show s.2.2.1 ≤ q.1; omega⟩
  have fin : ∀ nb : Int, nb = (if q.2 = true then 1 else 0) → zW mX11_plainOf (d + 4 * D + 7) 0 0 [] (zI sz S (fun r M' => EVT M B live b (w (mE M o)) s'.1 r M')) 24 [some (zn 55), some (zi live), some (zi nb)] [] sz S (ev M ((B + q.1 : Nat) : Int) b) := by
    intro nb hnb
    refine x_aload_n 25 rfl dX11_plainOf_24 0 rfl rfl ?_
    refine x_iload_n 26 rfl dX11_plainOf_25 1 rfl rfl ?_
    refine x_cVi 29 rfl lX11_297 dX11_plainOf_26 (lyl55 hL) (lys55 hL) (c_X11_positiveOf hL hM hT hlv hb hO hi hE hB htest hq1) rfl rfl (Nat.le_of_ble_eq_true rfl) (fun r M2 hr2 => ?_)
    refine x_iload_n 30 rfl dX11_plainOf_29 2 rfl rfl ?_
    refine x_icmp_eq 33 37 rfl dX11_plainOf_30 (by decide) (fun c30 => ?_) (fun c30 => ?_)
    · refine x_iconst 38 rfl dX11_plainOf_37 (by decide) ?_
      refine x_retz dX11_plainOf_38 rfl (by omega) ?_
      rw [hs1, hw0]
      refine EVT_neg hlv hnb ?_ hr2
      first | (rw [if_pos (by omega)]; done) | (rw [if_neg (by omega)]; done)
    · refine x_iconst 34 rfl dX11_plainOf_33 (by decide) ?_
      refine x_goto 38 dX11_plainOf_34 (by decide) ?_
      refine x_retz dX11_plainOf_38 rfl (by omega) ?_
      rw [hs1, hw0]
      refine EVT_neg hlv hnb ?_ hr2
      first | (rw [if_pos (by omega)]; done) | (rw [if_neg (by omega)]; done)
  have loop : ∀ (f t : Nat) (b9 : Bool) (nb : Int), t ≤ n → n < f + t → g_nots c f t b9 = q → nb = (if b9 = true then 1 else 0) → zW mX11_plainOf (d + 4 * D + 7) 0 0 [] (zI sz S (fun r M' => EVT M B live b (w (mE M o)) s'.1 r M')) 2 [some (zn 55), some (zi live), some (zi nb)] [] sz S (ev M ((B + t : Nat) : Int) b) := by
    intro f
    induction f with
    | zero => intro t b9 nb h1 h2; omega
    | succ f ih =>
      intro t b9 nb h1 h2 h3 h4
      refine x_aload_n 3 rfl dX11_plainOf_2 0 rfl rfl ?_
      refine x_bipush 5 rfl dX11_plainOf_3 (by decide) ?_
      refine x_cVi 8 rfl lX11_273 dX11_plainOf_5 (lyl55 hL) (lys55 hL) (c_X11_passes0 hL hM hT h1) rfl rfl (Nat.le_of_ble_eq_true rfl) (fun r M1 hr1 => ?_)
      rcases hr1 with ⟨hx, rfl, hM1⟩ | ⟨hx, rfl, hM1⟩
      · rw [hM1]
        simp only [g_nots] at h3
        rw [if_pos hx] at h3
        have h5 := hT.lt h1 (by omega)
        refine x_if_eq 11 24 rfl dX11_plainOf_8 (by decide) (fun c8 => ?_) (fun c8 => ?_)
        · exfalso; omega
        · refine x_iload_n 12 rfl dX11_plainOf_11 2 rfl rfl ?_
          refine x_if_ne 15 19 rfl dX11_plainOf_12 (by decide) (fun c12 => ?_) (fun c12 => ?_)
          · refine x_iconst 20 rfl dX11_plainOf_19 (by decide) ?_
            refine y_istore_n 21 rfl dX11_plainOf_20 rfl rfl (ls' := [_, _, _]) rfl (by decide) ?_
            refine x_goto 2 dX11_plainOf_21 (by decide) ?_
            exact ih (t + 1) (!b9) _ h5 (by omega) h3 (by cases b9 with | true => (first | rfl | (simp at h4; omega)) | false => (first | rfl | (simp at h4; omega)))
          · refine x_iconst 16 rfl dX11_plainOf_15 (by decide) ?_
            refine x_goto 20 dX11_plainOf_16 (by decide) ?_
            refine y_istore_n 21 rfl dX11_plainOf_20 rfl rfl (ls' := [_, _, _]) rfl (by decide) ?_
            refine x_goto 2 dX11_plainOf_21 (by decide) ?_
            exact ih (t + 1) (!b9) _ h5 (by omega) h3 (by cases b9 with | true => (first | rfl | (simp at h4; omega)) | false => (first | rfl | (simp at h4; omega)))
      · rw [hM1]
        simp only [g_nots] at h3
        rw [if_neg hx] at h3
        refine x_if_eq 11 24 rfl dX11_plainOf_8 (by decide) (fun c8 => ?_) (fun c8 => ?_)
        · rw [← h3] at fin
          exact fin nb h4
        · exfalso; omega
  refine zX_of pl_RX11 [some (zn 55), some (zi live), none] 1 rfl rfl ?_
  refine x_iconst 1 rfl dX11_plainOf_0 (by decide) ?_
  refine y_istore_n 2 rfl dX11_plainOf_1 rfl rfl (ls' := [_, _, _]) rfl (by decide) ?_
  exact loop 401 s.1 false 0 hA1 (by omega) hN rfl

theorem v_short_12 {a b : gV} {e : Int → Int → Int} {x : Int} (h : a e = some x) : v_short 12 a b e = if x = 1 then some x else b e := by simp [v_short, h]
theorem v_short_13 {a b : gV} {e : Int → Int → Int} {x : Int} (h : a e = some x) : v_short 13 a b e = if x = 0 then some x else b e := by simp [v_short, h]
theorem g_both_A {c v : Nat → Int} {n : Nat} {o : Bool} {D : Nat} {inner : Option (gS → gR)} (h : ∀ f, inner = some f → gG n f ∧ True) : ∀ f, inner = some f → gG n f := fun f h1 => (h f h1).1

set_option maxRecDepth 100000 in
set_option maxHeartbeats 4000000 in
theorem c_X11_bothOf {d sz : Nat} {S : zSh} {M : zMem} (hL : LY S sz) {B n : Nat} {c v : Nat → Int} (hM : EVM M B n c v) (hT : TK c v n) {live b : Int} (hlv : live = 0 ∨ live = 1) (hb : b = 0 ∨ b = 1) {o : Bool} (hO : M 55 25 = (if o = true then 1 else 0)) (hi : KI (M 57)) (hE : mEb M o) {s s' : gS} {w : gV} (hA : gA n s) {inner : Option (gS → gR)} {D : Nat} (htest : ∀ f, inner = some f → gG n f ∧ ∀ (s1 s2 : gS) (w1 : gV) (live1 b1 : Int), (live1 = 0 ∨ live1 = 1) → (b1 = 0 ∨ b1 = 1) → gA n s1 → f s1 = .inr (s2, w1) → zX (d + 4 * D + 5) 0 0 mX11_testOf [zn 55, zi live1] sz S (ev M ((B + s1.1 : Nat) : Int) b1) (zI sz S (fun r M' => EVT M B live1 b1 (w1 (mE M o)) s2.1 r M'))) (hq : g_both c v o D inner s = .inr (s', w)) : zX (d + 4 * D + 8) 0 0 mX11_bothOf [zn 55, zi live] sz S (ev M ((B + s.1 : Nat) : Int) b) (zI sz S (fun r M' => EVT M B live b (w (mE M o)) s'.1 r M')) := by
  have hq9 := hq
  unfold g_both at hq9
  obtain ⟨s0, w0, hq0, hq1⟩ := g_bd_r hq9
  clear hq9
  have hn := hT.1
  have hM2 := hM.2.1
  have hA1 := hA.1
  have hG : gG n (g_plain c v o D inner) := gG_plain hT (fun f h => (htest f h).1)
  have hA0 := gW_A hA ((hG s hA).2 s0 w0 hq0)
  have loopD : ∀ (f : Nat) (s1 : gS) (w1 : gV) (b1 y : Int), (live = 0 ∨ b1 = 1) → gA n s1 → n < f + s1.1 → g_chain c 6 13 (g_plain c v o D inner) f s1 w1 = .inr (s', w) → (∀ r, (r = 0 ∨ r = 1) → EVT M B live b (w (mE M o)) s'.1 r (ev M ((B + s'.1 : Nat) : Int) b1)) → (b1 = 0 ∨ b1 = 1) → (y = 0 ∨ y = 1) → zW mX11_bothOf (d + 4 * D + 8) 0 0 [] (zI sz S (fun r M' => EVT M B live b (w (mE M o)) s'.1 r M')) 6 [some (zn 55), some (zi live), some (zi y), none] [] sz S (ev M ((B + s1.1 : Nat) : Int) b1) := by
    intro f
    induction f with
    | zero => intro s1 w1 b1 y hd hB hf; have := hB.1; omega
    | succ f ih =>
      intro s1 w1 b1 y hd hB hf hq1 hQ hb1 hv
      have hB0 := hB.1
      refine x_aload_n 7 rfl dX11_bothOf_6 0 rfl rfl ?_
      refine x_bipush 9 rfl dX11_bothOf_7 (by decide) ?_
      refine x_cVi 12 rfl lX11_273 dX11_bothOf_9 (lyl55 hL) (lys55 hL) (c_X11_passes0 hL hM hT hB.1) rfl rfl (Nat.le_of_ble_eq_true rfl) (fun r M1 hr1 => ?_)
      rcases hr1 with ⟨hx, rfl, hM1⟩ | ⟨hx, rfl, hM1⟩
      · rw [hM1]
        rw [g_chain_s hx] at hq1
        obtain ⟨s2, w2, hq2, hq3⟩ := g_bd_r hq1
        have hc1 : c s1.1 ≠ 0 := by omega
        have hB2 := gW_A hB (gW_one hT hB hc1 (op := 13) (by decide))
        have hw9 := gW_stepc hT hG hB hc1 (by decide) hq2
        have hw8 := hw9.1
        simp only [g_aim] at hw8
        refine z_mem (M' := ev M ((B + (g_em (g_ad s1) 13).1 : Nat) : Int) _) rfl ?_
        refine x_if_eq 15 50 rfl dX11_bothOf_12 (by decide) (fun c12 => ?_) (fun c12 => ?_)
        · exfalso; omega
        · refine x_aload_n 16 rfl dX11_bothOf_15 0 rfl rfl ?_
          refine x_iload_n 17 rfl dX11_bothOf_16 1 rfl rfl ?_
          refine x_if_eq 20 28 rfl dX11_bothOf_17 (by decide) (fun c17 => ?_) (fun c17 => ?_)
          · refine x_iconst 29 rfl dX11_bothOf_28 (by decide) ?_
            refine x_cVi 32 rfl lX11_294 dX11_bothOf_29 (lyl55 hL) (lys55 hL) (c_X11_plainOf hL hM hT (by first | exact Or.inl rfl | exact Or.inr rfl) hb1 hO hi hE hB2 htest hq2) rfl rfl (Nat.le_of_ble_eq_true rfl) (fun r M2 hr2 => ?_)
            rcases hr2 with ⟨e1, e2, x2, e3, rfl, e5, hM2⟩ | ⟨e1, e2, e3, e4, hM2⟩ | ⟨e1, e4, hM2⟩
            · exfalso; omega
            · exfalso; omega
            · rw [hM2]
              refine y_istore_n 33 rfl dX11_bothOf_32 rfl rfl (ls' := [_, _, _, _]) rfl (by decide) ?_
              refine x_iload_n 34 rfl dX11_bothOf_33 2 rfl rfl ?_
              refine x_if_eq 37 45 rfl dX11_bothOf_34 (by decide) (fun c34 => ?_) (fun c34 => ?_)
              · refine x_iconst 46 rfl dX11_bothOf_45 (by decide) ?_
                refine y_istore_n 47 rfl dX11_bothOf_46 rfl rfl (ls' := [_, _, _, _]) rfl (by decide) ?_
                refine x_goto 6 dX11_bothOf_47 (by decide) ?_
                refine z_wk (ls' := [some (zn 55), some (zi live), some (zi (_)), none]) ⟨rfl, rfl, rfl, trivial⟩ (ih (g_aim s2 s1.2.2.1 13) _ _ _ hd (gW_A hB hw9) (by simp only [g_aim]; omega) hq3 hQ hb1 (by first | exact Or.inl rfl | exact Or.inr rfl | omega))
              · refine x_iload_n 38 rfl dX11_bothOf_37 3 rfl rfl ?_
                refine x_if_eq 41 45 rfl dX11_bothOf_38 (by decide) (fun c38 => ?_) (fun c38 => ?_)
                · refine x_iconst 46 rfl dX11_bothOf_45 (by decide) ?_
                  refine y_istore_n 47 rfl dX11_bothOf_46 rfl rfl (ls' := [_, _, _, _]) rfl (by decide) ?_
                  refine x_goto 6 dX11_bothOf_47 (by decide) ?_
                  refine z_wk (ls' := [some (zn 55), some (zi live), some (zi (_)), none]) ⟨rfl, rfl, rfl, trivial⟩ (ih (g_aim s2 s1.2.2.1 13) _ _ _ hd (gW_A hB hw9) (by simp only [g_aim]; omega) hq3 hQ hb1 (by first | exact Or.inl rfl | exact Or.inr rfl | omega))
                · refine x_iconst 42 rfl dX11_bothOf_41 (by decide) ?_
                  refine x_goto 46 dX11_bothOf_42 (by decide) ?_
                  refine y_istore_n 47 rfl dX11_bothOf_46 rfl rfl (ls' := [_, _, _, _]) rfl (by decide) ?_
                  refine x_goto 6 dX11_bothOf_47 (by decide) ?_
                  refine z_wk (ls' := [some (zn 55), some (zi live), some (zi (_)), none]) ⟨rfl, rfl, rfl, trivial⟩ (ih (g_aim s2 s1.2.2.1 13) _ _ _ hd (gW_A hB hw9) (by simp only [g_aim]; omega) hq3 hQ hb1 (by first | exact Or.inl rfl | exact Or.inr rfl | omega))
          · refine x_iload_n 21 rfl dX11_bothOf_20 2 rfl rfl ?_
            refine x_if_eq 24 28 rfl dX11_bothOf_21 (by decide) (fun c21 => ?_) (fun c21 => ?_)
            · refine x_iconst 29 rfl dX11_bothOf_28 (by decide) ?_
              refine x_cVi 32 rfl lX11_294 dX11_bothOf_29 (lyl55 hL) (lys55 hL) (c_X11_plainOf hL hM hT (by first | exact Or.inl rfl | exact Or.inr rfl) hb1 hO hi hE hB2 htest hq2) rfl rfl (Nat.le_of_ble_eq_true rfl) (fun r M2 hr2 => ?_)
              rcases hr2 with ⟨e1, e2, x2, e3, rfl, e5, hM2⟩ | ⟨e1, e2, e3, e4, hM2⟩ | ⟨e1, e4, hM2⟩
              · exfalso; omega
              · exfalso; omega
              · rw [hM2]
                refine y_istore_n 33 rfl dX11_bothOf_32 rfl rfl (ls' := [_, _, _, _]) rfl (by decide) ?_
                refine x_iload_n 34 rfl dX11_bothOf_33 2 rfl rfl ?_
                refine x_if_eq 37 45 rfl dX11_bothOf_34 (by decide) (fun c34 => ?_) (fun c34 => ?_)
                · refine x_iconst 46 rfl dX11_bothOf_45 (by decide) ?_
                  refine y_istore_n 47 rfl dX11_bothOf_46 rfl rfl (ls' := [_, _, _, _]) rfl (by decide) ?_
                  refine x_goto 6 dX11_bothOf_47 (by decide) ?_
                  refine z_wk (ls' := [some (zn 55), some (zi live), some (zi (_)), none]) ⟨rfl, rfl, rfl, trivial⟩ (ih (g_aim s2 s1.2.2.1 13) _ _ _ hd (gW_A hB hw9) (by simp only [g_aim]; omega) hq3 hQ hb1 (by first | exact Or.inl rfl | exact Or.inr rfl | omega))
                · refine x_iload_n 38 rfl dX11_bothOf_37 3 rfl rfl ?_
                  refine x_if_eq 41 45 rfl dX11_bothOf_38 (by decide) (fun c38 => ?_) (fun c38 => ?_)
                  · refine x_iconst 46 rfl dX11_bothOf_45 (by decide) ?_
                    refine y_istore_n 47 rfl dX11_bothOf_46 rfl rfl (ls' := [_, _, _, _]) rfl (by decide) ?_
                    refine x_goto 6 dX11_bothOf_47 (by decide) ?_
                    refine z_wk (ls' := [some (zn 55), some (zi live), some (zi (_)), none]) ⟨rfl, rfl, rfl, trivial⟩ (ih (g_aim s2 s1.2.2.1 13) _ _ _ hd (gW_A hB hw9) (by simp only [g_aim]; omega) hq3 hQ hb1 (by first | exact Or.inl rfl | exact Or.inr rfl | omega))
                  · refine x_iconst 42 rfl dX11_bothOf_41 (by decide) ?_
                    refine x_goto 46 dX11_bothOf_42 (by decide) ?_
                    refine y_istore_n 47 rfl dX11_bothOf_46 rfl rfl (ls' := [_, _, _, _]) rfl (by decide) ?_
                    refine x_goto 6 dX11_bothOf_47 (by decide) ?_
                    refine z_wk (ls' := [some (zn 55), some (zi live), some (zi (_)), none]) ⟨rfl, rfl, rfl, trivial⟩ (ih (g_aim s2 s1.2.2.1 13) _ _ _ hd (gW_A hB hw9) (by simp only [g_aim]; omega) hq3 hQ hb1 (by first | exact Or.inl rfl | exact Or.inr rfl | omega))
            · refine x_iconst 25 rfl dX11_bothOf_24 (by decide) ?_
              refine x_goto 29 dX11_bothOf_25 (by decide) ?_
              refine x_cVi 32 rfl lX11_294 dX11_bothOf_29 (lyl55 hL) (lys55 hL) (c_X11_plainOf hL hM hT (by first | exact Or.inl rfl | exact Or.inr rfl) hb1 hO hi hE hB2 htest hq2) rfl rfl (Nat.le_of_ble_eq_true rfl) (fun r M2 hr2 => ?_)
              rcases hr2 with ⟨e1, e2, x2, e3, rfl, e5, hM2⟩ | ⟨e1, e2, e3, e4, hM2⟩ | ⟨e1, e4, hM2⟩
              · exfalso; omega
              · exfalso; omega
              · rw [hM2]
                refine y_istore_n 33 rfl dX11_bothOf_32 rfl rfl (ls' := [_, _, _, _]) rfl (by decide) ?_
                refine x_iload_n 34 rfl dX11_bothOf_33 2 rfl rfl ?_
                refine x_if_eq 37 45 rfl dX11_bothOf_34 (by decide) (fun c34 => ?_) (fun c34 => ?_)
                · refine x_iconst 46 rfl dX11_bothOf_45 (by decide) ?_
                  refine y_istore_n 47 rfl dX11_bothOf_46 rfl rfl (ls' := [_, _, _, _]) rfl (by decide) ?_
                  refine x_goto 6 dX11_bothOf_47 (by decide) ?_
                  refine z_wk (ls' := [some (zn 55), some (zi live), some (zi (_)), none]) ⟨rfl, rfl, rfl, trivial⟩ (ih (g_aim s2 s1.2.2.1 13) _ _ _ hd (gW_A hB hw9) (by simp only [g_aim]; omega) hq3 hQ hb1 (by first | exact Or.inl rfl | exact Or.inr rfl | omega))
                · refine x_iload_n 38 rfl dX11_bothOf_37 3 rfl rfl ?_
                  refine x_if_eq 41 45 rfl dX11_bothOf_38 (by decide) (fun c38 => ?_) (fun c38 => ?_)
                  · refine x_iconst 46 rfl dX11_bothOf_45 (by decide) ?_
                    refine y_istore_n 47 rfl dX11_bothOf_46 rfl rfl (ls' := [_, _, _, _]) rfl (by decide) ?_
                    refine x_goto 6 dX11_bothOf_47 (by decide) ?_
                    refine z_wk (ls' := [some (zn 55), some (zi live), some (zi (_)), none]) ⟨rfl, rfl, rfl, trivial⟩ (ih (g_aim s2 s1.2.2.1 13) _ _ _ hd (gW_A hB hw9) (by simp only [g_aim]; omega) hq3 hQ hb1 (by first | exact Or.inl rfl | exact Or.inr rfl | omega))
                  · refine x_iconst 42 rfl dX11_bothOf_41 (by decide) ?_
                    refine x_goto 46 dX11_bothOf_42 (by decide) ?_
                    refine y_istore_n 47 rfl dX11_bothOf_46 rfl rfl (ls' := [_, _, _, _]) rfl (by decide) ?_
                    refine x_goto 6 dX11_bothOf_47 (by decide) ?_
                    refine z_wk (ls' := [some (zn 55), some (zi live), some (zi (_)), none]) ⟨rfl, rfl, rfl, trivial⟩ (ih (g_aim s2 s1.2.2.1 13) _ _ _ hd (gW_A hB hw9) (by simp only [g_aim]; omega) hq3 hQ hb1 (by first | exact Or.inl rfl | exact Or.inr rfl | omega))
      · rw [hM1]
        rw [g_chain_e hx] at hq1
        cases hq1
        refine x_if_eq 15 50 rfl dX11_bothOf_12 (by decide) (fun c12 => ?_) (fun c12 => ?_)
        · refine x_iload_n 51 rfl dX11_bothOf_50 2 rfl rfl ?_
          refine x_retz dX11_bothOf_51 rfl (by omega) ?_
          exact hQ _ hv
        · exfalso; omega
  have loopL : live = 1 → b = 0 → ∀ (f : Nat) (s1 : gS) (w1 : gV) (x : Int), gA n s1 → n < f + s1.1 → g_chain c 6 13 (g_plain c v o D inner) f s1 w1 = .inr (s', w) → w1 (mE M o) = some x → (x = 0 ∨ x = 1) → zW mX11_bothOf (d + 4 * D + 8) 0 0 [] (zI sz S (fun r M' => EVT M B live b (w (mE M o)) s'.1 r M')) 6 [some (zn 55), some (zi live), some (zi x), none] [] sz S (ev M ((B + s1.1 : Nat) : Int) 0) := by
    intro hl1 hb0 f
    induction f with
    | zero => intro s1 w1 x hB hf; have := hB.1; omega
    | succ f ih =>
      intro s1 w1 x hB hf hq1 hwx hx1
      have hB0 := hB.1
      refine x_aload_n 7 rfl dX11_bothOf_6 0 rfl rfl ?_
      refine x_bipush 9 rfl dX11_bothOf_7 (by decide) ?_
      refine x_cVi 12 rfl lX11_273 dX11_bothOf_9 (lyl55 hL) (lys55 hL) (c_X11_passes0 hL hM hT hB.1) rfl rfl (Nat.le_of_ble_eq_true rfl) (fun r M1 hr1 => ?_)
      rcases hr1 with ⟨hx, rfl, hM1⟩ | ⟨hx, rfl, hM1⟩
      · rw [hM1]
        rw [g_chain_s hx] at hq1
        obtain ⟨s2, w2, hq2, hq3⟩ := g_bd_r hq1
        have hc1 : c s1.1 ≠ 0 := by omega
        have hB2 := gW_A hB (gW_one hT hB hc1 (op := 13) (by decide))
        have hw9 := gW_stepc hT hG hB hc1 (by decide) hq2
        have hw8 := hw9.1
        simp only [g_aim] at hw8
        refine z_mem (M' := ev M ((B + (g_em (g_ad s1) 13).1 : Nat) : Int) _) rfl ?_
        refine x_if_eq 15 50 rfl dX11_bothOf_12 (by decide) (fun c12 => ?_) (fun c12 => ?_)
        · exfalso; omega
        · refine x_aload_n 16 rfl dX11_bothOf_15 0 rfl rfl ?_
          refine x_iload_n 17 rfl dX11_bothOf_16 1 rfl rfl ?_
          refine x_if_eq 20 28 rfl dX11_bothOf_17 (by decide) (fun c17 => ?_) (fun c17 => ?_)
          · exfalso; omega
          · refine x_iload_n 21 rfl dX11_bothOf_20 2 rfl rfl ?_
            refine x_if_eq 24 28 rfl dX11_bothOf_21 (by decide) (fun c21 => ?_) (fun c21 => ?_)
            · refine x_iconst 29 rfl dX11_bothOf_28 (by decide) ?_
              refine x_cVi 32 rfl lX11_294 dX11_bothOf_29 (lyl55 hL) (lys55 hL) (c_X11_plainOf hL hM hT (Or.inl rfl) (Or.inl rfl) hO hi hE hB2 htest hq2) rfl rfl (Nat.le_of_ble_eq_true rfl) (fun r M2 hr2 => ?_)
              rcases hr2 with ⟨e1, e2, x2, e3, rfl, e5, hM2⟩ | ⟨e1, e2, e3, e4, hM2⟩ | ⟨e1, e4, hM2⟩
              · exfalso; omega
              · exfalso; omega
              · rw [hM2]
                refine y_istore_n 33 rfl dX11_bothOf_32 rfl rfl (ls' := [_, _, _, _]) rfl (by decide) ?_
                refine x_iload_n 34 rfl dX11_bothOf_33 2 rfl rfl ?_
                refine x_if_eq 37 45 rfl dX11_bothOf_34 (by decide) (fun c34 => ?_) (fun c34 => ?_)
                · refine x_iconst 46 rfl dX11_bothOf_45 (by decide) ?_
                  refine y_istore_n 47 rfl dX11_bothOf_46 rfl rfl (ls' := [_, _, _, _]) rfl (by decide) ?_
                  refine x_goto 6 dX11_bothOf_47 (by decide) ?_
                  refine z_wk (ls' := [some (zn 55), some (zi live), some (zi (_)), none]) ⟨rfl, rfl, rfl, trivial⟩ (ih (g_aim s2 s1.2.2.1 13) _ _ (gW_A hB hw9) (by simp only [g_aim]; omega) hq3 ?_ (by first | exact Or.inl rfl | exact Or.inr rfl | omega))
                  rw [v_short_13 hwx]
                  first | (rw [if_pos (by omega)]; done) | (rw [if_pos (by omega)]; congr 1; done) | (rw [if_pos (by omega)]; congr 1; omega)
                · refine x_iload_n 38 rfl dX11_bothOf_37 3 rfl rfl ?_
                  refine x_if_eq 41 45 rfl dX11_bothOf_38 (by decide) (fun c38 => ?_) (fun c38 => ?_)
                  · refine x_iconst 46 rfl dX11_bothOf_45 (by decide) ?_
                    refine y_istore_n 47 rfl dX11_bothOf_46 rfl rfl (ls' := [_, _, _, _]) rfl (by decide) ?_
                    refine x_goto 6 dX11_bothOf_47 (by decide) ?_
                    refine z_wk (ls' := [some (zn 55), some (zi live), some (zi (_)), none]) ⟨rfl, rfl, rfl, trivial⟩ (ih (g_aim s2 s1.2.2.1 13) _ _ (gW_A hB hw9) (by simp only [g_aim]; omega) hq3 ?_ (by first | exact Or.inl rfl | exact Or.inr rfl | omega))
                    rw [v_short_13 hwx]
                    first | (rw [if_pos (by omega)]; done) | (rw [if_pos (by omega)]; congr 1; done) | (rw [if_pos (by omega)]; congr 1; omega)
                  · refine x_iconst 42 rfl dX11_bothOf_41 (by decide) ?_
                    refine x_goto 46 dX11_bothOf_42 (by decide) ?_
                    refine y_istore_n 47 rfl dX11_bothOf_46 rfl rfl (ls' := [_, _, _, _]) rfl (by decide) ?_
                    refine x_goto 6 dX11_bothOf_47 (by decide) ?_
                    refine z_wk (ls' := [some (zn 55), some (zi live), some (zi (_)), none]) ⟨rfl, rfl, rfl, trivial⟩ (ih (g_aim s2 s1.2.2.1 13) _ _ (gW_A hB hw9) (by simp only [g_aim]; omega) hq3 ?_ (by first | exact Or.inl rfl | exact Or.inr rfl | omega))
                    rw [v_short_13 hwx]
                    first | (rw [if_pos (by omega)]; done) | (rw [if_pos (by omega)]; congr 1; done) | (rw [if_pos (by omega)]; congr 1; omega)
            · refine x_iconst 25 rfl dX11_bothOf_24 (by decide) ?_
              refine x_goto 29 dX11_bothOf_25 (by decide) ?_
              refine x_cVi 32 rfl lX11_294 dX11_bothOf_29 (lyl55 hL) (lys55 hL) (c_X11_plainOf hL hM hT (Or.inr rfl) (Or.inl rfl) hO hi hE hB2 htest hq2) rfl rfl (Nat.le_of_ble_eq_true rfl) (fun r M2 hr2 => ?_)
              rcases hr2 with ⟨e1, e2, x2, e3, rfl, e5, hM2⟩ | ⟨e1, e2, e3, e4, hM2⟩ | ⟨e1, e4, hM2⟩
              · rw [hM2]
                refine y_istore_n 33 rfl dX11_bothOf_32 rfl rfl (ls' := [_, _, _, _]) rfl (by decide) ?_
                refine x_iload_n 34 rfl dX11_bothOf_33 2 rfl rfl ?_
                refine x_if_eq 37 45 rfl dX11_bothOf_34 (by decide) (fun c34 => ?_) (fun c34 => ?_)
                · refine x_iconst 46 rfl dX11_bothOf_45 (by decide) ?_
                  refine y_istore_n 47 rfl dX11_bothOf_46 rfl rfl (ls' := [_, _, _, _]) rfl (by decide) ?_
                  refine x_goto 6 dX11_bothOf_47 (by decide) ?_
                  refine z_wk (ls' := [some (zn 55), some (zi live), some (zi (_)), none]) ⟨rfl, rfl, rfl, trivial⟩ (ih (g_aim s2 s1.2.2.1 13) _ _ (gW_A hB hw9) (by simp only [g_aim]; omega) hq3 ?_ (by first | exact Or.inl rfl | exact Or.inr rfl | omega))
                  rw [v_short_13 hwx]
                  first | (rw [if_neg (by omega), e3]; done) | (rw [if_neg (by omega), e3]; congr 1; done) | (rw [if_neg (by omega), e3]; congr 1; omega)
                · refine x_iload_n 38 rfl dX11_bothOf_37 3 rfl rfl ?_
                  refine x_if_eq 41 45 rfl dX11_bothOf_38 (by decide) (fun c38 => ?_) (fun c38 => ?_)
                  · refine x_iconst 46 rfl dX11_bothOf_45 (by decide) ?_
                    refine y_istore_n 47 rfl dX11_bothOf_46 rfl rfl (ls' := [_, _, _, _]) rfl (by decide) ?_
                    refine x_goto 6 dX11_bothOf_47 (by decide) ?_
                    refine z_wk (ls' := [some (zn 55), some (zi live), some (zi (_)), none]) ⟨rfl, rfl, rfl, trivial⟩ (ih (g_aim s2 s1.2.2.1 13) _ _ (gW_A hB hw9) (by simp only [g_aim]; omega) hq3 ?_ (by first | exact Or.inl rfl | exact Or.inr rfl | omega))
                    rw [v_short_13 hwx]
                    first | (rw [if_neg (by omega), e3]; done) | (rw [if_neg (by omega), e3]; congr 1; done) | (rw [if_neg (by omega), e3]; congr 1; omega)
                  · refine x_iconst 42 rfl dX11_bothOf_41 (by decide) ?_
                    refine x_goto 46 dX11_bothOf_42 (by decide) ?_
                    refine y_istore_n 47 rfl dX11_bothOf_46 rfl rfl (ls' := [_, _, _, _]) rfl (by decide) ?_
                    refine x_goto 6 dX11_bothOf_47 (by decide) ?_
                    refine z_wk (ls' := [some (zn 55), some (zi live), some (zi (_)), none]) ⟨rfl, rfl, rfl, trivial⟩ (ih (g_aim s2 s1.2.2.1 13) _ _ (gW_A hB hw9) (by simp only [g_aim]; omega) hq3 ?_ (by first | exact Or.inl rfl | exact Or.inr rfl | omega))
                    rw [v_short_13 hwx]
                    first | (rw [if_neg (by omega), e3]; done) | (rw [if_neg (by omega), e3]; congr 1; done) | (rw [if_neg (by omega), e3]; congr 1; omega)
              · rw [hM2]
                refine y_istore_n 33 rfl dX11_bothOf_32 rfl rfl (ls' := [_, _, _, _]) rfl (by decide) ?_
                refine x_iload_n 34 rfl dX11_bothOf_33 2 rfl rfl ?_
                refine x_if_eq 37 45 rfl dX11_bothOf_34 (by decide) (fun c34 => ?_) (fun c34 => ?_)
                · refine x_iconst 46 rfl dX11_bothOf_45 (by decide) ?_
                  refine y_istore_n 47 rfl dX11_bothOf_46 rfl rfl (ls' := [_, _, _, _]) rfl (by decide) ?_
                  refine x_goto 6 dX11_bothOf_47 (by decide) ?_
                  refine z_wk (ls' := [some (zn 55), some (zi live), some (zi (_)), none]) ⟨rfl, rfl, rfl, trivial⟩ (loopD f (g_aim s2 s1.2.2.1 13) _ 1 _ (Or.inr rfl) (gW_A hB hw9) (by simp only [g_aim]; omega) hq3 (fun r hr => Or.inr (Or.inl ⟨hl1, hb0, g_chain_none f _ _ _ _ hq3 ?_, hr, rfl⟩)) (Or.inr rfl) (by first | exact Or.inl rfl | exact Or.inr rfl | omega))
                  rw [v_short_13 hwx]
                  rw [if_neg (by omega)]
                  exact e3
                · refine x_iload_n 38 rfl dX11_bothOf_37 3 rfl rfl ?_
                  refine x_if_eq 41 45 rfl dX11_bothOf_38 (by decide) (fun c38 => ?_) (fun c38 => ?_)
                  · refine x_iconst 46 rfl dX11_bothOf_45 (by decide) ?_
                    refine y_istore_n 47 rfl dX11_bothOf_46 rfl rfl (ls' := [_, _, _, _]) rfl (by decide) ?_
                    refine x_goto 6 dX11_bothOf_47 (by decide) ?_
                    refine z_wk (ls' := [some (zn 55), some (zi live), some (zi (_)), none]) ⟨rfl, rfl, rfl, trivial⟩ (loopD f (g_aim s2 s1.2.2.1 13) _ 1 _ (Or.inr rfl) (gW_A hB hw9) (by simp only [g_aim]; omega) hq3 (fun r hr => Or.inr (Or.inl ⟨hl1, hb0, g_chain_none f _ _ _ _ hq3 ?_, hr, rfl⟩)) (Or.inr rfl) (by first | exact Or.inl rfl | exact Or.inr rfl | omega))
                    rw [v_short_13 hwx]
                    rw [if_neg (by omega)]
                    exact e3
                  · refine x_iconst 42 rfl dX11_bothOf_41 (by decide) ?_
                    refine x_goto 46 dX11_bothOf_42 (by decide) ?_
                    refine y_istore_n 47 rfl dX11_bothOf_46 rfl rfl (ls' := [_, _, _, _]) rfl (by decide) ?_
                    refine x_goto 6 dX11_bothOf_47 (by decide) ?_
                    refine z_wk (ls' := [some (zn 55), some (zi live), some (zi (_)), none]) ⟨rfl, rfl, rfl, trivial⟩ (loopD f (g_aim s2 s1.2.2.1 13) _ 1 _ (Or.inr rfl) (gW_A hB hw9) (by simp only [g_aim]; omega) hq3 (fun r hr => Or.inr (Or.inl ⟨hl1, hb0, g_chain_none f _ _ _ _ hq3 ?_, hr, rfl⟩)) (Or.inr rfl) (by first | exact Or.inl rfl | exact Or.inr rfl | omega))
                    rw [v_short_13 hwx]
                    rw [if_neg (by omega)]
                    exact e3
              · exfalso; omega
      · rw [hM1]
        rw [g_chain_e hx] at hq1
        cases hq1
        refine x_if_eq 15 50 rfl dX11_bothOf_12 (by decide) (fun c12 => ?_) (fun c12 => ?_)
        · refine x_iload_n 51 rfl dX11_bothOf_50 2 rfl rfl ?_
          refine x_retz dX11_bothOf_51 rfl (by omega) ?_
          left; exact ⟨hl1, hb0, _, hwx, rfl, hx1, rfl⟩
        · exfalso; omega
  refine zX_of pl_RX11 [some (zn 55), some (zi live), none, none] 2 rfl rfl ?_
  refine x_aload_n 1 rfl dX11_bothOf_0 0 rfl rfl ?_
  refine x_iload_n 2 rfl dX11_bothOf_1 1 rfl rfl ?_
  refine x_cVi 5 rfl lX11_294 dX11_bothOf_2 (lyl55 hL) (lys55 hL) (c_X11_plainOf hL hM hT hlv hb hO hi hE hA htest hq0) rfl rfl (Nat.le_of_ble_eq_true rfl) (fun r M2 hr2 => ?_)
  rcases hr2 with ⟨e1, e2, x2, e3, rfl, e5, hM2⟩ | ⟨e1, e2, e3, e4, hM2⟩ | ⟨e1, e4, hM2⟩
  · rw [hM2]
    refine y_istore_n 6 rfl dX11_bothOf_5 rfl rfl (ls' := [_, _, _, _]) rfl (by decide) ?_
    exact loopL e1 e2 401 s0 w0 _ hA0 (by omega) hq1 e3 e5
  · rw [hM2]
    refine y_istore_n 6 rfl dX11_bothOf_5 rfl rfl (ls' := [_, _, _, _]) rfl (by decide) ?_
    exact loopD 401 s0 w0 1 _ (Or.inr rfl) hA0 (by omega) hq1 (fun r hr => Or.inr (Or.inl ⟨e1, e2, g_chain_none 401 _ _ _ _ hq1 e3, hr, rfl⟩)) (Or.inr rfl) e4
  · rw [hM2]
    refine y_istore_n 6 rfl dX11_bothOf_5 rfl rfl (ls' := [_, _, _, _]) rfl (by decide) ?_
    exact loopD 401 s0 w0 b _ e1 hA0 (by omega) hq1 (fun r hr => Or.inr (Or.inr ⟨e1, hr, rfl⟩)) hb e4

set_option maxRecDepth 100000 in
set_option maxHeartbeats 4000000 in
theorem c_X11_testOf {d sz : Nat} {S : zSh} {M : zMem} (hL : LY S sz) {B n : Nat} {c v : Nat → Int} (hM : EVM M B n c v) (hT : TK c v n) {live b : Int} (hlv : live = 0 ∨ live = 1) (hb : b = 0 ∨ b = 1) {o : Bool} (hO : M 55 25 = (if o = true then 1 else 0)) (hi : KI (M 57)) (hE : mEb M o) {s s' : gS} {w : gV} (hA : gA n s) {inner : Option (gS → gR)} {D : Nat} (htest : ∀ f, inner = some f → gG n f ∧ ∀ (s1 s2 : gS) (w1 : gV) (live1 b1 : Int), (live1 = 0 ∨ live1 = 1) → (b1 = 0 ∨ b1 = 1) → gA n s1 → f s1 = .inr (s2, w1) → zX (d + 4 * D + 5) 0 0 mX11_testOf [zn 55, zi live1] sz S (ev M ((B + s1.1 : Nat) : Int) b1) (zI sz S (fun r M' => EVT M B live1 b1 (w1 (mE M o)) s2.1 r M'))) (hq : g_test c v o D inner s = .inr (s', w)) : zX (d + 4 * D + 9) 0 0 mX11_testOf [zn 55, zi live] sz S (ev M ((B + s.1 : Nat) : Int) b) (zI sz S (fun r M' => EVT M B live b (w (mE M o)) s'.1 r M')) := by
  have hq9 := hq
  unfold g_test at hq9
  obtain ⟨s0, w0, hq0, hq1⟩ := g_bd_r hq9
  clear hq9
  have hn := hT.1
  have hM2 := hM.2.1
  have hA1 := hA.1
  have hG : gG n (g_both c v o D inner) := gG_both hT (fun f h => (htest f h).1)
  have hA0 := gW_A hA ((hG s hA).2 s0 w0 hq0)
  have loopD : ∀ (f : Nat) (s1 : gS) (w1 : gV) (b1 y : Int), (live = 0 ∨ b1 = 1) → gA n s1 → n < f + s1.1 → g_chain c 5 12 (g_both c v o D inner) f s1 w1 = .inr (s', w) → (∀ r, (r = 0 ∨ r = 1) → EVT M B live b (w (mE M o)) s'.1 r (ev M ((B + s'.1 : Nat) : Int) b1)) → (b1 = 0 ∨ b1 = 1) → (y = 0 ∨ y = 1) → zW mX11_testOf (d + 4 * D + 9) 0 0 [] (zI sz S (fun r M' => EVT M B live b (w (mE M o)) s'.1 r M')) 6 [some (zn 55), some (zi live), some (zi y), none] [] sz S (ev M ((B + s1.1 : Nat) : Int) b1) := by
    intro f
    induction f with
    | zero => intro s1 w1 b1 y hd hB hf; have := hB.1; omega
    | succ f ih =>
      intro s1 w1 b1 y hd hB hf hq1 hQ hb1 hv
      have hB0 := hB.1
      refine x_aload_n 7 rfl dX11_testOf_6 0 rfl rfl ?_
      refine x_iconst 8 rfl dX11_testOf_7 (by decide) ?_
      refine x_cVi 11 rfl lX11_273 dX11_testOf_8 (lyl55 hL) (lys55 hL) (c_X11_passes0 hL hM hT hB.1) rfl rfl (Nat.le_of_ble_eq_true rfl) (fun r M1 hr1 => ?_)
      rcases hr1 with ⟨hx, rfl, hM1⟩ | ⟨hx, rfl, hM1⟩
      · rw [hM1]
        rw [g_chain_s hx] at hq1
        obtain ⟨s2, w2, hq2, hq3⟩ := g_bd_r hq1
        have hc1 : c s1.1 ≠ 0 := by omega
        have hB2 := gW_A hB (gW_one hT hB hc1 (op := 12) (by decide))
        have hw9 := gW_stepc hT hG hB hc1 (by decide) hq2
        have hw8 := hw9.1
        simp only [g_aim] at hw8
        refine z_mem (M' := ev M ((B + (g_em (g_ad s1) 12).1 : Nat) : Int) _) rfl ?_
        refine x_if_eq 14 49 rfl dX11_testOf_11 (by decide) (fun c11 => ?_) (fun c11 => ?_)
        · exfalso; omega
        · refine x_aload_n 15 rfl dX11_testOf_14 0 rfl rfl ?_
          refine x_iload_n 16 rfl dX11_testOf_15 1 rfl rfl ?_
          refine x_if_eq 19 27 rfl dX11_testOf_16 (by decide) (fun c16 => ?_) (fun c16 => ?_)
          · refine x_iconst 28 rfl dX11_testOf_27 (by decide) ?_
            refine x_cVi 31 rfl lX11_291 dX11_testOf_28 (lyl55 hL) (lys55 hL) (c_X11_bothOf hL hM hT (by first | exact Or.inl rfl | exact Or.inr rfl) hb1 hO hi hE hB2 htest hq2) rfl rfl (Nat.le_of_ble_eq_true rfl) (fun r M2 hr2 => ?_)
            rcases hr2 with ⟨e1, e2, x2, e3, rfl, e5, hM2⟩ | ⟨e1, e2, e3, e4, hM2⟩ | ⟨e1, e4, hM2⟩
            · exfalso; omega
            · exfalso; omega
            · rw [hM2]
              refine y_istore_n 32 rfl dX11_testOf_31 rfl rfl (ls' := [_, _, _, _]) rfl (by decide) ?_
              refine x_iload_n 33 rfl dX11_testOf_32 2 rfl rfl ?_
              refine x_if_ne 36 40 rfl dX11_testOf_33 (by decide) (fun c33 => ?_) (fun c33 => ?_)
              · refine x_iconst 41 rfl dX11_testOf_40 (by decide) ?_
                refine x_goto 45 dX11_testOf_41 (by decide) ?_
                refine y_istore_n 46 rfl dX11_testOf_45 rfl rfl (ls' := [_, _, _, _]) rfl (by decide) ?_
                refine x_goto 6 dX11_testOf_46 (by decide) ?_
                refine z_wk (ls' := [some (zn 55), some (zi live), some (zi (_)), none]) ⟨rfl, rfl, rfl, trivial⟩ (ih (g_aim s2 s1.2.2.1 12) _ _ _ hd (gW_A hB hw9) (by simp only [g_aim]; omega) hq3 hQ hb1 (by first | exact Or.inl rfl | exact Or.inr rfl | omega))
              · refine x_iload_n 37 rfl dX11_testOf_36 3 rfl rfl ?_
                refine x_if_eq 40 44 rfl dX11_testOf_37 (by decide) (fun c37 => ?_) (fun c37 => ?_)
                · refine x_iconst 45 rfl dX11_testOf_44 (by decide) ?_
                  refine y_istore_n 46 rfl dX11_testOf_45 rfl rfl (ls' := [_, _, _, _]) rfl (by decide) ?_
                  refine x_goto 6 dX11_testOf_46 (by decide) ?_
                  refine z_wk (ls' := [some (zn 55), some (zi live), some (zi (_)), none]) ⟨rfl, rfl, rfl, trivial⟩ (ih (g_aim s2 s1.2.2.1 12) _ _ _ hd (gW_A hB hw9) (by simp only [g_aim]; omega) hq3 hQ hb1 (by first | exact Or.inl rfl | exact Or.inr rfl | omega))
                · refine x_iconst 41 rfl dX11_testOf_40 (by decide) ?_
                  refine x_goto 45 dX11_testOf_41 (by decide) ?_
                  refine y_istore_n 46 rfl dX11_testOf_45 rfl rfl (ls' := [_, _, _, _]) rfl (by decide) ?_
                  refine x_goto 6 dX11_testOf_46 (by decide) ?_
                  refine z_wk (ls' := [some (zn 55), some (zi live), some (zi (_)), none]) ⟨rfl, rfl, rfl, trivial⟩ (ih (g_aim s2 s1.2.2.1 12) _ _ _ hd (gW_A hB hw9) (by simp only [g_aim]; omega) hq3 hQ hb1 (by first | exact Or.inl rfl | exact Or.inr rfl | omega))
          · refine x_iload_n 20 rfl dX11_testOf_19 2 rfl rfl ?_
            refine x_if_ne 23 27 rfl dX11_testOf_20 (by decide) (fun c20 => ?_) (fun c20 => ?_)
            · refine x_iconst 28 rfl dX11_testOf_27 (by decide) ?_
              refine x_cVi 31 rfl lX11_291 dX11_testOf_28 (lyl55 hL) (lys55 hL) (c_X11_bothOf hL hM hT (by first | exact Or.inl rfl | exact Or.inr rfl) hb1 hO hi hE hB2 htest hq2) rfl rfl (Nat.le_of_ble_eq_true rfl) (fun r M2 hr2 => ?_)
              rcases hr2 with ⟨e1, e2, x2, e3, rfl, e5, hM2⟩ | ⟨e1, e2, e3, e4, hM2⟩ | ⟨e1, e4, hM2⟩
              · exfalso; omega
              · exfalso; omega
              · rw [hM2]
                refine y_istore_n 32 rfl dX11_testOf_31 rfl rfl (ls' := [_, _, _, _]) rfl (by decide) ?_
                refine x_iload_n 33 rfl dX11_testOf_32 2 rfl rfl ?_
                refine x_if_ne 36 40 rfl dX11_testOf_33 (by decide) (fun c33 => ?_) (fun c33 => ?_)
                · refine x_iconst 41 rfl dX11_testOf_40 (by decide) ?_
                  refine x_goto 45 dX11_testOf_41 (by decide) ?_
                  refine y_istore_n 46 rfl dX11_testOf_45 rfl rfl (ls' := [_, _, _, _]) rfl (by decide) ?_
                  refine x_goto 6 dX11_testOf_46 (by decide) ?_
                  refine z_wk (ls' := [some (zn 55), some (zi live), some (zi (_)), none]) ⟨rfl, rfl, rfl, trivial⟩ (ih (g_aim s2 s1.2.2.1 12) _ _ _ hd (gW_A hB hw9) (by simp only [g_aim]; omega) hq3 hQ hb1 (by first | exact Or.inl rfl | exact Or.inr rfl | omega))
                · refine x_iload_n 37 rfl dX11_testOf_36 3 rfl rfl ?_
                  refine x_if_eq 40 44 rfl dX11_testOf_37 (by decide) (fun c37 => ?_) (fun c37 => ?_)
                  · refine x_iconst 45 rfl dX11_testOf_44 (by decide) ?_
                    refine y_istore_n 46 rfl dX11_testOf_45 rfl rfl (ls' := [_, _, _, _]) rfl (by decide) ?_
                    refine x_goto 6 dX11_testOf_46 (by decide) ?_
                    refine z_wk (ls' := [some (zn 55), some (zi live), some (zi (_)), none]) ⟨rfl, rfl, rfl, trivial⟩ (ih (g_aim s2 s1.2.2.1 12) _ _ _ hd (gW_A hB hw9) (by simp only [g_aim]; omega) hq3 hQ hb1 (by first | exact Or.inl rfl | exact Or.inr rfl | omega))
                  · refine x_iconst 41 rfl dX11_testOf_40 (by decide) ?_
                    refine x_goto 45 dX11_testOf_41 (by decide) ?_
                    refine y_istore_n 46 rfl dX11_testOf_45 rfl rfl (ls' := [_, _, _, _]) rfl (by decide) ?_
                    refine x_goto 6 dX11_testOf_46 (by decide) ?_
                    refine z_wk (ls' := [some (zn 55), some (zi live), some (zi (_)), none]) ⟨rfl, rfl, rfl, trivial⟩ (ih (g_aim s2 s1.2.2.1 12) _ _ _ hd (gW_A hB hw9) (by simp only [g_aim]; omega) hq3 hQ hb1 (by first | exact Or.inl rfl | exact Or.inr rfl | omega))
            · refine x_iconst 24 rfl dX11_testOf_23 (by decide) ?_
              refine x_goto 28 dX11_testOf_24 (by decide) ?_
              refine x_cVi 31 rfl lX11_291 dX11_testOf_28 (lyl55 hL) (lys55 hL) (c_X11_bothOf hL hM hT (by first | exact Or.inl rfl | exact Or.inr rfl) hb1 hO hi hE hB2 htest hq2) rfl rfl (Nat.le_of_ble_eq_true rfl) (fun r M2 hr2 => ?_)
              rcases hr2 with ⟨e1, e2, x2, e3, rfl, e5, hM2⟩ | ⟨e1, e2, e3, e4, hM2⟩ | ⟨e1, e4, hM2⟩
              · exfalso; omega
              · exfalso; omega
              · rw [hM2]
                refine y_istore_n 32 rfl dX11_testOf_31 rfl rfl (ls' := [_, _, _, _]) rfl (by decide) ?_
                refine x_iload_n 33 rfl dX11_testOf_32 2 rfl rfl ?_
                refine x_if_ne 36 40 rfl dX11_testOf_33 (by decide) (fun c33 => ?_) (fun c33 => ?_)
                · refine x_iconst 41 rfl dX11_testOf_40 (by decide) ?_
                  refine x_goto 45 dX11_testOf_41 (by decide) ?_
                  refine y_istore_n 46 rfl dX11_testOf_45 rfl rfl (ls' := [_, _, _, _]) rfl (by decide) ?_
                  refine x_goto 6 dX11_testOf_46 (by decide) ?_
                  refine z_wk (ls' := [some (zn 55), some (zi live), some (zi (_)), none]) ⟨rfl, rfl, rfl, trivial⟩ (ih (g_aim s2 s1.2.2.1 12) _ _ _ hd (gW_A hB hw9) (by simp only [g_aim]; omega) hq3 hQ hb1 (by first | exact Or.inl rfl | exact Or.inr rfl | omega))
                · refine x_iload_n 37 rfl dX11_testOf_36 3 rfl rfl ?_
                  refine x_if_eq 40 44 rfl dX11_testOf_37 (by decide) (fun c37 => ?_) (fun c37 => ?_)
                  · refine x_iconst 45 rfl dX11_testOf_44 (by decide) ?_
                    refine y_istore_n 46 rfl dX11_testOf_45 rfl rfl (ls' := [_, _, _, _]) rfl (by decide) ?_
                    refine x_goto 6 dX11_testOf_46 (by decide) ?_
                    refine z_wk (ls' := [some (zn 55), some (zi live), some (zi (_)), none]) ⟨rfl, rfl, rfl, trivial⟩ (ih (g_aim s2 s1.2.2.1 12) _ _ _ hd (gW_A hB hw9) (by simp only [g_aim]; omega) hq3 hQ hb1 (by first | exact Or.inl rfl | exact Or.inr rfl | omega))
                  · refine x_iconst 41 rfl dX11_testOf_40 (by decide) ?_
                    refine x_goto 45 dX11_testOf_41 (by decide) ?_
                    refine y_istore_n 46 rfl dX11_testOf_45 rfl rfl (ls' := [_, _, _, _]) rfl (by decide) ?_
                    refine x_goto 6 dX11_testOf_46 (by decide) ?_
                    refine z_wk (ls' := [some (zn 55), some (zi live), some (zi (_)), none]) ⟨rfl, rfl, rfl, trivial⟩ (ih (g_aim s2 s1.2.2.1 12) _ _ _ hd (gW_A hB hw9) (by simp only [g_aim]; omega) hq3 hQ hb1 (by first | exact Or.inl rfl | exact Or.inr rfl | omega))
      · rw [hM1]
        rw [g_chain_e hx] at hq1
        cases hq1
        refine x_if_eq 14 49 rfl dX11_testOf_11 (by decide) (fun c11 => ?_) (fun c11 => ?_)
        · refine x_iload_n 50 rfl dX11_testOf_49 2 rfl rfl ?_
          refine x_retz dX11_testOf_50 rfl (by omega) ?_
          exact hQ _ hv
        · exfalso; omega
  have loopL : live = 1 → b = 0 → ∀ (f : Nat) (s1 : gS) (w1 : gV) (x : Int), gA n s1 → n < f + s1.1 → g_chain c 5 12 (g_both c v o D inner) f s1 w1 = .inr (s', w) → w1 (mE M o) = some x → (x = 0 ∨ x = 1) → zW mX11_testOf (d + 4 * D + 9) 0 0 [] (zI sz S (fun r M' => EVT M B live b (w (mE M o)) s'.1 r M')) 6 [some (zn 55), some (zi live), some (zi x), none] [] sz S (ev M ((B + s1.1 : Nat) : Int) 0) := by
    intro hl1 hb0 f
    induction f with
    | zero => intro s1 w1 x hB hf; have := hB.1; omega
    | succ f ih =>
      intro s1 w1 x hB hf hq1 hwx hx1
      have hB0 := hB.1
      refine x_aload_n 7 rfl dX11_testOf_6 0 rfl rfl ?_
      refine x_iconst 8 rfl dX11_testOf_7 (by decide) ?_
      refine x_cVi 11 rfl lX11_273 dX11_testOf_8 (lyl55 hL) (lys55 hL) (c_X11_passes0 hL hM hT hB.1) rfl rfl (Nat.le_of_ble_eq_true rfl) (fun r M1 hr1 => ?_)
      rcases hr1 with ⟨hx, rfl, hM1⟩ | ⟨hx, rfl, hM1⟩
      · rw [hM1]
        rw [g_chain_s hx] at hq1
        obtain ⟨s2, w2, hq2, hq3⟩ := g_bd_r hq1
        have hc1 : c s1.1 ≠ 0 := by omega
        have hB2 := gW_A hB (gW_one hT hB hc1 (op := 12) (by decide))
        have hw9 := gW_stepc hT hG hB hc1 (by decide) hq2
        have hw8 := hw9.1
        simp only [g_aim] at hw8
        refine z_mem (M' := ev M ((B + (g_em (g_ad s1) 12).1 : Nat) : Int) _) rfl ?_
        refine x_if_eq 14 49 rfl dX11_testOf_11 (by decide) (fun c11 => ?_) (fun c11 => ?_)
        · exfalso; omega
        · refine x_aload_n 15 rfl dX11_testOf_14 0 rfl rfl ?_
          refine x_iload_n 16 rfl dX11_testOf_15 1 rfl rfl ?_
          refine x_if_eq 19 27 rfl dX11_testOf_16 (by decide) (fun c16 => ?_) (fun c16 => ?_)
          · exfalso; omega
          · refine x_iload_n 20 rfl dX11_testOf_19 2 rfl rfl ?_
            refine x_if_ne 23 27 rfl dX11_testOf_20 (by decide) (fun c20 => ?_) (fun c20 => ?_)
            · refine x_iconst 28 rfl dX11_testOf_27 (by decide) ?_
              refine x_cVi 31 rfl lX11_291 dX11_testOf_28 (lyl55 hL) (lys55 hL) (c_X11_bothOf hL hM hT (Or.inl rfl) (Or.inl rfl) hO hi hE hB2 htest hq2) rfl rfl (Nat.le_of_ble_eq_true rfl) (fun r M2 hr2 => ?_)
              rcases hr2 with ⟨e1, e2, x2, e3, rfl, e5, hM2⟩ | ⟨e1, e2, e3, e4, hM2⟩ | ⟨e1, e4, hM2⟩
              · exfalso; omega
              · exfalso; omega
              · rw [hM2]
                refine y_istore_n 32 rfl dX11_testOf_31 rfl rfl (ls' := [_, _, _, _]) rfl (by decide) ?_
                refine x_iload_n 33 rfl dX11_testOf_32 2 rfl rfl ?_
                refine x_if_ne 36 40 rfl dX11_testOf_33 (by decide) (fun c33 => ?_) (fun c33 => ?_)
                · refine x_iconst 41 rfl dX11_testOf_40 (by decide) ?_
                  refine x_goto 45 dX11_testOf_41 (by decide) ?_
                  refine y_istore_n 46 rfl dX11_testOf_45 rfl rfl (ls' := [_, _, _, _]) rfl (by decide) ?_
                  refine x_goto 6 dX11_testOf_46 (by decide) ?_
                  refine z_wk (ls' := [some (zn 55), some (zi live), some (zi (_)), none]) ⟨rfl, rfl, rfl, trivial⟩ (ih (g_aim s2 s1.2.2.1 12) _ _ (gW_A hB hw9) (by simp only [g_aim]; omega) hq3 ?_ (by first | exact Or.inl rfl | exact Or.inr rfl | omega))
                  rw [v_short_12 hwx]
                  first | (rw [if_pos (by omega)]; done) | (rw [if_pos (by omega)]; congr 1; done) | (rw [if_pos (by omega)]; congr 1; omega)
                · refine x_iload_n 37 rfl dX11_testOf_36 3 rfl rfl ?_
                  refine x_if_eq 40 44 rfl dX11_testOf_37 (by decide) (fun c37 => ?_) (fun c37 => ?_)
                  · refine x_iconst 45 rfl dX11_testOf_44 (by decide) ?_
                    refine y_istore_n 46 rfl dX11_testOf_45 rfl rfl (ls' := [_, _, _, _]) rfl (by decide) ?_
                    refine x_goto 6 dX11_testOf_46 (by decide) ?_
                    refine z_wk (ls' := [some (zn 55), some (zi live), some (zi (_)), none]) ⟨rfl, rfl, rfl, trivial⟩ (ih (g_aim s2 s1.2.2.1 12) _ _ (gW_A hB hw9) (by simp only [g_aim]; omega) hq3 ?_ (by first | exact Or.inl rfl | exact Or.inr rfl | omega))
                    rw [v_short_12 hwx]
                    first | (rw [if_pos (by omega)]; done) | (rw [if_pos (by omega)]; congr 1; done) | (rw [if_pos (by omega)]; congr 1; omega)
                  · refine x_iconst 41 rfl dX11_testOf_40 (by decide) ?_
                    refine x_goto 45 dX11_testOf_41 (by decide) ?_
                    refine y_istore_n 46 rfl dX11_testOf_45 rfl rfl (ls' := [_, _, _, _]) rfl (by decide) ?_
                    refine x_goto 6 dX11_testOf_46 (by decide) ?_
                    refine z_wk (ls' := [some (zn 55), some (zi live), some (zi (_)), none]) ⟨rfl, rfl, rfl, trivial⟩ (ih (g_aim s2 s1.2.2.1 12) _ _ (gW_A hB hw9) (by simp only [g_aim]; omega) hq3 ?_ (by first | exact Or.inl rfl | exact Or.inr rfl | omega))
                    rw [v_short_12 hwx]
                    first | (rw [if_pos (by omega)]; done) | (rw [if_pos (by omega)]; congr 1; done) | (rw [if_pos (by omega)]; congr 1; omega)
            · refine x_iconst 24 rfl dX11_testOf_23 (by decide) ?_
              refine x_goto 28 dX11_testOf_24 (by decide) ?_
              refine x_cVi 31 rfl lX11_291 dX11_testOf_28 (lyl55 hL) (lys55 hL) (c_X11_bothOf hL hM hT (Or.inr rfl) (Or.inl rfl) hO hi hE hB2 htest hq2) rfl rfl (Nat.le_of_ble_eq_true rfl) (fun r M2 hr2 => ?_)
              rcases hr2 with ⟨e1, e2, x2, e3, rfl, e5, hM2⟩ | ⟨e1, e2, e3, e4, hM2⟩ | ⟨e1, e4, hM2⟩
              · rw [hM2]
                refine y_istore_n 32 rfl dX11_testOf_31 rfl rfl (ls' := [_, _, _, _]) rfl (by decide) ?_
                refine x_iload_n 33 rfl dX11_testOf_32 2 rfl rfl ?_
                refine x_if_ne 36 40 rfl dX11_testOf_33 (by decide) (fun c33 => ?_) (fun c33 => ?_)
                · refine x_iconst 41 rfl dX11_testOf_40 (by decide) ?_
                  refine x_goto 45 dX11_testOf_41 (by decide) ?_
                  refine y_istore_n 46 rfl dX11_testOf_45 rfl rfl (ls' := [_, _, _, _]) rfl (by decide) ?_
                  refine x_goto 6 dX11_testOf_46 (by decide) ?_
                  refine z_wk (ls' := [some (zn 55), some (zi live), some (zi (_)), none]) ⟨rfl, rfl, rfl, trivial⟩ (ih (g_aim s2 s1.2.2.1 12) _ _ (gW_A hB hw9) (by simp only [g_aim]; omega) hq3 ?_ (by first | exact Or.inl rfl | exact Or.inr rfl | omega))
                  rw [v_short_12 hwx]
                  first | (rw [if_neg (by omega), e3]; done) | (rw [if_neg (by omega), e3]; congr 1; done) | (rw [if_neg (by omega), e3]; congr 1; omega)
                · refine x_iload_n 37 rfl dX11_testOf_36 3 rfl rfl ?_
                  refine x_if_eq 40 44 rfl dX11_testOf_37 (by decide) (fun c37 => ?_) (fun c37 => ?_)
                  · refine x_iconst 45 rfl dX11_testOf_44 (by decide) ?_
                    refine y_istore_n 46 rfl dX11_testOf_45 rfl rfl (ls' := [_, _, _, _]) rfl (by decide) ?_
                    refine x_goto 6 dX11_testOf_46 (by decide) ?_
                    refine z_wk (ls' := [some (zn 55), some (zi live), some (zi (_)), none]) ⟨rfl, rfl, rfl, trivial⟩ (ih (g_aim s2 s1.2.2.1 12) _ _ (gW_A hB hw9) (by simp only [g_aim]; omega) hq3 ?_ (by first | exact Or.inl rfl | exact Or.inr rfl | omega))
                    rw [v_short_12 hwx]
                    first | (rw [if_neg (by omega), e3]; done) | (rw [if_neg (by omega), e3]; congr 1; done) | (rw [if_neg (by omega), e3]; congr 1; omega)
                  · refine x_iconst 41 rfl dX11_testOf_40 (by decide) ?_
                    refine x_goto 45 dX11_testOf_41 (by decide) ?_
                    refine y_istore_n 46 rfl dX11_testOf_45 rfl rfl (ls' := [_, _, _, _]) rfl (by decide) ?_
                    refine x_goto 6 dX11_testOf_46 (by decide) ?_
                    refine z_wk (ls' := [some (zn 55), some (zi live), some (zi (_)), none]) ⟨rfl, rfl, rfl, trivial⟩ (ih (g_aim s2 s1.2.2.1 12) _ _ (gW_A hB hw9) (by simp only [g_aim]; omega) hq3 ?_ (by first | exact Or.inl rfl | exact Or.inr rfl | omega))
                    rw [v_short_12 hwx]
                    first | (rw [if_neg (by omega), e3]; done) | (rw [if_neg (by omega), e3]; congr 1; done) | (rw [if_neg (by omega), e3]; congr 1; omega)
              · rw [hM2]
                refine y_istore_n 32 rfl dX11_testOf_31 rfl rfl (ls' := [_, _, _, _]) rfl (by decide) ?_
                refine x_iload_n 33 rfl dX11_testOf_32 2 rfl rfl ?_
                refine x_if_ne 36 40 rfl dX11_testOf_33 (by decide) (fun c33 => ?_) (fun c33 => ?_)
                · refine x_iconst 41 rfl dX11_testOf_40 (by decide) ?_
                  refine x_goto 45 dX11_testOf_41 (by decide) ?_
                  refine y_istore_n 46 rfl dX11_testOf_45 rfl rfl (ls' := [_, _, _, _]) rfl (by decide) ?_
                  refine x_goto 6 dX11_testOf_46 (by decide) ?_
                  refine z_wk (ls' := [some (zn 55), some (zi live), some (zi (_)), none]) ⟨rfl, rfl, rfl, trivial⟩ (loopD f (g_aim s2 s1.2.2.1 12) _ 1 _ (Or.inr rfl) (gW_A hB hw9) (by simp only [g_aim]; omega) hq3 (fun r hr => Or.inr (Or.inl ⟨hl1, hb0, g_chain_none f _ _ _ _ hq3 ?_, hr, rfl⟩)) (Or.inr rfl) (by first | exact Or.inl rfl | exact Or.inr rfl | omega))
                  rw [v_short_12 hwx]
                  rw [if_neg (by omega)]
                  exact e3
                · refine x_iload_n 37 rfl dX11_testOf_36 3 rfl rfl ?_
                  refine x_if_eq 40 44 rfl dX11_testOf_37 (by decide) (fun c37 => ?_) (fun c37 => ?_)
                  · refine x_iconst 45 rfl dX11_testOf_44 (by decide) ?_
                    refine y_istore_n 46 rfl dX11_testOf_45 rfl rfl (ls' := [_, _, _, _]) rfl (by decide) ?_
                    refine x_goto 6 dX11_testOf_46 (by decide) ?_
                    refine z_wk (ls' := [some (zn 55), some (zi live), some (zi (_)), none]) ⟨rfl, rfl, rfl, trivial⟩ (loopD f (g_aim s2 s1.2.2.1 12) _ 1 _ (Or.inr rfl) (gW_A hB hw9) (by simp only [g_aim]; omega) hq3 (fun r hr => Or.inr (Or.inl ⟨hl1, hb0, g_chain_none f _ _ _ _ hq3 ?_, hr, rfl⟩)) (Or.inr rfl) (by first | exact Or.inl rfl | exact Or.inr rfl | omega))
                    rw [v_short_12 hwx]
                    rw [if_neg (by omega)]
                    exact e3
                  · refine x_iconst 41 rfl dX11_testOf_40 (by decide) ?_
                    refine x_goto 45 dX11_testOf_41 (by decide) ?_
                    refine y_istore_n 46 rfl dX11_testOf_45 rfl rfl (ls' := [_, _, _, _]) rfl (by decide) ?_
                    refine x_goto 6 dX11_testOf_46 (by decide) ?_
                    refine z_wk (ls' := [some (zn 55), some (zi live), some (zi (_)), none]) ⟨rfl, rfl, rfl, trivial⟩ (loopD f (g_aim s2 s1.2.2.1 12) _ 1 _ (Or.inr rfl) (gW_A hB hw9) (by simp only [g_aim]; omega) hq3 (fun r hr => Or.inr (Or.inl ⟨hl1, hb0, g_chain_none f _ _ _ _ hq3 ?_, hr, rfl⟩)) (Or.inr rfl) (by first | exact Or.inl rfl | exact Or.inr rfl | omega))
                    rw [v_short_12 hwx]
                    rw [if_neg (by omega)]
                    exact e3
              · exfalso; omega
      · rw [hM1]
        rw [g_chain_e hx] at hq1
        cases hq1
        refine x_if_eq 14 49 rfl dX11_testOf_11 (by decide) (fun c11 => ?_) (fun c11 => ?_)
        · refine x_iload_n 50 rfl dX11_testOf_49 2 rfl rfl ?_
          refine x_retz dX11_testOf_50 rfl (by omega) ?_
          left; exact ⟨hl1, hb0, _, hwx, rfl, hx1, rfl⟩
        · exfalso; omega
  refine zX_of pl_RX11 [some (zn 55), some (zi live), none, none] 2 rfl rfl ?_
  refine x_aload_n 1 rfl dX11_testOf_0 0 rfl rfl ?_
  refine x_iload_n 2 rfl dX11_testOf_1 1 rfl rfl ?_
  refine x_cVi 5 rfl lX11_291 dX11_testOf_2 (lyl55 hL) (lys55 hL) (c_X11_bothOf hL hM hT hlv hb hO hi hE hA htest hq0) rfl rfl (Nat.le_of_ble_eq_true rfl) (fun r M2 hr2 => ?_)
  rcases hr2 with ⟨e1, e2, x2, e3, rfl, e5, hM2⟩ | ⟨e1, e2, e3, e4, hM2⟩ | ⟨e1, e4, hM2⟩
  · rw [hM2]
    refine y_istore_n 6 rfl dX11_testOf_5 rfl rfl (ls' := [_, _, _, _]) rfl (by decide) ?_
    exact loopL e1 e2 401 s0 w0 _ hA0 (by omega) hq1 e3 e5
  · rw [hM2]
    refine y_istore_n 6 rfl dX11_testOf_5 rfl rfl (ls' := [_, _, _, _]) rfl (by decide) ?_
    exact loopD 401 s0 w0 1 _ (Or.inr rfl) hA0 (by omega) hq1 (fun r hr => Or.inr (Or.inl ⟨e1, e2, g_chain_none 401 _ _ _ _ hq1 e3, hr, rfl⟩)) (Or.inr rfl) e4
  · rw [hM2]
    refine y_istore_n 6 rfl dX11_testOf_5 rfl rfl (ls' := [_, _, _, _]) rfl (by decide) ?_
    exact loopD 401 s0 w0 b _ e1 hA0 (by omega) hq1 (fun r hr => Or.inr (Or.inr ⟨e1, hr, rfl⟩)) hb e4

theorem c_X11_testOfD {sz : Nat} {S : zSh} {M : zMem} (hL : LY S sz) {B n : Nat} {c v : Nat → Int} (hM : EVM M B n c v) (hT : TK c v n) {o : Bool} (hO : M 55 25 = (if o = true then 1 else 0)) (hi : KI (M 57)) (hE : mEb M o)  : ∀ (D : Nat) {d : Nat} {live b : Int}, (live = 0 ∨ live = 1) → (b = 0 ∨ b = 1) → ∀ {s s' : gS} {w : gV}, gA n s → g_testD c v o D s = .inr (s', w) → zX (d + 4 * D + 9) 0 0 mX11_testOf [zn 55, zi live] sz S (ev M ((B + s.1 : Nat) : Int) b) (zI sz S (fun r M' => EVT M B live b (w (mE M o)) s'.1 r M'))
  | 0, d, live, b, hlv, hb, s, s', w, hA, hq => c_X11_testOf hL hM hT hlv hb hO hi hE hA (inner := none) (D := 0) (fun f h => by cases h) hq
  | D + 1, d, live, b, hlv, hb, s, s', w, hA, hq => by
    refine c_X11_testOf hL hM hT hlv hb hO hi hE hA (inner := some (g_testD c v o D)) (D := D + 1) (fun f h => ?_) hq
    cases h
    refine ⟨gG_testD hT D, fun s1 s2 w1 live1 b1 hl1 hb1 hA1 hq1 => ?_⟩
    rw [show d + 4 * (D + 1) + 5 = d + 4 * D + 9 by omega]
    exact c_X11_testOfD hL hM hT hO hi hE D (d := d) hl1 hb1 hA1 hq1
