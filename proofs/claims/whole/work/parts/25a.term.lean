set_option maxRecDepth 100000 in
set_option maxHeartbeats 4000000 in
theorem c_X11_termOf {d sz : Nat} {S : zSh} {M : zMem} (hL : LY S sz) {B n : Nat} {c v : Nat → Int} (hM : EVM M B n c v) (hT : TK c v n) {live b : Int} (hlv : live = 0 ∨ live = 1) (hb : b = 0 ∨ b = 1) {o : Bool} (hO : M 55 25 = (if o = true then 1 else 0)) (hi : KI (M 57)) (hE : mEb M o) {s s' : gS} {w : gV} (hA : gA n s) {inner : Option (gS → gR)} (hin : ∀ f, inner = some f → gG n f ∧ ∀ (s1 s2 : gS) (w1 : gV) (b1 : Int), (b1 = 0 ∨ b1 = 1) → gA n s1 → f s1 = .inr (s2, w1) → zX (d + 2) 0 0 mX11_sumOf [zn 55, zi live] sz S (ev M ((B + s1.1 : Nat) : Int) b1) (zJ sz S (fun r M' => EVO M B live b1 (w1 (mE M o)) s2.1 r M'))) (hq : g_term c v o inner s = .inr (s', w)) : zX (d + 4) 0 0 mX11_termOf [zn 55, zi live] sz S (ev M ((B + s.1 : Nat) : Int) b) (zJ sz S (fun r M' => EVO M B live b (w (mE M o)) s'.1 r M')) := by
  have hq9 := hq
  unfold g_term at hq9
  obtain ⟨s0, w0, hq0, hq1⟩ := g_bd_r hq9
  clear hq9
  have hn := hT.1
  have hM2 := hM.2.1
  have hA1 := hA.1
  have hI : ∀ f, inner = some f → gG n f := fun f h => (hin f h).1
  have hG : gG n (g_part c v o inner) := gG_part hT hI
  have hA0 := gW_A hA ((hG s hA).2 s0 w0 hq0)
  have loopD : ∀ (f : Nat) (s1 : gS) (w1 : gV) (b1 : Int), (live = 0 ∨ b1 = 1) → gA n s1 → n < f + s1.1 → g_loop c gop_t (g_part c v o inner) f s1 w1 = .inr (s', w) → EVO M B live b (w (mE M o)) s'.1 0 (ev M ((B + s'.1 : Nat) : Int) b1) → (b1 = 0 ∨ b1 = 1) → zW mX11_termOf (d + 4) 0 0 [] (zJ sz S (fun r M' => EVO M B live b (w (mE M o)) s'.1 r M')) 6 [some (zn 55), some (zi live), some (zl 0), none, none, none, none] [] sz S (ev M ((B + s1.1 : Nat) : Int) b1) := by
    intro f
    induction f with
    | zero => intro s1 w1 b1 hd hB hf; have := hB.1; omega
    | succ f ih =>
      intro s1 w1 b1 hd hB hf hq1 hQ hb1
      have hB0 := hB.1
      refine x_aload_n 7 rfl dX11_termOf_6 0 rfl rfl ?_
      refine x_aload_n 8 rfl dX11_termOf_7 0 rfl rfl ?_
      refine x_geti 11 rfl fX11_249 dX11_termOf_8 (lyl55 hL) (lys55 hL) (by decide) ?_
      try simp (disch := omega) only [z_up_ne, z_up_nk, z_up_eq, z_mup_ne, z_mup_eq, Int.reduceToNat, Int.toNat_natCast, ev_22, ev_24, ev_o, ev_ne, ev_u22, ev_u24]
      refine x_cVi 14 rfl lX11_252 dX11_termOf_11 (lyl55 hL) (lys55 hL) (c_X11_codeAt hL hM hT hB.1) rfl rfl (Nat.le_of_ble_eq_true rfl) (fun r M1 hr1 => ?_)
      obtain ⟨rfl, hM1⟩ := hr1
      rw [hM1]
      refine x_bipush 16 rfl dX11_termOf_14 (by decide) ?_
      refine x_cSi 19 rfl lX11_211 dX11_termOf_16 (c_X11_signOf (by decide)) rfl rfl (Nat.le_of_ble_eq_true rfl) (fun r M1 hr1 => ?_)
      obtain ⟨rfl, hM1⟩ := hr1
      rw [hM1]
      refine x_icmp_eq 22 54 rfl dX11_termOf_19 (by decide) (fun c19 => ?_) (fun c19 => ?_)
      · have hopv : gop_t (c s1.1) = 5 := by rw [show c s1.1 = 142 by omega]; decide
        have hc1 : c s1.1 ≠ 0 := by omega
        rw [g_loop_s (by rw [hopv]; decide)] at hq1
        rw [hopv] at hq1
        obtain ⟨s2, w2, hq2, hq3⟩ := g_bd_r hq1
        have hB2 := gW_A hB (gW_ad hB (hT.lt hB.1 hc1))
        have hw9 := gW_step hT hG hB hc1 hq2 (x := 5) (by decide)
        have hw8 := hw9.1
        simp only [g_em] at hw8
        refine x_aload_n 55 rfl dX11_termOf_54 0 rfl rfl ?_
        refine x_aload_n 56 rfl dX11_termOf_55 0 rfl rfl ?_
        refine x_geti 59 rfl fX11_249 dX11_termOf_56 (lyl55 hL) (lys55 hL) (by decide) ?_
        try simp (disch := omega) only [z_up_ne, z_up_nk, z_up_eq, z_mup_ne, z_mup_eq, Int.reduceToNat, Int.toNat_natCast, ev_22, ev_24, ev_o, ev_ne, ev_u22, ev_u24]
        refine x_cVi 62 rfl lX11_252 dX11_termOf_59 (lyl55 hL) (lys55 hL) (c_X11_codeAt hL hM hT hB.1) rfl rfl (Nat.le_of_ble_eq_true rfl) (fun r M1 hr1 => ?_)
        obtain ⟨rfl, hM1⟩ := hr1
        rw [hM1]
        refine y_istore 64 rfl dX11_termOf_62 rfl (ls' := [_, _, _, _, _, _, _]) rfl (by decide) ?_
        refine x_aload_n 65 rfl dX11_termOf_64 0 rfl rfl ?_
        refine x_dupr 66 rfl dX11_termOf_65 ?_
        refine x_geti 69 rfl fX11_249 dX11_termOf_66 (lyl55 hL) (lys55 hL) (by decide) ?_
        try simp (disch := omega) only [z_up_ne, z_up_nk, z_up_eq, z_mup_ne, z_mup_eq, Int.reduceToNat, Int.toNat_natCast, ev_22, ev_24, ev_o, ev_ne, ev_u22, ev_u24]
        refine x_iconst 70 rfl dX11_termOf_69 (by decide) ?_
        refine y_iadd 71 rfl dX11_termOf_70 (by omega) ?_
        refine x_puti 74 rfl fX11_249 dX11_termOf_71 (lyl55 hL) (lys55 hL) (by decide) ?_
        try simp only [ev_22, ev_24, ev_o, ev_ne, ev_u22, ev_u24]
        rw [ev_ad]
        refine z_mem (M' := ev M ((B + (g_ad s1).1 : Nat) : Int) _) rfl ?_
        refine x_aload_n 75 rfl dX11_termOf_74 0 rfl rfl ?_
        refine x_iload_n 76 rfl dX11_termOf_75 1 rfl rfl ?_
        refine x_cVj 79 rfl lX11_270 dX11_termOf_76 (lyl55 hL) (lys55 hL) (c_X11_partOf hL hM hT hlv hb1 hO hi hE hB2 hin hq2) rfl rfl (Nat.le_of_ble_eq_true rfl) (fun r M2 hr2 => ?_)
        rcases hr2 with ⟨e1, e2, x2, e3, rfl, e5, hM2⟩ | ⟨e1, e2, e3, rfl, hM2⟩ | ⟨e1, rfl, hM2⟩
        · exfalso; omega
        · exfalso; omega
        · rw [hM2]
          refine y_lstore 81 rfl dX11_termOf_79 rfl (ls' := [_, _, _, _, _, _, _]) rfl (by decide) ?_
          refine x_iload 83 rfl dX11_termOf_81 rfl ?_
          refine x_bipush 85 rfl dX11_termOf_83 (by decide) ?_
          refine x_cSi 88 rfl lX11_211 dX11_termOf_85 (c_X11_signOf (by decide)) rfl rfl (Nat.le_of_ble_eq_true rfl) (fun r M1 hr1 => ?_)
          obtain ⟨rfl, hM1⟩ := hr1
          rw [hM1]
          refine x_icmp_eq 91 121 rfl dX11_termOf_88 (by decide) (fun c88 => ?_) (fun c88 => ?_)
          · refine x_aload_n 122 rfl dX11_termOf_121 0 rfl rfl ?_
            refine x_iload 124 rfl dX11_termOf_122 rfl ?_
            refine x_bipush 126 rfl dX11_termOf_124 (by decide) ?_
            refine x_cSi 129 rfl lX11_211 dX11_termOf_126 (c_X11_signOf (by decide)) rfl rfl (Nat.le_of_ble_eq_true rfl) (fun r M1 hr1 => ?_)
            obtain ⟨rfl, hM1⟩ := hr1
            rw [hM1]
            refine x_icmp_ne 132 139 rfl dX11_termOf_129 (by decide) (fun c129 => ?_) (fun c129 => ?_)
            · exfalso; omega
            · refine x_lload_n 133 rfl dX11_termOf_132 2 rfl rfl ?_
              refine x_lload 135 rfl dX11_termOf_133 rfl ?_
              refine y_lmul 136 rfl dX11_termOf_135 (by omega) ?_
              refine x_goto 160 dX11_termOf_136 (by decide) ?_
              refine x_iload_n 161 rfl dX11_termOf_160 1 rfl rfl ?_
              refine x_cVj 164 rfl lX11_266 dX11_termOf_161 (lyl55 hL) (lys55 hL) (c_X11_bounded hL hb1) rfl rfl (Nat.le_of_ble_eq_true rfl) (fun r M3 hr3 => ?_)
              rcases hr3 with ⟨f1, f2, rfl, hM3⟩ | ⟨f1, hr3, hM3⟩
              · exfalso; omega
              · have e9 : r = 0 := by rw [hr3]; split <;> first | rfl | omega | simp
                subst e9
                rw [hM3]
                refine y_lstore_n 165 rfl dX11_termOf_164 rfl rfl (ls' := [_, _, _, _, _, _, _]) rfl (by decide) ?_
                refine x_goto 6 dX11_termOf_165 (by decide) ?_
                refine z_wk (ls' := [some (zn 55), some (zi live), some (zl (0)), none, none, none, none]) ⟨rfl, rfl, rfl, trivial⟩ (ih (g_em s2 5) _ _ hd (gW_A hB hw9) (by simp only [g_em]; omega) hq3 hQ hb1)
          · exfalso; omega
      · refine x_aload_n 23 rfl dX11_termOf_22 0 rfl rfl ?_
        refine x_aload_n 24 rfl dX11_termOf_23 0 rfl rfl ?_
        refine x_geti 27 rfl fX11_249 dX11_termOf_24 (lyl55 hL) (lys55 hL) (by decide) ?_
        try simp (disch := omega) only [z_up_ne, z_up_nk, z_up_eq, z_mup_ne, z_mup_eq, Int.reduceToNat, Int.toNat_natCast, ev_22, ev_24, ev_o, ev_ne, ev_u22, ev_u24]
        refine x_cVi 30 rfl lX11_252 dX11_termOf_27 (lyl55 hL) (lys55 hL) (c_X11_codeAt hL hM hT hB.1) rfl rfl (Nat.le_of_ble_eq_true rfl) (fun r M1 hr1 => ?_)
        obtain ⟨rfl, hM1⟩ := hr1
        rw [hM1]
        refine x_bipush 32 rfl dX11_termOf_30 (by decide) ?_
        refine x_cSi 35 rfl lX11_211 dX11_termOf_32 (c_X11_signOf (by decide)) rfl rfl (Nat.le_of_ble_eq_true rfl) (fun r M1 hr1 => ?_)
        obtain ⟨rfl, hM1⟩ := hr1
        rw [hM1]
        refine x_icmp_eq 38 54 rfl dX11_termOf_35 (by decide) (fun c35 => ?_) (fun c35 => ?_)
        · have hopv : gop_t (c s1.1) = 6 := by rw [show c s1.1 = 147 by omega]; decide
          have hc1 : c s1.1 ≠ 0 := by omega
          rw [g_loop_s (by rw [hopv]; decide)] at hq1
          rw [hopv] at hq1
          obtain ⟨s2, w2, hq2, hq3⟩ := g_bd_r hq1
          have hB2 := gW_A hB (gW_ad hB (hT.lt hB.1 hc1))
          have hw9 := gW_step hT hG hB hc1 hq2 (x := 6) (by decide)
          have hw8 := hw9.1
          simp only [g_em] at hw8
          refine x_aload_n 55 rfl dX11_termOf_54 0 rfl rfl ?_
          refine x_aload_n 56 rfl dX11_termOf_55 0 rfl rfl ?_
          refine x_geti 59 rfl fX11_249 dX11_termOf_56 (lyl55 hL) (lys55 hL) (by decide) ?_
          try simp (disch := omega) only [z_up_ne, z_up_nk, z_up_eq, z_mup_ne, z_mup_eq, Int.reduceToNat, Int.toNat_natCast, ev_22, ev_24, ev_o, ev_ne, ev_u22, ev_u24]
          refine x_cVi 62 rfl lX11_252 dX11_termOf_59 (lyl55 hL) (lys55 hL) (c_X11_codeAt hL hM hT hB.1) rfl rfl (Nat.le_of_ble_eq_true rfl) (fun r M1 hr1 => ?_)
          obtain ⟨rfl, hM1⟩ := hr1
          rw [hM1]
          refine y_istore 64 rfl dX11_termOf_62 rfl (ls' := [_, _, _, _, _, _, _]) rfl (by decide) ?_
          refine x_aload_n 65 rfl dX11_termOf_64 0 rfl rfl ?_
          refine x_dupr 66 rfl dX11_termOf_65 ?_
          refine x_geti 69 rfl fX11_249 dX11_termOf_66 (lyl55 hL) (lys55 hL) (by decide) ?_
          try simp (disch := omega) only [z_up_ne, z_up_nk, z_up_eq, z_mup_ne, z_mup_eq, Int.reduceToNat, Int.toNat_natCast, ev_22, ev_24, ev_o, ev_ne, ev_u22, ev_u24]
          refine x_iconst 70 rfl dX11_termOf_69 (by decide) ?_
          refine y_iadd 71 rfl dX11_termOf_70 (by omega) ?_
          refine x_puti 74 rfl fX11_249 dX11_termOf_71 (lyl55 hL) (lys55 hL) (by decide) ?_
          try simp only [ev_22, ev_24, ev_o, ev_ne, ev_u22, ev_u24]
          rw [ev_ad]
          refine z_mem (M' := ev M ((B + (g_ad s1).1 : Nat) : Int) _) rfl ?_
          refine x_aload_n 75 rfl dX11_termOf_74 0 rfl rfl ?_
          refine x_iload_n 76 rfl dX11_termOf_75 1 rfl rfl ?_
          refine x_cVj 79 rfl lX11_270 dX11_termOf_76 (lyl55 hL) (lys55 hL) (c_X11_partOf hL hM hT hlv hb1 hO hi hE hB2 hin hq2) rfl rfl (Nat.le_of_ble_eq_true rfl) (fun r M2 hr2 => ?_)
          rcases hr2 with ⟨e1, e2, x2, e3, rfl, e5, hM2⟩ | ⟨e1, e2, e3, rfl, hM2⟩ | ⟨e1, rfl, hM2⟩
          · exfalso; omega
          · exfalso; omega
          · rw [hM2]
            refine y_lstore 81 rfl dX11_termOf_79 rfl (ls' := [_, _, _, _, _, _, _]) rfl (by decide) ?_
            refine x_iload 83 rfl dX11_termOf_81 rfl ?_
            refine x_bipush 85 rfl dX11_termOf_83 (by decide) ?_
            refine x_cSi 88 rfl lX11_211 dX11_termOf_85 (c_X11_signOf (by decide)) rfl rfl (Nat.le_of_ble_eq_true rfl) (fun r M1 hr1 => ?_)
            obtain ⟨rfl, hM1⟩ := hr1
            rw [hM1]
            refine x_icmp_eq 91 121 rfl dX11_termOf_88 (by decide) (fun c88 => ?_) (fun c88 => ?_)
            · exfalso; omega
            · refine x_lload 93 rfl dX11_termOf_91 rfl ?_
              refine x_lconst (x := 0) 94 rfl dX11_termOf_93 rfl ?_
              refine x_lcmp 95 rfl dX11_termOf_94 ?_
              refine x_if_ne 98 121 rfl dX11_termOf_95 (by decide) (fun c95 => ?_) (fun c95 => ?_)
              · rw [zcmp_eq] at c95
                exact absurd rfl c95
              · refine x_aload_n 99 rfl dX11_termOf_98 0 rfl rfl ?_
                refine x_aload_n 100 rfl dX11_termOf_99 0 rfl rfl ?_
                refine x_getz 103 rfl fX11_259 dX11_termOf_100 (lyl55 hL) (lys55 hL) (by decide) ?_
                try simp (disch := omega) only [z_up_ne, z_up_nk, z_up_eq, z_mup_ne, z_mup_eq, Int.reduceToNat, Int.toNat_natCast, ev_22, ev_24, ev_o, ev_ne, ev_u22, ev_u24]
                refine x_if_ne 106 110 rfl dX11_termOf_103 (by decide) (fun c103 => ?_) (fun c103 => ?_)
                · refine x_iconst 111 rfl dX11_termOf_110 (by decide) ?_
                  refine x_goto 115 dX11_termOf_111 (by decide) ?_
                  refine x_putz 118 rfl fX11_259 dX11_termOf_115 (lyl55 hL) (lys55 hL) (by decide) (by omega) ?_
                  try simp only [ev_22, ev_24, ev_o, ev_ne, ev_u22, ev_u24]
                  refine z_mem (M' := ev M ((B + s2.1 : Nat) : Int) b1) (by rw [show b1 = 1 by omega]) ?_
                  refine x_lconst (x := 1) 119 rfl dX11_termOf_118 rfl ?_
                  refine y_lstore 121 rfl dX11_termOf_119 rfl (ls' := [_, _, _, _, _, _, _]) rfl (by decide) ?_
                  refine x_aload_n 122 rfl dX11_termOf_121 0 rfl rfl ?_
                  refine x_iload 124 rfl dX11_termOf_122 rfl ?_
                  refine x_bipush 126 rfl dX11_termOf_124 (by decide) ?_
                  refine x_cSi 129 rfl lX11_211 dX11_termOf_126 (c_X11_signOf (by decide)) rfl rfl (Nat.le_of_ble_eq_true rfl) (fun r M1 hr1 => ?_)
                  obtain ⟨rfl, hM1⟩ := hr1
                  rw [hM1]
                  refine x_icmp_ne 132 139 rfl dX11_termOf_129 (by decide) (fun c129 => ?_) (fun c129 => ?_)
                  · refine x_iload 141 rfl dX11_termOf_139 rfl ?_
                    refine x_bipush 143 rfl dX11_termOf_141 (by decide) ?_
                    refine x_cSi 146 rfl lX11_211 dX11_termOf_143 (c_X11_signOf (by decide)) rfl rfl (Nat.le_of_ble_eq_true rfl) (fun r M1 hr1 => ?_)
                    obtain ⟨rfl, hM1⟩ := hr1
                    rw [hM1]
                    refine x_icmp_ne 149 156 rfl dX11_termOf_146 (by decide) (fun c146 => ?_) (fun c146 => ?_)
                    · exfalso; omega
                    · refine x_lload_n 150 rfl dX11_termOf_149 2 rfl rfl ?_
                      refine x_lload 152 rfl dX11_termOf_150 rfl ?_
                      refine x_ldiv 153 rfl dX11_termOf_152 (by decide) ?_
                      rw [show w64 (Int.tdiv 0 1) = 0 by decide]
                      refine x_goto 160 dX11_termOf_153 (by decide) ?_
                      refine x_iload_n 161 rfl dX11_termOf_160 1 rfl rfl ?_
                      refine x_cVj 164 rfl lX11_266 dX11_termOf_161 (lyl55 hL) (lys55 hL) (c_X11_bounded hL hb1) rfl rfl (Nat.le_of_ble_eq_true rfl) (fun r M3 hr3 => ?_)
                      rcases hr3 with ⟨f1, f2, rfl, hM3⟩ | ⟨f1, hr3, hM3⟩
                      · exfalso; omega
                      · have e9 : r = 0 := by rw [hr3]; split <;> first | rfl | omega | simp
                        subst e9
                        rw [hM3]
                        refine y_lstore_n 165 rfl dX11_termOf_164 rfl rfl (ls' := [_, _, _, _, _, _, _]) rfl (by decide) ?_
                        refine x_goto 6 dX11_termOf_165 (by decide) ?_
                        refine z_wk (ls' := [some (zn 55), some (zi live), some (zl (0)), none, none, none, none]) ⟨rfl, rfl, rfl, trivial⟩ (ih (g_em s2 6) _ _ hd (gW_A hB hw9) (by simp only [g_em]; omega) hq3 hQ hb1)
                  · exfalso; omega
                · refine x_iload_n 107 rfl dX11_termOf_106 1 rfl rfl ?_
                  refine x_if_eq 110 114 rfl dX11_termOf_107 (by decide) (fun c107 => ?_) (fun c107 => ?_)
                  · refine x_iconst 115 rfl dX11_termOf_114 (by decide) ?_
                    refine x_putz 118 rfl fX11_259 dX11_termOf_115 (lyl55 hL) (lys55 hL) (by decide) (by omega) ?_
                    try simp only [ev_22, ev_24, ev_o, ev_ne, ev_u22, ev_u24]
                    refine z_mem (M' := ev M ((B + s2.1 : Nat) : Int) b1) (by rw [show b1 = 0 by omega]) ?_
                    refine x_lconst (x := 1) 119 rfl dX11_termOf_118 rfl ?_
                    refine y_lstore 121 rfl dX11_termOf_119 rfl (ls' := [_, _, _, _, _, _, _]) rfl (by decide) ?_
                    refine x_aload_n 122 rfl dX11_termOf_121 0 rfl rfl ?_
                    refine x_iload 124 rfl dX11_termOf_122 rfl ?_
                    refine x_bipush 126 rfl dX11_termOf_124 (by decide) ?_
                    refine x_cSi 129 rfl lX11_211 dX11_termOf_126 (c_X11_signOf (by decide)) rfl rfl (Nat.le_of_ble_eq_true rfl) (fun r M1 hr1 => ?_)
                    obtain ⟨rfl, hM1⟩ := hr1
                    rw [hM1]
                    refine x_icmp_ne 132 139 rfl dX11_termOf_129 (by decide) (fun c129 => ?_) (fun c129 => ?_)
                    · refine x_iload 141 rfl dX11_termOf_139 rfl ?_
                      refine x_bipush 143 rfl dX11_termOf_141 (by decide) ?_
                      refine x_cSi 146 rfl lX11_211 dX11_termOf_143 (c_X11_signOf (by decide)) rfl rfl (Nat.le_of_ble_eq_true rfl) (fun r M1 hr1 => ?_)
                      obtain ⟨rfl, hM1⟩ := hr1
                      rw [hM1]
                      refine x_icmp_ne 149 156 rfl dX11_termOf_146 (by decide) (fun c146 => ?_) (fun c146 => ?_)
                      · exfalso; omega
                      · refine x_lload_n 150 rfl dX11_termOf_149 2 rfl rfl ?_
                        refine x_lload 152 rfl dX11_termOf_150 rfl ?_
                        refine x_ldiv 153 rfl dX11_termOf_152 (by decide) ?_
                        rw [show w64 (Int.tdiv 0 1) = 0 by decide]
                        refine x_goto 160 dX11_termOf_153 (by decide) ?_
                        refine x_iload_n 161 rfl dX11_termOf_160 1 rfl rfl ?_
                        refine x_cVj 164 rfl lX11_266 dX11_termOf_161 (lyl55 hL) (lys55 hL) (c_X11_bounded hL hb1) rfl rfl (Nat.le_of_ble_eq_true rfl) (fun r M3 hr3 => ?_)
                        rcases hr3 with ⟨f1, f2, rfl, hM3⟩ | ⟨f1, hr3, hM3⟩
                        · exfalso; omega
                        · have e9 : r = 0 := by rw [hr3]; split <;> first | rfl | omega | simp
                          subst e9
                          rw [hM3]
                          refine y_lstore_n 165 rfl dX11_termOf_164 rfl rfl (ls' := [_, _, _, _, _, _, _]) rfl (by decide) ?_
                          refine x_goto 6 dX11_termOf_165 (by decide) ?_
                          refine z_wk (ls' := [some (zn 55), some (zi live), some (zl (0)), none, none, none, none]) ⟨rfl, rfl, rfl, trivial⟩ (ih (g_em s2 6) _ _ hd (gW_A hB hw9) (by simp only [g_em]; omega) hq3 hQ hb1)
                    · exfalso; omega
                  · exfalso; omega
        · refine x_aload_n 39 rfl dX11_termOf_38 0 rfl rfl ?_
          refine x_aload_n 40 rfl dX11_termOf_39 0 rfl rfl ?_
          refine x_geti 43 rfl fX11_249 dX11_termOf_40 (lyl55 hL) (lys55 hL) (by decide) ?_
          try simp (disch := omega) only [z_up_ne, z_up_nk, z_up_eq, z_mup_ne, z_mup_eq, Int.reduceToNat, Int.toNat_natCast, ev_22, ev_24, ev_o, ev_ne, ev_u22, ev_u24]
          refine x_cVi 46 rfl lX11_252 dX11_termOf_43 (lyl55 hL) (lys55 hL) (c_X11_codeAt hL hM hT hB.1) rfl rfl (Nat.le_of_ble_eq_true rfl) (fun r M1 hr1 => ?_)
          obtain ⟨rfl, hM1⟩ := hr1
          rw [hM1]
          refine x_bipush 48 rfl dX11_termOf_46 (by decide) ?_
          refine x_cSi 51 rfl lX11_211 dX11_termOf_48 (c_X11_signOf (by decide)) rfl rfl (Nat.le_of_ble_eq_true rfl) (fun r M1 hr1 => ?_)
          obtain ⟨rfl, hM1⟩ := hr1
          rw [hM1]
          refine x_icmp_ne 54 168 rfl dX11_termOf_51 (by decide) (fun c51 => ?_) (fun c51 => ?_)
          · rw [g_loop_e (by unfold gop_t; repeat rw [if_neg (by omega)])] at hq1
            cases hq1
            refine x_lload_n 169 rfl dX11_termOf_168 2 rfl rfl ?_
            refine x_retj dX11_termOf_169 rfl ?_
            exact hQ
          · have hopv : gop_t (c s1.1) = 7 := by rw [show c s1.1 = 137 by omega]; decide
            have hc1 : c s1.1 ≠ 0 := by omega
            rw [g_loop_s (by rw [hopv]; decide)] at hq1
            rw [hopv] at hq1
            obtain ⟨s2, w2, hq2, hq3⟩ := g_bd_r hq1
            have hB2 := gW_A hB (gW_ad hB (hT.lt hB.1 hc1))
            have hw9 := gW_step hT hG hB hc1 hq2 (x := 7) (by decide)
            have hw8 := hw9.1
            simp only [g_em] at hw8
            refine x_aload_n 55 rfl dX11_termOf_54 0 rfl rfl ?_
            refine x_aload_n 56 rfl dX11_termOf_55 0 rfl rfl ?_
            refine x_geti 59 rfl fX11_249 dX11_termOf_56 (lyl55 hL) (lys55 hL) (by decide) ?_
            try simp (disch := omega) only [z_up_ne, z_up_nk, z_up_eq, z_mup_ne, z_mup_eq, Int.reduceToNat, Int.toNat_natCast, ev_22, ev_24, ev_o, ev_ne, ev_u22, ev_u24]
            refine x_cVi 62 rfl lX11_252 dX11_termOf_59 (lyl55 hL) (lys55 hL) (c_X11_codeAt hL hM hT hB.1) rfl rfl (Nat.le_of_ble_eq_true rfl) (fun r M1 hr1 => ?_)
            obtain ⟨rfl, hM1⟩ := hr1
            rw [hM1]
            refine y_istore 64 rfl dX11_termOf_62 rfl (ls' := [_, _, _, _, _, _, _]) rfl (by decide) ?_
            refine x_aload_n 65 rfl dX11_termOf_64 0 rfl rfl ?_
            refine x_dupr 66 rfl dX11_termOf_65 ?_
            refine x_geti 69 rfl fX11_249 dX11_termOf_66 (lyl55 hL) (lys55 hL) (by decide) ?_
            try simp (disch := omega) only [z_up_ne, z_up_nk, z_up_eq, z_mup_ne, z_mup_eq, Int.reduceToNat, Int.toNat_natCast, ev_22, ev_24, ev_o, ev_ne, ev_u22, ev_u24]
            refine x_iconst 70 rfl dX11_termOf_69 (by decide) ?_
            refine y_iadd 71 rfl dX11_termOf_70 (by omega) ?_
            refine x_puti 74 rfl fX11_249 dX11_termOf_71 (lyl55 hL) (lys55 hL) (by decide) ?_
            try simp only [ev_22, ev_24, ev_o, ev_ne, ev_u22, ev_u24]
            rw [ev_ad]
            refine z_mem (M' := ev M ((B + (g_ad s1).1 : Nat) : Int) _) rfl ?_
            refine x_aload_n 75 rfl dX11_termOf_74 0 rfl rfl ?_
            refine x_iload_n 76 rfl dX11_termOf_75 1 rfl rfl ?_
            refine x_cVj 79 rfl lX11_270 dX11_termOf_76 (lyl55 hL) (lys55 hL) (c_X11_partOf hL hM hT hlv hb1 hO hi hE hB2 hin hq2) rfl rfl (Nat.le_of_ble_eq_true rfl) (fun r M2 hr2 => ?_)
            rcases hr2 with ⟨e1, e2, x2, e3, rfl, e5, hM2⟩ | ⟨e1, e2, e3, rfl, hM2⟩ | ⟨e1, rfl, hM2⟩
            · exfalso; omega
            · exfalso; omega
            · rw [hM2]
              refine y_lstore 81 rfl dX11_termOf_79 rfl (ls' := [_, _, _, _, _, _, _]) rfl (by decide) ?_
              refine x_iload 83 rfl dX11_termOf_81 rfl ?_
              refine x_bipush 85 rfl dX11_termOf_83 (by decide) ?_
              refine x_cSi 88 rfl lX11_211 dX11_termOf_85 (c_X11_signOf (by decide)) rfl rfl (Nat.le_of_ble_eq_true rfl) (fun r M1 hr1 => ?_)
              obtain ⟨rfl, hM1⟩ := hr1
              rw [hM1]
              refine x_icmp_eq 91 121 rfl dX11_termOf_88 (by decide) (fun c88 => ?_) (fun c88 => ?_)
              · exfalso; omega
              · refine x_lload 93 rfl dX11_termOf_91 rfl ?_
                refine x_lconst (x := 0) 94 rfl dX11_termOf_93 rfl ?_
                refine x_lcmp 95 rfl dX11_termOf_94 ?_
                refine x_if_ne 98 121 rfl dX11_termOf_95 (by decide) (fun c95 => ?_) (fun c95 => ?_)
                · rw [zcmp_eq] at c95
                  exact absurd rfl c95
                · refine x_aload_n 99 rfl dX11_termOf_98 0 rfl rfl ?_
                  refine x_aload_n 100 rfl dX11_termOf_99 0 rfl rfl ?_
                  refine x_getz 103 rfl fX11_259 dX11_termOf_100 (lyl55 hL) (lys55 hL) (by decide) ?_
                  try simp (disch := omega) only [z_up_ne, z_up_nk, z_up_eq, z_mup_ne, z_mup_eq, Int.reduceToNat, Int.toNat_natCast, ev_22, ev_24, ev_o, ev_ne, ev_u22, ev_u24]
                  refine x_if_ne 106 110 rfl dX11_termOf_103 (by decide) (fun c103 => ?_) (fun c103 => ?_)
                  · refine x_iconst 111 rfl dX11_termOf_110 (by decide) ?_
                    refine x_goto 115 dX11_termOf_111 (by decide) ?_
                    refine x_putz 118 rfl fX11_259 dX11_termOf_115 (lyl55 hL) (lys55 hL) (by decide) (by omega) ?_
                    try simp only [ev_22, ev_24, ev_o, ev_ne, ev_u22, ev_u24]
                    refine z_mem (M' := ev M ((B + s2.1 : Nat) : Int) b1) (by rw [show b1 = 1 by omega]) ?_
                    refine x_lconst (x := 1) 119 rfl dX11_termOf_118 rfl ?_
                    refine y_lstore 121 rfl dX11_termOf_119 rfl (ls' := [_, _, _, _, _, _, _]) rfl (by decide) ?_
                    refine x_aload_n 122 rfl dX11_termOf_121 0 rfl rfl ?_
                    refine x_iload 124 rfl dX11_termOf_122 rfl ?_
                    refine x_bipush 126 rfl dX11_termOf_124 (by decide) ?_
                    refine x_cSi 129 rfl lX11_211 dX11_termOf_126 (c_X11_signOf (by decide)) rfl rfl (Nat.le_of_ble_eq_true rfl) (fun r M1 hr1 => ?_)
                    obtain ⟨rfl, hM1⟩ := hr1
                    rw [hM1]
                    refine x_icmp_ne 132 139 rfl dX11_termOf_129 (by decide) (fun c129 => ?_) (fun c129 => ?_)
                    · refine x_iload 141 rfl dX11_termOf_139 rfl ?_
                      refine x_bipush 143 rfl dX11_termOf_141 (by decide) ?_
                      refine x_cSi 146 rfl lX11_211 dX11_termOf_143 (c_X11_signOf (by decide)) rfl rfl (Nat.le_of_ble_eq_true rfl) (fun r M1 hr1 => ?_)
                      obtain ⟨rfl, hM1⟩ := hr1
                      rw [hM1]
                      refine x_icmp_ne 149 156 rfl dX11_termOf_146 (by decide) (fun c146 => ?_) (fun c146 => ?_)
                      · refine x_lload_n 157 rfl dX11_termOf_156 2 rfl rfl ?_
                        refine x_lload 159 rfl dX11_termOf_157 rfl ?_
                        refine x_lrem 160 rfl dX11_termOf_159 (by decide) ?_
                        rw [show Int.tmod 0 1 = 0 by decide]
                        refine x_iload_n 161 rfl dX11_termOf_160 1 rfl rfl ?_
                        refine x_cVj 164 rfl lX11_266 dX11_termOf_161 (lyl55 hL) (lys55 hL) (c_X11_bounded hL hb1) rfl rfl (Nat.le_of_ble_eq_true rfl) (fun r M3 hr3 => ?_)
                        rcases hr3 with ⟨f1, f2, rfl, hM3⟩ | ⟨f1, hr3, hM3⟩
                        · exfalso; omega
                        · have e9 : r = 0 := by rw [hr3]; split <;> first | rfl | omega | simp
                          subst e9
                          rw [hM3]
                          refine y_lstore_n 165 rfl dX11_termOf_164 rfl rfl (ls' := [_, _, _, _, _, _, _]) rfl (by decide) ?_
                          refine x_goto 6 dX11_termOf_165 (by decide) ?_
                          refine z_wk (ls' := [some (zn 55), some (zi live), some (zl (0)), none, none, none, none]) ⟨rfl, rfl, rfl, trivial⟩ (ih (g_em s2 7) _ _ hd (gW_A hB hw9) (by simp only [g_em]; omega) hq3 hQ hb1)
                      · exfalso; omega
                    · exfalso; omega
                  · refine x_iload_n 107 rfl dX11_termOf_106 1 rfl rfl ?_
                    refine x_if_eq 110 114 rfl dX11_termOf_107 (by decide) (fun c107 => ?_) (fun c107 => ?_)
                    · refine x_iconst 115 rfl dX11_termOf_114 (by decide) ?_
                      refine x_putz 118 rfl fX11_259 dX11_termOf_115 (lyl55 hL) (lys55 hL) (by decide) (by omega) ?_
                      try simp only [ev_22, ev_24, ev_o, ev_ne, ev_u22, ev_u24]
                      refine z_mem (M' := ev M ((B + s2.1 : Nat) : Int) b1) (by rw [show b1 = 0 by omega]) ?_
                      refine x_lconst (x := 1) 119 rfl dX11_termOf_118 rfl ?_
                      refine y_lstore 121 rfl dX11_termOf_119 rfl (ls' := [_, _, _, _, _, _, _]) rfl (by decide) ?_
                      refine x_aload_n 122 rfl dX11_termOf_121 0 rfl rfl ?_
                      refine x_iload 124 rfl dX11_termOf_122 rfl ?_
                      refine x_bipush 126 rfl dX11_termOf_124 (by decide) ?_
                      refine x_cSi 129 rfl lX11_211 dX11_termOf_126 (c_X11_signOf (by decide)) rfl rfl (Nat.le_of_ble_eq_true rfl) (fun r M1 hr1 => ?_)
                      obtain ⟨rfl, hM1⟩ := hr1
                      rw [hM1]
                      refine x_icmp_ne 132 139 rfl dX11_termOf_129 (by decide) (fun c129 => ?_) (fun c129 => ?_)
                      · refine x_iload 141 rfl dX11_termOf_139 rfl ?_
                        refine x_bipush 143 rfl dX11_termOf_141 (by decide) ?_
                        refine x_cSi 146 rfl lX11_211 dX11_termOf_143 (c_X11_signOf (by decide)) rfl rfl (Nat.le_of_ble_eq_true rfl) (fun r M1 hr1 => ?_)
                        obtain ⟨rfl, hM1⟩ := hr1
                        rw [hM1]
                        refine x_icmp_ne 149 156 rfl dX11_termOf_146 (by decide) (fun c146 => ?_) (fun c146 => ?_)
                        · refine x_lload_n 157 rfl dX11_termOf_156 2 rfl rfl ?_
                          refine x_lload 159 rfl dX11_termOf_157 rfl ?_
                          refine x_lrem 160 rfl dX11_termOf_159 (by decide) ?_
                          rw [show Int.tmod 0 1 = 0 by decide]
                          refine x_iload_n 161 rfl dX11_termOf_160 1 rfl rfl ?_
                          refine x_cVj 164 rfl lX11_266 dX11_termOf_161 (lyl55 hL) (lys55 hL) (c_X11_bounded hL hb1) rfl rfl (Nat.le_of_ble_eq_true rfl) (fun r M3 hr3 => ?_)
                          rcases hr3 with ⟨f1, f2, rfl, hM3⟩ | ⟨f1, hr3, hM3⟩
                          · exfalso; omega
                          · have e9 : r = 0 := by rw [hr3]; split <;> first | rfl | omega | simp
                            subst e9
                            rw [hM3]
                            refine y_lstore_n 165 rfl dX11_termOf_164 rfl rfl (ls' := [_, _, _, _, _, _, _]) rfl (by decide) ?_
                            refine x_goto 6 dX11_termOf_165 (by decide) ?_
                            refine z_wk (ls' := [some (zn 55), some (zi live), some (zl (0)), none, none, none, none]) ⟨rfl, rfl, rfl, trivial⟩ (ih (g_em s2 7) _ _ hd (gW_A hB hw9) (by simp only [g_em]; omega) hq3 hQ hb1)
                        · exfalso; omega
                      · exfalso; omega
                    · exfalso; omega
  have loopL : live = 1 → b = 0 → ∀ (f : Nat) (s1 : gS) (w1 : gV) (x : Int), gA n s1 → n < f + s1.1 → g_loop c gop_t (g_part c v o inner) f s1 w1 = .inr (s', w) → w1 (mE M o) = some x → (-1000000000 ≤ x ∧ x ≤ 1000000000) → zW mX11_termOf (d + 4) 0 0 [] (zJ sz S (fun r M' => EVO M B live b (w (mE M o)) s'.1 r M')) 6 [some (zn 55), some (zi live), some (zl x), none, none, none, none] [] sz S (ev M ((B + s1.1 : Nat) : Int) 0) := by
    intro hl1 hb0 f
    induction f with
    | zero => intro s1 w1 x hB hf; have := hB.1; omega
    | succ f ih =>
      intro s1 w1 x hB hf hq1 hwx hx1
      have hB0 := hB.1
      refine x_aload_n 7 rfl dX11_termOf_6 0 rfl rfl ?_
      refine x_aload_n 8 rfl dX11_termOf_7 0 rfl rfl ?_
      refine x_geti 11 rfl fX11_249 dX11_termOf_8 (lyl55 hL) (lys55 hL) (by decide) ?_
      try simp (disch := omega) only [z_up_ne, z_up_nk, z_up_eq, z_mup_ne, z_mup_eq, Int.reduceToNat, Int.toNat_natCast, ev_22, ev_24, ev_o, ev_ne, ev_u22, ev_u24]
      refine x_cVi 14 rfl lX11_252 dX11_termOf_11 (lyl55 hL) (lys55 hL) (c_X11_codeAt hL hM hT hB.1) rfl rfl (Nat.le_of_ble_eq_true rfl) (fun r M1 hr1 => ?_)
      obtain ⟨rfl, hM1⟩ := hr1
      rw [hM1]
      refine x_bipush 16 rfl dX11_termOf_14 (by decide) ?_
      refine x_cSi 19 rfl lX11_211 dX11_termOf_16 (c_X11_signOf (by decide)) rfl rfl (Nat.le_of_ble_eq_true rfl) (fun r M1 hr1 => ?_)
      obtain ⟨rfl, hM1⟩ := hr1
      rw [hM1]
      refine x_icmp_eq 22 54 rfl dX11_termOf_19 (by decide) (fun c19 => ?_) (fun c19 => ?_)
      · have hopv : gop_t (c s1.1) = 5 := by rw [show c s1.1 = 142 by omega]; decide
        have hc1 : c s1.1 ≠ 0 := by omega
        rw [g_loop_s (by rw [hopv]; decide)] at hq1
        rw [hopv] at hq1
        obtain ⟨s2, w2, hq2, hq3⟩ := g_bd_r hq1
        have hB2 := gW_A hB (gW_ad hB (hT.lt hB.1 hc1))
        have hw9 := gW_step hT hG hB hc1 hq2 (x := 5) (by decide)
        have hw8 := hw9.1
        simp only [g_em] at hw8
        refine x_aload_n 55 rfl dX11_termOf_54 0 rfl rfl ?_
        refine x_aload_n 56 rfl dX11_termOf_55 0 rfl rfl ?_
        refine x_geti 59 rfl fX11_249 dX11_termOf_56 (lyl55 hL) (lys55 hL) (by decide) ?_
        try simp (disch := omega) only [z_up_ne, z_up_nk, z_up_eq, z_mup_ne, z_mup_eq, Int.reduceToNat, Int.toNat_natCast, ev_22, ev_24, ev_o, ev_ne, ev_u22, ev_u24]
        refine x_cVi 62 rfl lX11_252 dX11_termOf_59 (lyl55 hL) (lys55 hL) (c_X11_codeAt hL hM hT hB.1) rfl rfl (Nat.le_of_ble_eq_true rfl) (fun r M1 hr1 => ?_)
        obtain ⟨rfl, hM1⟩ := hr1
        rw [hM1]
        refine y_istore 64 rfl dX11_termOf_62 rfl (ls' := [_, _, _, _, _, _, _]) rfl (by decide) ?_
        refine x_aload_n 65 rfl dX11_termOf_64 0 rfl rfl ?_
        refine x_dupr 66 rfl dX11_termOf_65 ?_
        refine x_geti 69 rfl fX11_249 dX11_termOf_66 (lyl55 hL) (lys55 hL) (by decide) ?_
        try simp (disch := omega) only [z_up_ne, z_up_nk, z_up_eq, z_mup_ne, z_mup_eq, Int.reduceToNat, Int.toNat_natCast, ev_22, ev_24, ev_o, ev_ne, ev_u22, ev_u24]
        refine x_iconst 70 rfl dX11_termOf_69 (by decide) ?_
        refine y_iadd 71 rfl dX11_termOf_70 (by omega) ?_
        refine x_puti 74 rfl fX11_249 dX11_termOf_71 (lyl55 hL) (lys55 hL) (by decide) ?_
        try simp only [ev_22, ev_24, ev_o, ev_ne, ev_u22, ev_u24]
        rw [ev_ad]
        refine z_mem (M' := ev M ((B + (g_ad s1).1 : Nat) : Int) _) rfl ?_
        refine x_aload_n 75 rfl dX11_termOf_74 0 rfl rfl ?_
        refine x_iload_n 76 rfl dX11_termOf_75 1 rfl rfl ?_
        refine x_cVj 79 rfl lX11_270 dX11_termOf_76 (lyl55 hL) (lys55 hL) (c_X11_partOf hL hM hT hlv (Or.inl rfl) hO hi hE hB2 hin hq2) rfl rfl (Nat.le_of_ble_eq_true rfl) (fun r M2 hr2 => ?_)
        rcases hr2 with ⟨e1, e2, x2, e3, rfl, e5, hM2⟩ | ⟨e1, e2, e3, rfl, hM2⟩ | ⟨e1, rfl, hM2⟩
        · rw [hM2]
          have hm := z_mulabs (l := x) (r := r) (by omega) (by omega)
          refine y_lstore 81 rfl dX11_termOf_79 rfl (ls' := [_, _, _, _, _, _, _]) rfl (by decide) ?_
          refine x_iload 83 rfl dX11_termOf_81 rfl ?_
          refine x_bipush 85 rfl dX11_termOf_83 (by decide) ?_
          refine x_cSi 88 rfl lX11_211 dX11_termOf_85 (c_X11_signOf (by decide)) rfl rfl (Nat.le_of_ble_eq_true rfl) (fun r M1 hr1 => ?_)
          obtain ⟨rfl, hM1⟩ := hr1
          rw [hM1]
          refine x_icmp_eq 91 121 rfl dX11_termOf_88 (by decide) (fun c88 => ?_) (fun c88 => ?_)
          · refine x_aload_n 122 rfl dX11_termOf_121 0 rfl rfl ?_
            refine x_iload 124 rfl dX11_termOf_122 rfl ?_
            refine x_bipush 126 rfl dX11_termOf_124 (by decide) ?_
            refine x_cSi 129 rfl lX11_211 dX11_termOf_126 (c_X11_signOf (by decide)) rfl rfl (Nat.le_of_ble_eq_true rfl) (fun r M1 hr1 => ?_)
            obtain ⟨rfl, hM1⟩ := hr1
            rw [hM1]
            refine x_icmp_ne 132 139 rfl dX11_termOf_129 (by decide) (fun c129 => ?_) (fun c129 => ?_)
            · exfalso; omega
            · refine x_lload_n 133 rfl dX11_termOf_132 2 rfl rfl ?_
              refine x_lload 135 rfl dX11_termOf_133 rfl ?_
              refine y_lmul 136 rfl dX11_termOf_135 (by omega) ?_
              refine x_goto 160 dX11_termOf_136 (by decide) ?_
              refine x_iload_n 161 rfl dX11_termOf_160 1 rfl rfl ?_
              refine x_cVj 164 rfl lX11_266 dX11_termOf_161 (lyl55 hL) (lys55 hL) (c_X11_bounded hL (Or.inl rfl)) rfl rfl (Nat.le_of_ble_eq_true rfl) (fun r3 M3 hr3 => ?_)
              rcases hr3 with ⟨f1, f2, rfl, hM3⟩ | ⟨f1, hr3, hM3⟩
              · rw [hM3]
                refine y_lstore_n 165 rfl dX11_termOf_164 rfl rfl (ls' := [_, _, _, _, _, _, _]) rfl (by decide) ?_
                refine x_goto 6 dX11_termOf_165 (by decide) ?_
                refine z_wk (ls' := [some (zn 55), some (zi live), some (zl (0)), none, none, none, none]) ⟨rfl, rfl, rfl, trivial⟩ (loopD f (g_em s2 5) _ 1 (Or.inr rfl) (gW_A hB hw9) (by simp only [g_em]; omega) hq3 (Or.inr (Or.inl ⟨hl1, hb0, g_loop_none f _ _ _ _ hq3 ?_, rfl, rfl⟩)) (Or.inr rfl))
                simp only [v_join, hwx, e3]
                rw [if_pos (by unfold zjoin zclip zBK; simp; omega)]
              · rw [if_neg (by decide)] at hr3
                subst hr3
                rw [hM3]
                refine y_lstore_n 165 rfl dX11_termOf_164 rfl rfl (ls' := [_, _, _, _, _, _, _]) rfl (by decide) ?_
                refine x_goto 6 dX11_termOf_165 (by decide) ?_
                refine z_wk (ls' := [some (zn 55), some (zi live), some (zl (_)), none, none, none, none]) ⟨rfl, rfl, rfl, trivial⟩ (ih (g_em s2 5) _ _ (gW_A hB hw9) (by simp only [g_em]; omega) hq3 ?_ (by omega))
                simp only [v_join, hwx, e3]
                rw [show zjoin 5 x r = x * r by unfold zjoin zclip; simp; omega, if_neg (by unfold zBK; omega)]
          · exfalso; omega
        · rw [hM2]
          refine y_lstore 81 rfl dX11_termOf_79 rfl (ls' := [_, _, _, _, _, _, _]) rfl (by decide) ?_
          refine x_iload 83 rfl dX11_termOf_81 rfl ?_
          refine x_bipush 85 rfl dX11_termOf_83 (by decide) ?_
          refine x_cSi 88 rfl lX11_211 dX11_termOf_85 (c_X11_signOf (by decide)) rfl rfl (Nat.le_of_ble_eq_true rfl) (fun r M1 hr1 => ?_)
          obtain ⟨rfl, hM1⟩ := hr1
          rw [hM1]
          refine x_icmp_eq 91 121 rfl dX11_termOf_88 (by decide) (fun c88 => ?_) (fun c88 => ?_)
          · refine x_aload_n 122 rfl dX11_termOf_121 0 rfl rfl ?_
            refine x_iload 124 rfl dX11_termOf_122 rfl ?_
            refine x_bipush 126 rfl dX11_termOf_124 (by decide) ?_
            refine x_cSi 129 rfl lX11_211 dX11_termOf_126 (c_X11_signOf (by decide)) rfl rfl (Nat.le_of_ble_eq_true rfl) (fun r M1 hr1 => ?_)
            obtain ⟨rfl, hM1⟩ := hr1
            rw [hM1]
            refine x_icmp_ne 132 139 rfl dX11_termOf_129 (by decide) (fun c129 => ?_) (fun c129 => ?_)
            · exfalso; omega
            · refine x_lload_n 133 rfl dX11_termOf_132 2 rfl rfl ?_
              refine x_lload 135 rfl dX11_termOf_133 rfl ?_
              refine y_lmul 136 rfl dX11_termOf_135 (by omega) ?_
              refine x_goto 160 dX11_termOf_136 (by decide) ?_
              refine x_iload_n 161 rfl dX11_termOf_160 1 rfl rfl ?_
              refine x_cVj 164 rfl lX11_266 dX11_termOf_161 (lyl55 hL) (lys55 hL) (c_X11_bounded hL (Or.inr rfl)) rfl rfl (Nat.le_of_ble_eq_true rfl) (fun r3 M3 hr3 => ?_)
              rcases hr3 with ⟨f1, f2, rfl, hM3⟩ | ⟨f1, hr3, hM3⟩
              · exfalso; omega
              · rw [if_pos rfl] at hr3
                subst hr3
                rw [hM3]
                refine y_lstore_n 165 rfl dX11_termOf_164 rfl rfl (ls' := [_, _, _, _, _, _, _]) rfl (by decide) ?_
                refine x_goto 6 dX11_termOf_165 (by decide) ?_
                refine z_wk (ls' := [some (zn 55), some (zi live), some (zl (0)), none, none, none, none]) ⟨rfl, rfl, rfl, trivial⟩ (loopD f (g_em s2 5) _ 1 (Or.inr rfl) (gW_A hB hw9) (by simp only [g_em]; omega) hq3 (Or.inr (Or.inl ⟨hl1, hb0, g_loop_none f _ _ _ _ hq3 ?_, rfl, rfl⟩)) (Or.inr rfl))
                simp only [v_join, hwx, e3]
          · exfalso; omega
        · exfalso; omega
      · refine x_aload_n 23 rfl dX11_termOf_22 0 rfl rfl ?_
        refine x_aload_n 24 rfl dX11_termOf_23 0 rfl rfl ?_
        refine x_geti 27 rfl fX11_249 dX11_termOf_24 (lyl55 hL) (lys55 hL) (by decide) ?_
        try simp (disch := omega) only [z_up_ne, z_up_nk, z_up_eq, z_mup_ne, z_mup_eq, Int.reduceToNat, Int.toNat_natCast, ev_22, ev_24, ev_o, ev_ne, ev_u22, ev_u24]
        refine x_cVi 30 rfl lX11_252 dX11_termOf_27 (lyl55 hL) (lys55 hL) (c_X11_codeAt hL hM hT hB.1) rfl rfl (Nat.le_of_ble_eq_true rfl) (fun r M1 hr1 => ?_)
        obtain ⟨rfl, hM1⟩ := hr1
        rw [hM1]
        refine x_bipush 32 rfl dX11_termOf_30 (by decide) ?_
        refine x_cSi 35 rfl lX11_211 dX11_termOf_32 (c_X11_signOf (by decide)) rfl rfl (Nat.le_of_ble_eq_true rfl) (fun r M1 hr1 => ?_)
        obtain ⟨rfl, hM1⟩ := hr1
        rw [hM1]
        refine x_icmp_eq 38 54 rfl dX11_termOf_35 (by decide) (fun c35 => ?_) (fun c35 => ?_)
        · have hopv : gop_t (c s1.1) = 6 := by rw [show c s1.1 = 147 by omega]; decide
          have hc1 : c s1.1 ≠ 0 := by omega
          rw [g_loop_s (by rw [hopv]; decide)] at hq1
          rw [hopv] at hq1
          obtain ⟨s2, w2, hq2, hq3⟩ := g_bd_r hq1
          have hB2 := gW_A hB (gW_ad hB (hT.lt hB.1 hc1))
          have hw9 := gW_step hT hG hB hc1 hq2 (x := 6) (by decide)
          have hw8 := hw9.1
          simp only [g_em] at hw8
          refine x_aload_n 55 rfl dX11_termOf_54 0 rfl rfl ?_
          refine x_aload_n 56 rfl dX11_termOf_55 0 rfl rfl ?_
          refine x_geti 59 rfl fX11_249 dX11_termOf_56 (lyl55 hL) (lys55 hL) (by decide) ?_
          try simp (disch := omega) only [z_up_ne, z_up_nk, z_up_eq, z_mup_ne, z_mup_eq, Int.reduceToNat, Int.toNat_natCast, ev_22, ev_24, ev_o, ev_ne, ev_u22, ev_u24]
          refine x_cVi 62 rfl lX11_252 dX11_termOf_59 (lyl55 hL) (lys55 hL) (c_X11_codeAt hL hM hT hB.1) rfl rfl (Nat.le_of_ble_eq_true rfl) (fun r M1 hr1 => ?_)
          obtain ⟨rfl, hM1⟩ := hr1
          rw [hM1]
          refine y_istore 64 rfl dX11_termOf_62 rfl (ls' := [_, _, _, _, _, _, _]) rfl (by decide) ?_
          refine x_aload_n 65 rfl dX11_termOf_64 0 rfl rfl ?_
          refine x_dupr 66 rfl dX11_termOf_65 ?_
          refine x_geti 69 rfl fX11_249 dX11_termOf_66 (lyl55 hL) (lys55 hL) (by decide) ?_
          try simp (disch := omega) only [z_up_ne, z_up_nk, z_up_eq, z_mup_ne, z_mup_eq, Int.reduceToNat, Int.toNat_natCast, ev_22, ev_24, ev_o, ev_ne, ev_u22, ev_u24]
          refine x_iconst 70 rfl dX11_termOf_69 (by decide) ?_
          refine y_iadd 71 rfl dX11_termOf_70 (by omega) ?_
          refine x_puti 74 rfl fX11_249 dX11_termOf_71 (lyl55 hL) (lys55 hL) (by decide) ?_
          try simp only [ev_22, ev_24, ev_o, ev_ne, ev_u22, ev_u24]
          rw [ev_ad]
          refine z_mem (M' := ev M ((B + (g_ad s1).1 : Nat) : Int) _) rfl ?_
          refine x_aload_n 75 rfl dX11_termOf_74 0 rfl rfl ?_
          refine x_iload_n 76 rfl dX11_termOf_75 1 rfl rfl ?_
          refine x_cVj 79 rfl lX11_270 dX11_termOf_76 (lyl55 hL) (lys55 hL) (c_X11_partOf hL hM hT hlv (Or.inl rfl) hO hi hE hB2 hin hq2) rfl rfl (Nat.le_of_ble_eq_true rfl) (fun r M2 hr2 => ?_)
          rcases hr2 with ⟨e1, e2, x2, e3, rfl, e5, hM2⟩ | ⟨e1, e2, e3, rfl, hM2⟩ | ⟨e1, rfl, hM2⟩
          · rw [hM2]
            have hm1 := z_tdivabs (l := x) (r := r)
            have hm2 := z_tmodabs (l := x) (r := r)
            refine y_lstore 81 rfl dX11_termOf_79 rfl (ls' := [_, _, _, _, _, _, _]) rfl (by decide) ?_
            refine x_iload 83 rfl dX11_termOf_81 rfl ?_
            refine x_bipush 85 rfl dX11_termOf_83 (by decide) ?_
            refine x_cSi 88 rfl lX11_211 dX11_termOf_85 (c_X11_signOf (by decide)) rfl rfl (Nat.le_of_ble_eq_true rfl) (fun r M1 hr1 => ?_)
            obtain ⟨rfl, hM1⟩ := hr1
            rw [hM1]
            refine x_icmp_eq 91 121 rfl dX11_termOf_88 (by decide) (fun c88 => ?_) (fun c88 => ?_)
            · exfalso; omega
            · refine x_lload 93 rfl dX11_termOf_91 rfl ?_
              refine x_lconst (x := 0) 94 rfl dX11_termOf_93 rfl ?_
              refine x_lcmp 95 rfl dX11_termOf_94 ?_
              refine x_if_ne 98 121 rfl dX11_termOf_95 (by decide) (fun c95 => ?_) (fun c95 => ?_)
              · rw [zcmp_eq] at c95
                refine x_aload_n 122 rfl dX11_termOf_121 0 rfl rfl ?_
                refine x_iload 124 rfl dX11_termOf_122 rfl ?_
                refine x_bipush 126 rfl dX11_termOf_124 (by decide) ?_
                refine x_cSi 129 rfl lX11_211 dX11_termOf_126 (c_X11_signOf (by decide)) rfl rfl (Nat.le_of_ble_eq_true rfl) (fun r M1 hr1 => ?_)
                obtain ⟨rfl, hM1⟩ := hr1
                rw [hM1]
                refine x_icmp_ne 132 139 rfl dX11_termOf_129 (by decide) (fun c129 => ?_) (fun c129 => ?_)
                · refine x_iload 141 rfl dX11_termOf_139 rfl ?_
                  refine x_bipush 143 rfl dX11_termOf_141 (by decide) ?_
                  refine x_cSi 146 rfl lX11_211 dX11_termOf_143 (c_X11_signOf (by decide)) rfl rfl (Nat.le_of_ble_eq_true rfl) (fun r M1 hr1 => ?_)
                  obtain ⟨rfl, hM1⟩ := hr1
                  rw [hM1]
                  refine x_icmp_ne 149 156 rfl dX11_termOf_146 (by decide) (fun c146 => ?_) (fun c146 => ?_)
                  · exfalso; omega
                  · refine x_lload_n 150 rfl dX11_termOf_149 2 rfl rfl ?_
                    refine x_lload 152 rfl dX11_termOf_150 rfl ?_
                    refine x_ldiv 153 rfl dX11_termOf_152 c95 ?_
                    rw [w64_id (by unfold z_i64; omega)]
                    refine x_goto 160 dX11_termOf_153 (by decide) ?_
                    refine x_iload_n 161 rfl dX11_termOf_160 1 rfl rfl ?_
                    refine x_cVj 164 rfl lX11_266 dX11_termOf_161 (lyl55 hL) (lys55 hL) (c_X11_bounded hL (Or.inl rfl)) rfl rfl (Nat.le_of_ble_eq_true rfl) (fun r3 M3 hr3 => ?_)
                    rcases hr3 with ⟨f1, f2, rfl, hM3⟩ | ⟨f1, hr3, hM3⟩
                    · rw [hM3]
                      refine y_lstore_n 165 rfl dX11_termOf_164 rfl rfl (ls' := [_, _, _, _, _, _, _]) rfl (by decide) ?_
                      refine x_goto 6 dX11_termOf_165 (by decide) ?_
                      refine z_wk (ls' := [some (zn 55), some (zi live), some (zl (0)), none, none, none, none]) ⟨rfl, rfl, rfl, trivial⟩ (loopD f (g_em s2 6) _ 1 (Or.inr rfl) (gW_A hB hw9) (by simp only [g_em]; omega) hq3 (Or.inr (Or.inl ⟨hl1, hb0, g_loop_none f _ _ _ _ hq3 ?_, rfl, rfl⟩)) (Or.inr rfl))
                      simp only [v_join, hwx, e3]
                      rw [if_pos (by unfold zjoin zclip zBK; simp; omega)]
                    · rw [if_neg (by decide)] at hr3
                      subst hr3
                      rw [hM3]
                      refine y_lstore_n 165 rfl dX11_termOf_164 rfl rfl (ls' := [_, _, _, _, _, _, _]) rfl (by decide) ?_
                      refine x_goto 6 dX11_termOf_165 (by decide) ?_
                      refine z_wk (ls' := [some (zn 55), some (zi live), some (zl (_)), none, none, none, none]) ⟨rfl, rfl, rfl, trivial⟩ (ih (g_em s2 6) _ _ (gW_A hB hw9) (by simp only [g_em]; omega) hq3 ?_ (by omega))
                      simp only [v_join, hwx, e3]
                      rw [show zjoin 6 x r = x.tdiv r by unfold zjoin zclip; simp [c95]; omega, if_neg (by unfold zBK; omega)]
                · exfalso; omega
              · have c95 : r = 0 := by rw [← zcmp_eq]; omega
                refine x_aload_n 99 rfl dX11_termOf_98 0 rfl rfl ?_
                refine x_aload_n 100 rfl dX11_termOf_99 0 rfl rfl ?_
                refine x_getz 103 rfl fX11_259 dX11_termOf_100 (lyl55 hL) (lys55 hL) (by decide) ?_
                try simp (disch := omega) only [z_up_ne, z_up_nk, z_up_eq, z_mup_ne, z_mup_eq, Int.reduceToNat, Int.toNat_natCast, ev_22, ev_24, ev_o, ev_ne, ev_u22, ev_u24]
                refine x_if_ne 106 110 rfl dX11_termOf_103 (by decide) (fun c103 => ?_) (fun c103 => ?_)
                · exfalso; omega
                · refine x_iload_n 107 rfl dX11_termOf_106 1 rfl rfl ?_
                  refine x_if_eq 110 114 rfl dX11_termOf_107 (by decide) (fun c107 => ?_) (fun c107 => ?_)
                  · exfalso; omega
                  · refine x_iconst 111 rfl dX11_termOf_110 (by decide) ?_
                    refine x_goto 115 dX11_termOf_111 (by decide) ?_
                    refine x_putz 118 rfl fX11_259 dX11_termOf_115 (lyl55 hL) (lys55 hL) (by decide) (by omega) ?_
                    try simp only [ev_22, ev_24, ev_o, ev_ne, ev_u22, ev_u24]
                    refine x_lconst (x := 1) 119 rfl dX11_termOf_118 rfl ?_
                    refine y_lstore 121 rfl dX11_termOf_119 rfl (ls' := [_, _, _, _, _, _, _]) rfl (by decide) ?_
                    refine x_aload_n 122 rfl dX11_termOf_121 0 rfl rfl ?_
                    refine x_iload 124 rfl dX11_termOf_122 rfl ?_
                    refine x_bipush 126 rfl dX11_termOf_124 (by decide) ?_
                    refine x_cSi 129 rfl lX11_211 dX11_termOf_126 (c_X11_signOf (by decide)) rfl rfl (Nat.le_of_ble_eq_true rfl) (fun r M1 hr1 => ?_)
                    obtain ⟨rfl, hM1⟩ := hr1
                    rw [hM1]
                    refine x_icmp_ne 132 139 rfl dX11_termOf_129 (by decide) (fun c129 => ?_) (fun c129 => ?_)
                    · refine x_iload 141 rfl dX11_termOf_139 rfl ?_
                      refine x_bipush 143 rfl dX11_termOf_141 (by decide) ?_
                      refine x_cSi 146 rfl lX11_211 dX11_termOf_143 (c_X11_signOf (by decide)) rfl rfl (Nat.le_of_ble_eq_true rfl) (fun r M1 hr1 => ?_)
                      obtain ⟨rfl, hM1⟩ := hr1
                      rw [hM1]
                      refine x_icmp_ne 149 156 rfl dX11_termOf_146 (by decide) (fun c146 => ?_) (fun c146 => ?_)
                      · exfalso; omega
                      · refine x_lload_n 150 rfl dX11_termOf_149 2 rfl rfl ?_
                        refine x_lload 152 rfl dX11_termOf_150 rfl ?_
                        refine x_ldiv 153 rfl dX11_termOf_152 (by decide) ?_
                        rw [show w64 (x.tdiv 1) = x by rw [Int.tdiv_one]; exact w64_id (by unfold z_i64; omega)]
                        refine x_goto 160 dX11_termOf_153 (by decide) ?_
                        refine x_iload_n 161 rfl dX11_termOf_160 1 rfl rfl ?_
                        refine x_cVj 164 rfl lX11_266 dX11_termOf_161 (lyl55 hL) (lys55 hL) (c_X11_bounded hL (Or.inr rfl)) rfl rfl (Nat.le_of_ble_eq_true rfl) (fun r3 M3 hr3 => ?_)
                        rcases hr3 with ⟨f1, f2, rfl, hM3⟩ | ⟨f1, hr3, hM3⟩
                        · exfalso; omega
                        · rw [if_pos rfl] at hr3
                          subst hr3
                          rw [hM3]
                          refine y_lstore_n 165 rfl dX11_termOf_164 rfl rfl (ls' := [_, _, _, _, _, _, _]) rfl (by decide) ?_
                          refine x_goto 6 dX11_termOf_165 (by decide) ?_
                          refine z_wk (ls' := [some (zn 55), some (zi live), some (zl (0)), none, none, none, none]) ⟨rfl, rfl, rfl, trivial⟩ (loopD f (g_em s2 6) _ 1 (Or.inr rfl) (gW_A hB hw9) (by simp only [g_em]; omega) hq3 (Or.inr (Or.inl ⟨hl1, hb0, g_loop_none f _ _ _ _ hq3 ?_, rfl, rfl⟩)) (Or.inr rfl))
                          simp only [v_join, hwx, e3]
                          rw [if_pos (by unfold zjoin; simp [c95])]
                    · exfalso; omega
          · rw [hM2]
            refine y_lstore 81 rfl dX11_termOf_79 rfl (ls' := [_, _, _, _, _, _, _]) rfl (by decide) ?_
            refine x_iload 83 rfl dX11_termOf_81 rfl ?_
            refine x_bipush 85 rfl dX11_termOf_83 (by decide) ?_
            refine x_cSi 88 rfl lX11_211 dX11_termOf_85 (c_X11_signOf (by decide)) rfl rfl (Nat.le_of_ble_eq_true rfl) (fun r M1 hr1 => ?_)
            obtain ⟨rfl, hM1⟩ := hr1
            rw [hM1]
            refine x_icmp_eq 91 121 rfl dX11_termOf_88 (by decide) (fun c88 => ?_) (fun c88 => ?_)
            · exfalso; omega
            · refine x_lload 93 rfl dX11_termOf_91 rfl ?_
              refine x_lconst (x := 0) 94 rfl dX11_termOf_93 rfl ?_
              refine x_lcmp 95 rfl dX11_termOf_94 ?_
              refine x_if_ne 98 121 rfl dX11_termOf_95 (by decide) (fun c95 => ?_) (fun c95 => ?_)
              · rw [zcmp_eq] at c95
                exact absurd rfl c95
              · refine x_aload_n 99 rfl dX11_termOf_98 0 rfl rfl ?_
                refine x_aload_n 100 rfl dX11_termOf_99 0 rfl rfl ?_
                refine x_getz 103 rfl fX11_259 dX11_termOf_100 (lyl55 hL) (lys55 hL) (by decide) ?_
                try simp (disch := omega) only [z_up_ne, z_up_nk, z_up_eq, z_mup_ne, z_mup_eq, Int.reduceToNat, Int.toNat_natCast, ev_22, ev_24, ev_o, ev_ne, ev_u22, ev_u24]
                refine x_if_ne 106 110 rfl dX11_termOf_103 (by decide) (fun c103 => ?_) (fun c103 => ?_)
                · refine x_iconst 111 rfl dX11_termOf_110 (by decide) ?_
                  refine x_goto 115 dX11_termOf_111 (by decide) ?_
                  refine x_putz 118 rfl fX11_259 dX11_termOf_115 (lyl55 hL) (lys55 hL) (by decide) (by omega) ?_
                  try simp only [ev_22, ev_24, ev_o, ev_ne, ev_u22, ev_u24]
                  refine x_lconst (x := 1) 119 rfl dX11_termOf_118 rfl ?_
                  refine y_lstore 121 rfl dX11_termOf_119 rfl (ls' := [_, _, _, _, _, _, _]) rfl (by decide) ?_
                  refine x_aload_n 122 rfl dX11_termOf_121 0 rfl rfl ?_
                  refine x_iload 124 rfl dX11_termOf_122 rfl ?_
                  refine x_bipush 126 rfl dX11_termOf_124 (by decide) ?_
                  refine x_cSi 129 rfl lX11_211 dX11_termOf_126 (c_X11_signOf (by decide)) rfl rfl (Nat.le_of_ble_eq_true rfl) (fun r M1 hr1 => ?_)
                  obtain ⟨rfl, hM1⟩ := hr1
                  rw [hM1]
                  refine x_icmp_ne 132 139 rfl dX11_termOf_129 (by decide) (fun c129 => ?_) (fun c129 => ?_)
                  · refine x_iload 141 rfl dX11_termOf_139 rfl ?_
                    refine x_bipush 143 rfl dX11_termOf_141 (by decide) ?_
                    refine x_cSi 146 rfl lX11_211 dX11_termOf_143 (c_X11_signOf (by decide)) rfl rfl (Nat.le_of_ble_eq_true rfl) (fun r M1 hr1 => ?_)
                    obtain ⟨rfl, hM1⟩ := hr1
                    rw [hM1]
                    refine x_icmp_ne 149 156 rfl dX11_termOf_146 (by decide) (fun c146 => ?_) (fun c146 => ?_)
                    · exfalso; omega
                    · refine x_lload_n 150 rfl dX11_termOf_149 2 rfl rfl ?_
                      refine x_lload 152 rfl dX11_termOf_150 rfl ?_
                      refine x_ldiv 153 rfl dX11_termOf_152 (by decide) ?_
                      rw [show w64 (x.tdiv 1) = x by rw [Int.tdiv_one]; exact w64_id (by unfold z_i64; omega)]
                      refine x_goto 160 dX11_termOf_153 (by decide) ?_
                      refine x_iload_n 161 rfl dX11_termOf_160 1 rfl rfl ?_
                      refine x_cVj 164 rfl lX11_266 dX11_termOf_161 (lyl55 hL) (lys55 hL) (c_X11_bounded hL (Or.inr rfl)) rfl rfl (Nat.le_of_ble_eq_true rfl) (fun r3 M3 hr3 => ?_)
                      rcases hr3 with ⟨f1, f2, rfl, hM3⟩ | ⟨f1, hr3, hM3⟩
                      · exfalso; omega
                      · rw [if_pos rfl] at hr3
                        subst hr3
                        rw [hM3]
                        refine y_lstore_n 165 rfl dX11_termOf_164 rfl rfl (ls' := [_, _, _, _, _, _, _]) rfl (by decide) ?_
                        refine x_goto 6 dX11_termOf_165 (by decide) ?_
                        refine z_wk (ls' := [some (zn 55), some (zi live), some (zl (0)), none, none, none, none]) ⟨rfl, rfl, rfl, trivial⟩ (loopD f (g_em s2 6) _ 1 (Or.inr rfl) (gW_A hB hw9) (by simp only [g_em]; omega) hq3 (Or.inr (Or.inl ⟨hl1, hb0, g_loop_none f _ _ _ _ hq3 ?_, rfl, rfl⟩)) (Or.inr rfl))
                        simp only [v_join, hwx, e3]
                  · exfalso; omega
                · exfalso; omega
          · exfalso; omega
        · refine x_aload_n 39 rfl dX11_termOf_38 0 rfl rfl ?_
          refine x_aload_n 40 rfl dX11_termOf_39 0 rfl rfl ?_
          refine x_geti 43 rfl fX11_249 dX11_termOf_40 (lyl55 hL) (lys55 hL) (by decide) ?_
          try simp (disch := omega) only [z_up_ne, z_up_nk, z_up_eq, z_mup_ne, z_mup_eq, Int.reduceToNat, Int.toNat_natCast, ev_22, ev_24, ev_o, ev_ne, ev_u22, ev_u24]
          refine x_cVi 46 rfl lX11_252 dX11_termOf_43 (lyl55 hL) (lys55 hL) (c_X11_codeAt hL hM hT hB.1) rfl rfl (Nat.le_of_ble_eq_true rfl) (fun r M1 hr1 => ?_)
          obtain ⟨rfl, hM1⟩ := hr1
          rw [hM1]
          refine x_bipush 48 rfl dX11_termOf_46 (by decide) ?_
          refine x_cSi 51 rfl lX11_211 dX11_termOf_48 (c_X11_signOf (by decide)) rfl rfl (Nat.le_of_ble_eq_true rfl) (fun r M1 hr1 => ?_)
          obtain ⟨rfl, hM1⟩ := hr1
          rw [hM1]
          refine x_icmp_ne 54 168 rfl dX11_termOf_51 (by decide) (fun c51 => ?_) (fun c51 => ?_)
          · rw [g_loop_e (by unfold gop_t; repeat rw [if_neg (by omega)])] at hq1
            cases hq1
            refine x_lload_n 169 rfl dX11_termOf_168 2 rfl rfl ?_
            refine x_retj dX11_termOf_169 rfl ?_
            left; exact ⟨hl1, hb0, _, hwx, rfl, hx1, rfl⟩
          · have hopv : gop_t (c s1.1) = 7 := by rw [show c s1.1 = 137 by omega]; decide
            have hc1 : c s1.1 ≠ 0 := by omega
            rw [g_loop_s (by rw [hopv]; decide)] at hq1
            rw [hopv] at hq1
            obtain ⟨s2, w2, hq2, hq3⟩ := g_bd_r hq1
            have hB2 := gW_A hB (gW_ad hB (hT.lt hB.1 hc1))
            have hw9 := gW_step hT hG hB hc1 hq2 (x := 7) (by decide)
            have hw8 := hw9.1
            simp only [g_em] at hw8
            refine x_aload_n 55 rfl dX11_termOf_54 0 rfl rfl ?_
            refine x_aload_n 56 rfl dX11_termOf_55 0 rfl rfl ?_
            refine x_geti 59 rfl fX11_249 dX11_termOf_56 (lyl55 hL) (lys55 hL) (by decide) ?_
            try simp (disch := omega) only [z_up_ne, z_up_nk, z_up_eq, z_mup_ne, z_mup_eq, Int.reduceToNat, Int.toNat_natCast, ev_22, ev_24, ev_o, ev_ne, ev_u22, ev_u24]
            refine x_cVi 62 rfl lX11_252 dX11_termOf_59 (lyl55 hL) (lys55 hL) (c_X11_codeAt hL hM hT hB.1) rfl rfl (Nat.le_of_ble_eq_true rfl) (fun r M1 hr1 => ?_)
            obtain ⟨rfl, hM1⟩ := hr1
            rw [hM1]
            refine y_istore 64 rfl dX11_termOf_62 rfl (ls' := [_, _, _, _, _, _, _]) rfl (by decide) ?_
            refine x_aload_n 65 rfl dX11_termOf_64 0 rfl rfl ?_
            refine x_dupr 66 rfl dX11_termOf_65 ?_
            refine x_geti 69 rfl fX11_249 dX11_termOf_66 (lyl55 hL) (lys55 hL) (by decide) ?_
            try simp (disch := omega) only [z_up_ne, z_up_nk, z_up_eq, z_mup_ne, z_mup_eq, Int.reduceToNat, Int.toNat_natCast, ev_22, ev_24, ev_o, ev_ne, ev_u22, ev_u24]
            refine x_iconst 70 rfl dX11_termOf_69 (by decide) ?_
            refine y_iadd 71 rfl dX11_termOf_70 (by omega) ?_
            refine x_puti 74 rfl fX11_249 dX11_termOf_71 (lyl55 hL) (lys55 hL) (by decide) ?_
            try simp only [ev_22, ev_24, ev_o, ev_ne, ev_u22, ev_u24]
            rw [ev_ad]
            refine z_mem (M' := ev M ((B + (g_ad s1).1 : Nat) : Int) _) rfl ?_
            refine x_aload_n 75 rfl dX11_termOf_74 0 rfl rfl ?_
            refine x_iload_n 76 rfl dX11_termOf_75 1 rfl rfl ?_
            refine x_cVj 79 rfl lX11_270 dX11_termOf_76 (lyl55 hL) (lys55 hL) (c_X11_partOf hL hM hT hlv (Or.inl rfl) hO hi hE hB2 hin hq2) rfl rfl (Nat.le_of_ble_eq_true rfl) (fun r M2 hr2 => ?_)
            rcases hr2 with ⟨e1, e2, x2, e3, rfl, e5, hM2⟩ | ⟨e1, e2, e3, rfl, hM2⟩ | ⟨e1, rfl, hM2⟩
            · rw [hM2]
              have hm1 := z_tdivabs (l := x) (r := r)
              have hm2 := z_tmodabs (l := x) (r := r)
              refine y_lstore 81 rfl dX11_termOf_79 rfl (ls' := [_, _, _, _, _, _, _]) rfl (by decide) ?_
              refine x_iload 83 rfl dX11_termOf_81 rfl ?_
              refine x_bipush 85 rfl dX11_termOf_83 (by decide) ?_
              refine x_cSi 88 rfl lX11_211 dX11_termOf_85 (c_X11_signOf (by decide)) rfl rfl (Nat.le_of_ble_eq_true rfl) (fun r M1 hr1 => ?_)
              obtain ⟨rfl, hM1⟩ := hr1
              rw [hM1]
              refine x_icmp_eq 91 121 rfl dX11_termOf_88 (by decide) (fun c88 => ?_) (fun c88 => ?_)
              · exfalso; omega
              · refine x_lload 93 rfl dX11_termOf_91 rfl ?_
                refine x_lconst (x := 0) 94 rfl dX11_termOf_93 rfl ?_
                refine x_lcmp 95 rfl dX11_termOf_94 ?_
                refine x_if_ne 98 121 rfl dX11_termOf_95 (by decide) (fun c95 => ?_) (fun c95 => ?_)
                · rw [zcmp_eq] at c95
                  refine x_aload_n 122 rfl dX11_termOf_121 0 rfl rfl ?_
                  refine x_iload 124 rfl dX11_termOf_122 rfl ?_
                  refine x_bipush 126 rfl dX11_termOf_124 (by decide) ?_
                  refine x_cSi 129 rfl lX11_211 dX11_termOf_126 (c_X11_signOf (by decide)) rfl rfl (Nat.le_of_ble_eq_true rfl) (fun r M1 hr1 => ?_)
                  obtain ⟨rfl, hM1⟩ := hr1
                  rw [hM1]
                  refine x_icmp_ne 132 139 rfl dX11_termOf_129 (by decide) (fun c129 => ?_) (fun c129 => ?_)
                  · refine x_iload 141 rfl dX11_termOf_139 rfl ?_
                    refine x_bipush 143 rfl dX11_termOf_141 (by decide) ?_
                    refine x_cSi 146 rfl lX11_211 dX11_termOf_143 (c_X11_signOf (by decide)) rfl rfl (Nat.le_of_ble_eq_true rfl) (fun r M1 hr1 => ?_)
                    obtain ⟨rfl, hM1⟩ := hr1
                    rw [hM1]
                    refine x_icmp_ne 149 156 rfl dX11_termOf_146 (by decide) (fun c146 => ?_) (fun c146 => ?_)
                    · refine x_lload_n 157 rfl dX11_termOf_156 2 rfl rfl ?_
                      refine x_lload 159 rfl dX11_termOf_157 rfl ?_
                      refine x_lrem 160 rfl dX11_termOf_159 c95 ?_
                      refine x_iload_n 161 rfl dX11_termOf_160 1 rfl rfl ?_
                      refine x_cVj 164 rfl lX11_266 dX11_termOf_161 (lyl55 hL) (lys55 hL) (c_X11_bounded hL (Or.inl rfl)) rfl rfl (Nat.le_of_ble_eq_true rfl) (fun r3 M3 hr3 => ?_)
                      rcases hr3 with ⟨f1, f2, rfl, hM3⟩ | ⟨f1, hr3, hM3⟩
                      · rw [hM3]
                        refine y_lstore_n 165 rfl dX11_termOf_164 rfl rfl (ls' := [_, _, _, _, _, _, _]) rfl (by decide) ?_
                        refine x_goto 6 dX11_termOf_165 (by decide) ?_
                        refine z_wk (ls' := [some (zn 55), some (zi live), some (zl (0)), none, none, none, none]) ⟨rfl, rfl, rfl, trivial⟩ (loopD f (g_em s2 7) _ 1 (Or.inr rfl) (gW_A hB hw9) (by simp only [g_em]; omega) hq3 (Or.inr (Or.inl ⟨hl1, hb0, g_loop_none f _ _ _ _ hq3 ?_, rfl, rfl⟩)) (Or.inr rfl))
                        simp only [v_join, hwx, e3]
                        rw [if_pos (by unfold zjoin zclip zBK; simp; omega)]
                      · rw [if_neg (by decide)] at hr3
                        subst hr3
                        rw [hM3]
                        refine y_lstore_n 165 rfl dX11_termOf_164 rfl rfl (ls' := [_, _, _, _, _, _, _]) rfl (by decide) ?_
                        refine x_goto 6 dX11_termOf_165 (by decide) ?_
                        refine z_wk (ls' := [some (zn 55), some (zi live), some (zl (_)), none, none, none, none]) ⟨rfl, rfl, rfl, trivial⟩ (ih (g_em s2 7) _ _ (gW_A hB hw9) (by simp only [g_em]; omega) hq3 ?_ (by omega))
                        simp only [v_join, hwx, e3]
                        rw [show zjoin 7 x r = x.tmod r by unfold zjoin zclip; simp [c95]; omega, if_neg (by unfold zBK; omega)]
                    · exfalso; omega
                  · exfalso; omega
                · have c95 : r = 0 := by rw [← zcmp_eq]; omega
                  refine x_aload_n 99 rfl dX11_termOf_98 0 rfl rfl ?_
                  refine x_aload_n 100 rfl dX11_termOf_99 0 rfl rfl ?_
                  refine x_getz 103 rfl fX11_259 dX11_termOf_100 (lyl55 hL) (lys55 hL) (by decide) ?_
                  try simp (disch := omega) only [z_up_ne, z_up_nk, z_up_eq, z_mup_ne, z_mup_eq, Int.reduceToNat, Int.toNat_natCast, ev_22, ev_24, ev_o, ev_ne, ev_u22, ev_u24]
                  refine x_if_ne 106 110 rfl dX11_termOf_103 (by decide) (fun c103 => ?_) (fun c103 => ?_)
                  · exfalso; omega
                  · refine x_iload_n 107 rfl dX11_termOf_106 1 rfl rfl ?_
                    refine x_if_eq 110 114 rfl dX11_termOf_107 (by decide) (fun c107 => ?_) (fun c107 => ?_)
                    · exfalso; omega
                    · refine x_iconst 111 rfl dX11_termOf_110 (by decide) ?_
                      refine x_goto 115 dX11_termOf_111 (by decide) ?_
                      refine x_putz 118 rfl fX11_259 dX11_termOf_115 (lyl55 hL) (lys55 hL) (by decide) (by omega) ?_
                      try simp only [ev_22, ev_24, ev_o, ev_ne, ev_u22, ev_u24]
                      refine x_lconst (x := 1) 119 rfl dX11_termOf_118 rfl ?_
                      refine y_lstore 121 rfl dX11_termOf_119 rfl (ls' := [_, _, _, _, _, _, _]) rfl (by decide) ?_
                      refine x_aload_n 122 rfl dX11_termOf_121 0 rfl rfl ?_
                      refine x_iload 124 rfl dX11_termOf_122 rfl ?_
                      refine x_bipush 126 rfl dX11_termOf_124 (by decide) ?_
                      refine x_cSi 129 rfl lX11_211 dX11_termOf_126 (c_X11_signOf (by decide)) rfl rfl (Nat.le_of_ble_eq_true rfl) (fun r M1 hr1 => ?_)
                      obtain ⟨rfl, hM1⟩ := hr1
                      rw [hM1]
                      refine x_icmp_ne 132 139 rfl dX11_termOf_129 (by decide) (fun c129 => ?_) (fun c129 => ?_)
                      · refine x_iload 141 rfl dX11_termOf_139 rfl ?_
                        refine x_bipush 143 rfl dX11_termOf_141 (by decide) ?_
                        refine x_cSi 146 rfl lX11_211 dX11_termOf_143 (c_X11_signOf (by decide)) rfl rfl (Nat.le_of_ble_eq_true rfl) (fun r M1 hr1 => ?_)
                        obtain ⟨rfl, hM1⟩ := hr1
                        rw [hM1]
                        refine x_icmp_ne 149 156 rfl dX11_termOf_146 (by decide) (fun c146 => ?_) (fun c146 => ?_)
                        · refine x_lload_n 157 rfl dX11_termOf_156 2 rfl rfl ?_
                          refine x_lload 159 rfl dX11_termOf_157 rfl ?_
                          refine x_lrem 160 rfl dX11_termOf_159 (by decide) ?_
                          rw [show x.tmod 1 = 0 by exact Int.tmod_one x]
                          refine x_iload_n 161 rfl dX11_termOf_160 1 rfl rfl ?_
                          refine x_cVj 164 rfl lX11_266 dX11_termOf_161 (lyl55 hL) (lys55 hL) (c_X11_bounded hL (Or.inr rfl)) rfl rfl (Nat.le_of_ble_eq_true rfl) (fun r3 M3 hr3 => ?_)
                          rcases hr3 with ⟨f1, f2, rfl, hM3⟩ | ⟨f1, hr3, hM3⟩
                          · exfalso; omega
                          · rw [if_pos rfl] at hr3
                            subst hr3
                            rw [hM3]
                            refine y_lstore_n 165 rfl dX11_termOf_164 rfl rfl (ls' := [_, _, _, _, _, _, _]) rfl (by decide) ?_
                            refine x_goto 6 dX11_termOf_165 (by decide) ?_
                            refine z_wk (ls' := [some (zn 55), some (zi live), some (zl (0)), none, none, none, none]) ⟨rfl, rfl, rfl, trivial⟩ (loopD f (g_em s2 7) _ 1 (Or.inr rfl) (gW_A hB hw9) (by simp only [g_em]; omega) hq3 (Or.inr (Or.inl ⟨hl1, hb0, g_loop_none f _ _ _ _ hq3 ?_, rfl, rfl⟩)) (Or.inr rfl))
                            simp only [v_join, hwx, e3]
                            rw [if_pos (by unfold zjoin; simp [c95])]
                        · exfalso; omega
                      · exfalso; omega
            · rw [hM2]
              refine y_lstore 81 rfl dX11_termOf_79 rfl (ls' := [_, _, _, _, _, _, _]) rfl (by decide) ?_
              refine x_iload 83 rfl dX11_termOf_81 rfl ?_
              refine x_bipush 85 rfl dX11_termOf_83 (by decide) ?_
              refine x_cSi 88 rfl lX11_211 dX11_termOf_85 (c_X11_signOf (by decide)) rfl rfl (Nat.le_of_ble_eq_true rfl) (fun r M1 hr1 => ?_)
              obtain ⟨rfl, hM1⟩ := hr1
              rw [hM1]
              refine x_icmp_eq 91 121 rfl dX11_termOf_88 (by decide) (fun c88 => ?_) (fun c88 => ?_)
              · exfalso; omega
              · refine x_lload 93 rfl dX11_termOf_91 rfl ?_
                refine x_lconst (x := 0) 94 rfl dX11_termOf_93 rfl ?_
                refine x_lcmp 95 rfl dX11_termOf_94 ?_
                refine x_if_ne 98 121 rfl dX11_termOf_95 (by decide) (fun c95 => ?_) (fun c95 => ?_)
                · rw [zcmp_eq] at c95
                  exact absurd rfl c95
                · refine x_aload_n 99 rfl dX11_termOf_98 0 rfl rfl ?_
                  refine x_aload_n 100 rfl dX11_termOf_99 0 rfl rfl ?_
                  refine x_getz 103 rfl fX11_259 dX11_termOf_100 (lyl55 hL) (lys55 hL) (by decide) ?_
                  try simp (disch := omega) only [z_up_ne, z_up_nk, z_up_eq, z_mup_ne, z_mup_eq, Int.reduceToNat, Int.toNat_natCast, ev_22, ev_24, ev_o, ev_ne, ev_u22, ev_u24]
                  refine x_if_ne 106 110 rfl dX11_termOf_103 (by decide) (fun c103 => ?_) (fun c103 => ?_)
                  · refine x_iconst 111 rfl dX11_termOf_110 (by decide) ?_
                    refine x_goto 115 dX11_termOf_111 (by decide) ?_
                    refine x_putz 118 rfl fX11_259 dX11_termOf_115 (lyl55 hL) (lys55 hL) (by decide) (by omega) ?_
                    try simp only [ev_22, ev_24, ev_o, ev_ne, ev_u22, ev_u24]
                    refine x_lconst (x := 1) 119 rfl dX11_termOf_118 rfl ?_
                    refine y_lstore 121 rfl dX11_termOf_119 rfl (ls' := [_, _, _, _, _, _, _]) rfl (by decide) ?_
                    refine x_aload_n 122 rfl dX11_termOf_121 0 rfl rfl ?_
                    refine x_iload 124 rfl dX11_termOf_122 rfl ?_
                    refine x_bipush 126 rfl dX11_termOf_124 (by decide) ?_
                    refine x_cSi 129 rfl lX11_211 dX11_termOf_126 (c_X11_signOf (by decide)) rfl rfl (Nat.le_of_ble_eq_true rfl) (fun r M1 hr1 => ?_)
                    obtain ⟨rfl, hM1⟩ := hr1
                    rw [hM1]
                    refine x_icmp_ne 132 139 rfl dX11_termOf_129 (by decide) (fun c129 => ?_) (fun c129 => ?_)
                    · refine x_iload 141 rfl dX11_termOf_139 rfl ?_
                      refine x_bipush 143 rfl dX11_termOf_141 (by decide) ?_
                      refine x_cSi 146 rfl lX11_211 dX11_termOf_143 (c_X11_signOf (by decide)) rfl rfl (Nat.le_of_ble_eq_true rfl) (fun r M1 hr1 => ?_)
                      obtain ⟨rfl, hM1⟩ := hr1
                      rw [hM1]
                      refine x_icmp_ne 149 156 rfl dX11_termOf_146 (by decide) (fun c146 => ?_) (fun c146 => ?_)
                      · refine x_lload_n 157 rfl dX11_termOf_156 2 rfl rfl ?_
                        refine x_lload 159 rfl dX11_termOf_157 rfl ?_
                        refine x_lrem 160 rfl dX11_termOf_159 (by decide) ?_
                        rw [show x.tmod 1 = 0 by exact Int.tmod_one x]
                        refine x_iload_n 161 rfl dX11_termOf_160 1 rfl rfl ?_
                        refine x_cVj 164 rfl lX11_266 dX11_termOf_161 (lyl55 hL) (lys55 hL) (c_X11_bounded hL (Or.inr rfl)) rfl rfl (Nat.le_of_ble_eq_true rfl) (fun r3 M3 hr3 => ?_)
                        rcases hr3 with ⟨f1, f2, rfl, hM3⟩ | ⟨f1, hr3, hM3⟩
                        · exfalso; omega
                        · rw [if_pos rfl] at hr3
                          subst hr3
                          rw [hM3]
                          refine y_lstore_n 165 rfl dX11_termOf_164 rfl rfl (ls' := [_, _, _, _, _, _, _]) rfl (by decide) ?_
                          refine x_goto 6 dX11_termOf_165 (by decide) ?_
                          refine z_wk (ls' := [some (zn 55), some (zi live), some (zl (0)), none, none, none, none]) ⟨rfl, rfl, rfl, trivial⟩ (loopD f (g_em s2 7) _ 1 (Or.inr rfl) (gW_A hB hw9) (by simp only [g_em]; omega) hq3 (Or.inr (Or.inl ⟨hl1, hb0, g_loop_none f _ _ _ _ hq3 ?_, rfl, rfl⟩)) (Or.inr rfl))
                          simp only [v_join, hwx, e3]
                      · exfalso; omega
                    · exfalso; omega
                  · exfalso; omega
            · exfalso; omega
  refine zX_of pl_RX11 [some (zn 55), some (zi live), none, none, none, none, none] 5 rfl rfl ?_
  refine x_aload_n 1 rfl dX11_termOf_0 0 rfl rfl ?_
  refine x_iload_n 2 rfl dX11_termOf_1 1 rfl rfl ?_
  refine x_cVj 5 rfl lX11_270 dX11_termOf_2 (lyl55 hL) (lys55 hL) (c_X11_partOf hL hM hT hlv hb hO hi hE hA hin hq0) rfl rfl (Nat.le_of_ble_eq_true rfl) (fun r M2 hr2 => ?_)
  rcases hr2 with ⟨e1, e2, x2, e3, rfl, e5, hM2⟩ | ⟨e1, e2, e3, rfl, hM2⟩ | ⟨e1, rfl, hM2⟩
  · rw [hM2]
    refine y_lstore_n 6 rfl dX11_termOf_5 rfl rfl (ls' := [_, _, _, _, _, _, _]) rfl (by decide) ?_
    exact loopL e1 e2 401 s0 w0 _ hA0 (by omega) hq1 e3 e5
  · rw [hM2]
    refine y_lstore_n 6 rfl dX11_termOf_5 rfl rfl (ls' := [_, _, _, _, _, _, _]) rfl (by decide) ?_
    exact loopD 401 s0 w0 1 (Or.inr rfl) hA0 (by omega) hq1 (Or.inr (Or.inl ⟨e1, e2, g_loop_none 401 _ _ _ _ hq1 e3, rfl, rfl⟩)) (Or.inr rfl)
  · rw [hM2]
    refine y_lstore_n 6 rfl dX11_termOf_5 rfl rfl (ls' := [_, _, _, _, _, _, _]) rfl (by decide) ?_
    exact loopD 401 s0 w0 b e1 hA0 (by omega) hq1 (Or.inr (Or.inr ⟨e1, rfl, rfl⟩)) hb
