set_option maxRecDepth 100000 in
set_option maxHeartbeats 4000000 in
theorem c_X11_sumOf {d sz : Nat} {S : zSh} {M : zMem} (hL : LY S sz) {B n : Nat} {c v : Nat → Int} (hM : EVM M B n c v) (hT : TK c v n) {live b : Int} (hlv : live = 0 ∨ live = 1) (hb : b = 0 ∨ b = 1) {o : Bool} (hO : M 55 25 = (if o = true then 1 else 0)) (hi : KI (M 57)) (hE : mEb M o) {s s' : gS} {w : gV} (hA : gA n s) {inner : Option (gS → gR)} (hin : ∀ f, inner = some f → gG n f ∧ ∀ (s1 s2 : gS) (w1 : gV) (b1 : Int), (b1 = 0 ∨ b1 = 1) → gA n s1 → f s1 = .inr (s2, w1) → zX (d + 2) 0 0 mX11_sumOf [zn 55, zi live] sz S (ev M ((B + s1.1 : Nat) : Int) b1) (zJ sz S (fun r M' => EVO M B live b1 (w1 (mE M o)) s2.1 r M'))) (hq : g_sum c v o inner s = .inr (s', w)) : zX (d + 5) 0 0 mX11_sumOf [zn 55, zi live] sz S (ev M ((B + s.1 : Nat) : Int) b) (zJ sz S (fun r M' => EVO M B live b (w (mE M o)) s'.1 r M')) := by
  have hq9 := hq
  unfold g_sum at hq9
  obtain ⟨s0, w0, hq0, hq1⟩ := g_bd_r hq9
  clear hq9
  have hn := hT.1
  have hM2 := hM.2.1
  have hA1 := hA.1
  have hI : ∀ f, inner = some f → gG n f := fun f h => (hin f h).1
  have hG : gG n (g_term c v o inner) := gG_term hT hI
  have hA0 := gW_A hA ((hG s hA).2 s0 w0 hq0)
  have loopD : ∀ (f : Nat) (s1 : gS) (w1 : gV) (b1 : Int), (live = 0 ∨ b1 = 1) → gA n s1 → n < f + s1.1 → g_loop c gop_s (g_term c v o inner) f s1 w1 = .inr (s', w) → EVO M B live b (w (mE M o)) s'.1 0 (ev M ((B + s'.1 : Nat) : Int) b1) → (b1 = 0 ∨ b1 = 1) → zW mX11_sumOf (d + 5) 0 0 [] (zJ sz S (fun r M' => EVO M B live b (w (mE M o)) s'.1 r M')) 6 [some (zn 55), some (zi live), some (zl 0), none, none, none, none] [] sz S (ev M ((B + s1.1 : Nat) : Int) b1) := by
    intro f
    induction f with
    | zero => intro s1 w1 b1 hd hB hf; have := hB.1; omega
    | succ f ih =>
      intro s1 w1 b1 hd hB hf hq1 hQ hb1
      have hB0 := hB.1
      refine x_aload_n 7 rfl dX11_sumOf_6 0 rfl rfl ?_
      refine x_aload_n 8 rfl dX11_sumOf_7 0 rfl rfl ?_
      refine x_geti 11 rfl fX11_249 dX11_sumOf_8 (lyl55 hL) (lys55 hL) (by decide) ?_
      try simp (disch := omega) only [z_up_ne, z_up_nk, z_up_eq, z_mup_ne, z_mup_eq, Int.reduceToNat, Int.toNat_natCast, ev_22, ev_24, ev_o, ev_ne, ev_u22, ev_u24]
      refine x_cVi 14 rfl lX11_252 dX11_sumOf_11 (lyl55 hL) (lys55 hL) (c_X11_codeAt hL hM hT hB.1) rfl rfl (Nat.le_of_ble_eq_true rfl) (fun r M1 hr1 => ?_)
      obtain ⟨rfl, hM1⟩ := hr1
      rw [hM1]
      refine x_bipush 16 rfl dX11_sumOf_14 (by decide) ?_
      refine x_cSi 19 rfl lX11_211 dX11_sumOf_16 (c_X11_signOf (by decide)) rfl rfl (Nat.le_of_ble_eq_true rfl) (fun r M1 hr1 => ?_)
      obtain ⟨rfl, hM1⟩ := hr1
      rw [hM1]
      refine x_icmp_eq 22 38 rfl dX11_sumOf_19 (by decide) (fun c19 => ?_) (fun c19 => ?_)
      · have hopv : gop_s (c s1.1) = 3 := by rw [show c s1.1 = 143 by omega]; decide
        have hc1 : c s1.1 ≠ 0 := by omega
        rw [g_loop_s (by rw [hopv]; decide)] at hq1
        rw [hopv] at hq1
        obtain ⟨s2, w2, hq2, hq3⟩ := g_bd_r hq1
        have hB2 := gW_A hB (gW_ad hB (hT.lt hB.1 hc1))
        have hw9 := gW_step hT hG hB hc1 hq2 (x := 3) (by decide)
        have hw8 := hw9.1
        simp only [g_em] at hw8
        refine x_aload_n 39 rfl dX11_sumOf_38 0 rfl rfl ?_
        refine x_aload_n 40 rfl dX11_sumOf_39 0 rfl rfl ?_
        refine x_geti 43 rfl fX11_249 dX11_sumOf_40 (lyl55 hL) (lys55 hL) (by decide) ?_
        try simp (disch := omega) only [z_up_ne, z_up_nk, z_up_eq, z_mup_ne, z_mup_eq, Int.reduceToNat, Int.toNat_natCast, ev_22, ev_24, ev_o, ev_ne, ev_u22, ev_u24]
        refine x_cVi 46 rfl lX11_252 dX11_sumOf_43 (lyl55 hL) (lys55 hL) (c_X11_codeAt hL hM hT hB.1) rfl rfl (Nat.le_of_ble_eq_true rfl) (fun r M1 hr1 => ?_)
        obtain ⟨rfl, hM1⟩ := hr1
        rw [hM1]
        refine x_bipush 48 rfl dX11_sumOf_46 (by decide) ?_
        refine x_cSi 51 rfl lX11_211 dX11_sumOf_48 (c_X11_signOf (by decide)) rfl rfl (Nat.le_of_ble_eq_true rfl) (fun r M1 hr1 => ?_)
        obtain ⟨rfl, hM1⟩ := hr1
        rw [hM1]
        refine x_icmp_ne 54 58 rfl dX11_sumOf_51 (by decide) (fun c51 => ?_) (fun c51 => ?_)
        · exfalso; omega
        · refine x_iconst 55 rfl dX11_sumOf_54 (by decide) ?_
          refine x_goto 59 dX11_sumOf_55 (by decide) ?_
          refine y_istore 61 rfl dX11_sumOf_59 rfl (ls' := [_, _, _, _, _, _, _]) rfl (by decide) ?_
          refine x_aload_n 62 rfl dX11_sumOf_61 0 rfl rfl ?_
          refine x_dupr 63 rfl dX11_sumOf_62 ?_
          refine x_geti 66 rfl fX11_249 dX11_sumOf_63 (lyl55 hL) (lys55 hL) (by decide) ?_
          try simp (disch := omega) only [z_up_ne, z_up_nk, z_up_eq, z_mup_ne, z_mup_eq, Int.reduceToNat, Int.toNat_natCast, ev_22, ev_24, ev_o, ev_ne, ev_u22, ev_u24]
          refine x_iconst 67 rfl dX11_sumOf_66 (by decide) ?_
          refine y_iadd 68 rfl dX11_sumOf_67 (by omega) ?_
          refine x_puti 71 rfl fX11_249 dX11_sumOf_68 (lyl55 hL) (lys55 hL) (by decide) ?_
          try simp only [ev_22, ev_24, ev_o, ev_ne, ev_u22, ev_u24]
          rw [ev_ad]
          refine z_mem (M' := ev M ((B + (g_ad s1).1 : Nat) : Int) _) rfl ?_
          refine x_aload_n 72 rfl dX11_sumOf_71 0 rfl rfl ?_
          refine x_iload_n 73 rfl dX11_sumOf_72 1 rfl rfl ?_
          refine x_cVj 76 rfl lX11_262 dX11_sumOf_73 (lyl55 hL) (lys55 hL) (c_X11_termOf hL hM hT hlv hb1 hO hi hE hB2 hin hq2) rfl rfl (Nat.le_of_ble_eq_true rfl) (fun r M2 hr2 => ?_)
          rcases hr2 with ⟨e1, e2, x2, e3, rfl, e5, hM2⟩ | ⟨e1, e2, e3, rfl, hM2⟩ | ⟨e1, rfl, hM2⟩
          · exfalso; omega
          · exfalso; omega
          · rw [hM2]
            refine y_lstore 78 rfl dX11_sumOf_76 rfl (ls' := [_, _, _, _, _, _, _]) rfl (by decide) ?_
            refine x_aload_n 79 rfl dX11_sumOf_78 0 rfl rfl ?_
            refine x_iload 81 rfl dX11_sumOf_79 rfl ?_
            refine x_if_eq 84 91 rfl dX11_sumOf_81 (by decide) (fun c81 => ?_) (fun c81 => ?_)
            · exfalso; omega
            · refine x_lload_n 85 rfl dX11_sumOf_84 2 rfl rfl ?_
              refine x_lload 87 rfl dX11_sumOf_85 rfl ?_
              refine y_ladd 88 rfl dX11_sumOf_87 (by omega) ?_
              refine x_goto 95 dX11_sumOf_88 (by decide) ?_
              refine x_iload_n 96 rfl dX11_sumOf_95 1 rfl rfl ?_
              refine x_cVj 99 rfl lX11_266 dX11_sumOf_96 (lyl55 hL) (lys55 hL) (c_X11_bounded hL hb1) rfl rfl (Nat.le_of_ble_eq_true rfl) (fun r M3 hr3 => ?_)
              rcases hr3 with ⟨f1, f2, rfl, hM3⟩ | ⟨f1, hr3, hM3⟩
              · exfalso; omega
              · have e9 : r = 0 := by rw [hr3]; split <;> first | rfl | omega | simp
                subst e9
                rw [hM3]
                refine y_lstore_n 100 rfl dX11_sumOf_99 rfl rfl (ls' := [_, _, _, _, _, _, _]) rfl (by decide) ?_
                refine x_goto 6 dX11_sumOf_100 (by decide) ?_
                refine z_wk (ls' := [some (zn 55), some (zi live), some (zl (0)), none, none, none, none]) ⟨rfl, rfl, rfl, trivial⟩ (ih (g_em s2 3) _ _ hd (gW_A hB hw9) (by simp only [g_em]; omega) hq3 hQ hb1)
      · refine x_aload_n 23 rfl dX11_sumOf_22 0 rfl rfl ?_
        refine x_aload_n 24 rfl dX11_sumOf_23 0 rfl rfl ?_
        refine x_geti 27 rfl fX11_249 dX11_sumOf_24 (lyl55 hL) (lys55 hL) (by decide) ?_
        try simp (disch := omega) only [z_up_ne, z_up_nk, z_up_eq, z_mup_ne, z_mup_eq, Int.reduceToNat, Int.toNat_natCast, ev_22, ev_24, ev_o, ev_ne, ev_u22, ev_u24]
        refine x_cVi 30 rfl lX11_252 dX11_sumOf_27 (lyl55 hL) (lys55 hL) (c_X11_codeAt hL hM hT hB.1) rfl rfl (Nat.le_of_ble_eq_true rfl) (fun r M1 hr1 => ?_)
        obtain ⟨rfl, hM1⟩ := hr1
        rw [hM1]
        refine x_bipush 32 rfl dX11_sumOf_30 (by decide) ?_
        refine x_cSi 35 rfl lX11_211 dX11_sumOf_32 (c_X11_signOf (by decide)) rfl rfl (Nat.le_of_ble_eq_true rfl) (fun r M1 hr1 => ?_)
        obtain ⟨rfl, hM1⟩ := hr1
        rw [hM1]
        refine x_icmp_ne 38 103 rfl dX11_sumOf_35 (by decide) (fun c35 => ?_) (fun c35 => ?_)
        · rw [g_loop_e (by unfold gop_s; repeat rw [if_neg (by omega)])] at hq1
          cases hq1
          refine x_lload_n 104 rfl dX11_sumOf_103 2 rfl rfl ?_
          refine x_retj dX11_sumOf_104 rfl ?_
          exact hQ
        · have hopv : gop_s (c s1.1) = 4 := by rw [show c s1.1 = 145 by omega]; decide
          have hc1 : c s1.1 ≠ 0 := by omega
          rw [g_loop_s (by rw [hopv]; decide)] at hq1
          rw [hopv] at hq1
          obtain ⟨s2, w2, hq2, hq3⟩ := g_bd_r hq1
          have hB2 := gW_A hB (gW_ad hB (hT.lt hB.1 hc1))
          have hw9 := gW_step hT hG hB hc1 hq2 (x := 4) (by decide)
          have hw8 := hw9.1
          simp only [g_em] at hw8
          refine x_aload_n 39 rfl dX11_sumOf_38 0 rfl rfl ?_
          refine x_aload_n 40 rfl dX11_sumOf_39 0 rfl rfl ?_
          refine x_geti 43 rfl fX11_249 dX11_sumOf_40 (lyl55 hL) (lys55 hL) (by decide) ?_
          try simp (disch := omega) only [z_up_ne, z_up_nk, z_up_eq, z_mup_ne, z_mup_eq, Int.reduceToNat, Int.toNat_natCast, ev_22, ev_24, ev_o, ev_ne, ev_u22, ev_u24]
          refine x_cVi 46 rfl lX11_252 dX11_sumOf_43 (lyl55 hL) (lys55 hL) (c_X11_codeAt hL hM hT hB.1) rfl rfl (Nat.le_of_ble_eq_true rfl) (fun r M1 hr1 => ?_)
          obtain ⟨rfl, hM1⟩ := hr1
          rw [hM1]
          refine x_bipush 48 rfl dX11_sumOf_46 (by decide) ?_
          refine x_cSi 51 rfl lX11_211 dX11_sumOf_48 (c_X11_signOf (by decide)) rfl rfl (Nat.le_of_ble_eq_true rfl) (fun r M1 hr1 => ?_)
          obtain ⟨rfl, hM1⟩ := hr1
          rw [hM1]
          refine x_icmp_ne 54 58 rfl dX11_sumOf_51 (by decide) (fun c51 => ?_) (fun c51 => ?_)
          · refine x_iconst 59 rfl dX11_sumOf_58 (by decide) ?_
            refine y_istore 61 rfl dX11_sumOf_59 rfl (ls' := [_, _, _, _, _, _, _]) rfl (by decide) ?_
            refine x_aload_n 62 rfl dX11_sumOf_61 0 rfl rfl ?_
            refine x_dupr 63 rfl dX11_sumOf_62 ?_
            refine x_geti 66 rfl fX11_249 dX11_sumOf_63 (lyl55 hL) (lys55 hL) (by decide) ?_
            try simp (disch := omega) only [z_up_ne, z_up_nk, z_up_eq, z_mup_ne, z_mup_eq, Int.reduceToNat, Int.toNat_natCast, ev_22, ev_24, ev_o, ev_ne, ev_u22, ev_u24]
            refine x_iconst 67 rfl dX11_sumOf_66 (by decide) ?_
            refine y_iadd 68 rfl dX11_sumOf_67 (by omega) ?_
            refine x_puti 71 rfl fX11_249 dX11_sumOf_68 (lyl55 hL) (lys55 hL) (by decide) ?_
            try simp only [ev_22, ev_24, ev_o, ev_ne, ev_u22, ev_u24]
            rw [ev_ad]
            refine z_mem (M' := ev M ((B + (g_ad s1).1 : Nat) : Int) _) rfl ?_
            refine x_aload_n 72 rfl dX11_sumOf_71 0 rfl rfl ?_
            refine x_iload_n 73 rfl dX11_sumOf_72 1 rfl rfl ?_
            refine x_cVj 76 rfl lX11_262 dX11_sumOf_73 (lyl55 hL) (lys55 hL) (c_X11_termOf hL hM hT hlv hb1 hO hi hE hB2 hin hq2) rfl rfl (Nat.le_of_ble_eq_true rfl) (fun r M2 hr2 => ?_)
            rcases hr2 with ⟨e1, e2, x2, e3, rfl, e5, hM2⟩ | ⟨e1, e2, e3, rfl, hM2⟩ | ⟨e1, rfl, hM2⟩
            · exfalso; omega
            · exfalso; omega
            · rw [hM2]
              refine y_lstore 78 rfl dX11_sumOf_76 rfl (ls' := [_, _, _, _, _, _, _]) rfl (by decide) ?_
              refine x_aload_n 79 rfl dX11_sumOf_78 0 rfl rfl ?_
              refine x_iload 81 rfl dX11_sumOf_79 rfl ?_
              refine x_if_eq 84 91 rfl dX11_sumOf_81 (by decide) (fun c81 => ?_) (fun c81 => ?_)
              · refine x_lload_n 92 rfl dX11_sumOf_91 2 rfl rfl ?_
                refine x_lload 94 rfl dX11_sumOf_92 rfl ?_
                refine y_lsub 95 rfl dX11_sumOf_94 (by omega) ?_
                refine x_iload_n 96 rfl dX11_sumOf_95 1 rfl rfl ?_
                refine x_cVj 99 rfl lX11_266 dX11_sumOf_96 (lyl55 hL) (lys55 hL) (c_X11_bounded hL hb1) rfl rfl (Nat.le_of_ble_eq_true rfl) (fun r M3 hr3 => ?_)
                rcases hr3 with ⟨f1, f2, rfl, hM3⟩ | ⟨f1, hr3, hM3⟩
                · exfalso; omega
                · have e9 : r = 0 := by rw [hr3]; split <;> first | rfl | omega | simp
                  subst e9
                  rw [hM3]
                  refine y_lstore_n 100 rfl dX11_sumOf_99 rfl rfl (ls' := [_, _, _, _, _, _, _]) rfl (by decide) ?_
                  refine x_goto 6 dX11_sumOf_100 (by decide) ?_
                  refine z_wk (ls' := [some (zn 55), some (zi live), some (zl (0)), none, none, none, none]) ⟨rfl, rfl, rfl, trivial⟩ (ih (g_em s2 4) _ _ hd (gW_A hB hw9) (by simp only [g_em]; omega) hq3 hQ hb1)
              · exfalso; omega
          · exfalso; omega
  have loopL : live = 1 → b = 0 → ∀ (f : Nat) (s1 : gS) (w1 : gV) (x : Int), gA n s1 → n < f + s1.1 → g_loop c gop_s (g_term c v o inner) f s1 w1 = .inr (s', w) → w1 (mE M o) = some x → (-1000000000 ≤ x ∧ x ≤ 1000000000) → zW mX11_sumOf (d + 5) 0 0 [] (zJ sz S (fun r M' => EVO M B live b (w (mE M o)) s'.1 r M')) 6 [some (zn 55), some (zi live), some (zl x), none, none, none, none] [] sz S (ev M ((B + s1.1 : Nat) : Int) 0) := by
    intro hl1 hb0 f
    induction f with
    | zero => intro s1 w1 x hB hf; have := hB.1; omega
    | succ f ih =>
      intro s1 w1 x hB hf hq1 hwx hx1
      have hB0 := hB.1
      refine x_aload_n 7 rfl dX11_sumOf_6 0 rfl rfl ?_
      refine x_aload_n 8 rfl dX11_sumOf_7 0 rfl rfl ?_
      refine x_geti 11 rfl fX11_249 dX11_sumOf_8 (lyl55 hL) (lys55 hL) (by decide) ?_
      try simp (disch := omega) only [z_up_ne, z_up_nk, z_up_eq, z_mup_ne, z_mup_eq, Int.reduceToNat, Int.toNat_natCast, ev_22, ev_24, ev_o, ev_ne, ev_u22, ev_u24]
      refine x_cVi 14 rfl lX11_252 dX11_sumOf_11 (lyl55 hL) (lys55 hL) (c_X11_codeAt hL hM hT hB.1) rfl rfl (Nat.le_of_ble_eq_true rfl) (fun r M1 hr1 => ?_)
      obtain ⟨rfl, hM1⟩ := hr1
      rw [hM1]
      refine x_bipush 16 rfl dX11_sumOf_14 (by decide) ?_
      refine x_cSi 19 rfl lX11_211 dX11_sumOf_16 (c_X11_signOf (by decide)) rfl rfl (Nat.le_of_ble_eq_true rfl) (fun r M1 hr1 => ?_)
      obtain ⟨rfl, hM1⟩ := hr1
      rw [hM1]
      refine x_icmp_eq 22 38 rfl dX11_sumOf_19 (by decide) (fun c19 => ?_) (fun c19 => ?_)
      · have hopv : gop_s (c s1.1) = 3 := by rw [show c s1.1 = 143 by omega]; decide
        have hc1 : c s1.1 ≠ 0 := by omega
        rw [g_loop_s (by rw [hopv]; decide)] at hq1
        rw [hopv] at hq1
        obtain ⟨s2, w2, hq2, hq3⟩ := g_bd_r hq1
        have hB2 := gW_A hB (gW_ad hB (hT.lt hB.1 hc1))
        have hw9 := gW_step hT hG hB hc1 hq2 (x := 3) (by decide)
        have hw8 := hw9.1
        simp only [g_em] at hw8
        refine x_aload_n 39 rfl dX11_sumOf_38 0 rfl rfl ?_
        refine x_aload_n 40 rfl dX11_sumOf_39 0 rfl rfl ?_
        refine x_geti 43 rfl fX11_249 dX11_sumOf_40 (lyl55 hL) (lys55 hL) (by decide) ?_
        try simp (disch := omega) only [z_up_ne, z_up_nk, z_up_eq, z_mup_ne, z_mup_eq, Int.reduceToNat, Int.toNat_natCast, ev_22, ev_24, ev_o, ev_ne, ev_u22, ev_u24]
        refine x_cVi 46 rfl lX11_252 dX11_sumOf_43 (lyl55 hL) (lys55 hL) (c_X11_codeAt hL hM hT hB.1) rfl rfl (Nat.le_of_ble_eq_true rfl) (fun r M1 hr1 => ?_)
        obtain ⟨rfl, hM1⟩ := hr1
        rw [hM1]
        refine x_bipush 48 rfl dX11_sumOf_46 (by decide) ?_
        refine x_cSi 51 rfl lX11_211 dX11_sumOf_48 (c_X11_signOf (by decide)) rfl rfl (Nat.le_of_ble_eq_true rfl) (fun r M1 hr1 => ?_)
        obtain ⟨rfl, hM1⟩ := hr1
        rw [hM1]
        refine x_icmp_ne 54 58 rfl dX11_sumOf_51 (by decide) (fun c51 => ?_) (fun c51 => ?_)
        · exfalso; omega
        · refine x_iconst 55 rfl dX11_sumOf_54 (by decide) ?_
          refine x_goto 59 dX11_sumOf_55 (by decide) ?_
          refine y_istore 61 rfl dX11_sumOf_59 rfl (ls' := [_, _, _, _, _, _, _]) rfl (by decide) ?_
          refine x_aload_n 62 rfl dX11_sumOf_61 0 rfl rfl ?_
          refine x_dupr 63 rfl dX11_sumOf_62 ?_
          refine x_geti 66 rfl fX11_249 dX11_sumOf_63 (lyl55 hL) (lys55 hL) (by decide) ?_
          try simp (disch := omega) only [z_up_ne, z_up_nk, z_up_eq, z_mup_ne, z_mup_eq, Int.reduceToNat, Int.toNat_natCast, ev_22, ev_24, ev_o, ev_ne, ev_u22, ev_u24]
          refine x_iconst 67 rfl dX11_sumOf_66 (by decide) ?_
          refine y_iadd 68 rfl dX11_sumOf_67 (by omega) ?_
          refine x_puti 71 rfl fX11_249 dX11_sumOf_68 (lyl55 hL) (lys55 hL) (by decide) ?_
          try simp only [ev_22, ev_24, ev_o, ev_ne, ev_u22, ev_u24]
          rw [ev_ad]
          refine z_mem (M' := ev M ((B + (g_ad s1).1 : Nat) : Int) _) rfl ?_
          refine x_aload_n 72 rfl dX11_sumOf_71 0 rfl rfl ?_
          refine x_iload_n 73 rfl dX11_sumOf_72 1 rfl rfl ?_
          refine x_cVj 76 rfl lX11_262 dX11_sumOf_73 (lyl55 hL) (lys55 hL) (c_X11_termOf hL hM hT hlv (Or.inl rfl) hO hi hE hB2 hin hq2) rfl rfl (Nat.le_of_ble_eq_true rfl) (fun r M2 hr2 => ?_)
          rcases hr2 with ⟨e1, e2, x2, e3, rfl, e5, hM2⟩ | ⟨e1, e2, e3, rfl, hM2⟩ | ⟨e1, rfl, hM2⟩
          · rw [hM2]
            refine y_lstore 78 rfl dX11_sumOf_76 rfl (ls' := [_, _, _, _, _, _, _]) rfl (by decide) ?_
            refine x_aload_n 79 rfl dX11_sumOf_78 0 rfl rfl ?_
            refine x_iload 81 rfl dX11_sumOf_79 rfl ?_
            refine x_if_eq 84 91 rfl dX11_sumOf_81 (by decide) (fun c81 => ?_) (fun c81 => ?_)
            · exfalso; omega
            · refine x_lload_n 85 rfl dX11_sumOf_84 2 rfl rfl ?_
              refine x_lload 87 rfl dX11_sumOf_85 rfl ?_
              refine y_ladd 88 rfl dX11_sumOf_87 (by omega) ?_
              refine x_goto 95 dX11_sumOf_88 (by decide) ?_
              refine x_iload_n 96 rfl dX11_sumOf_95 1 rfl rfl ?_
              refine x_cVj 99 rfl lX11_266 dX11_sumOf_96 (lyl55 hL) (lys55 hL) (c_X11_bounded hL (Or.inl rfl)) rfl rfl (Nat.le_of_ble_eq_true rfl) (fun r3 M3 hr3 => ?_)
              rcases hr3 with ⟨f1, f2, rfl, hM3⟩ | ⟨f1, hr3, hM3⟩
              · rw [hM3]
                refine y_lstore_n 100 rfl dX11_sumOf_99 rfl rfl (ls' := [_, _, _, _, _, _, _]) rfl (by decide) ?_
                refine x_goto 6 dX11_sumOf_100 (by decide) ?_
                refine z_wk (ls' := [some (zn 55), some (zi live), some (zl (0)), none, none, none, none]) ⟨rfl, rfl, rfl, trivial⟩ (loopD f (g_em s2 3) _ 1 (Or.inr rfl) (gW_A hB hw9) (by simp only [g_em]; omega) hq3 (Or.inr (Or.inl ⟨hl1, hb0, g_loop_none f _ _ _ _ hq3 ?_, rfl, rfl⟩)) (Or.inr rfl))
                simp only [v_join, hwx, e3]
                rw [if_pos (by unfold zjoin zclip zBK; simp; omega)]
              · rw [if_neg (by decide)] at hr3
                subst hr3
                rw [hM3]
                refine y_lstore_n 100 rfl dX11_sumOf_99 rfl rfl (ls' := [_, _, _, _, _, _, _]) rfl (by decide) ?_
                refine x_goto 6 dX11_sumOf_100 (by decide) ?_
                refine z_wk (ls' := [some (zn 55), some (zi live), some (zl (_)), none, none, none, none]) ⟨rfl, rfl, rfl, trivial⟩ (ih (g_em s2 3) _ _ (gW_A hB hw9) (by simp only [g_em]; omega) hq3 ?_ (by omega))
                simp only [v_join, hwx, e3]
                rw [show zjoin 3 x r = x + r by unfold zjoin zclip; simp; omega, if_neg (by unfold zBK; omega)]
          · rw [hM2]
            refine y_lstore 78 rfl dX11_sumOf_76 rfl (ls' := [_, _, _, _, _, _, _]) rfl (by decide) ?_
            refine x_aload_n 79 rfl dX11_sumOf_78 0 rfl rfl ?_
            refine x_iload 81 rfl dX11_sumOf_79 rfl ?_
            refine x_if_eq 84 91 rfl dX11_sumOf_81 (by decide) (fun c81 => ?_) (fun c81 => ?_)
            · exfalso; omega
            · refine x_lload_n 85 rfl dX11_sumOf_84 2 rfl rfl ?_
              refine x_lload 87 rfl dX11_sumOf_85 rfl ?_
              refine y_ladd 88 rfl dX11_sumOf_87 (by omega) ?_
              refine x_goto 95 dX11_sumOf_88 (by decide) ?_
              refine x_iload_n 96 rfl dX11_sumOf_95 1 rfl rfl ?_
              refine x_cVj 99 rfl lX11_266 dX11_sumOf_96 (lyl55 hL) (lys55 hL) (c_X11_bounded hL (Or.inr rfl)) rfl rfl (Nat.le_of_ble_eq_true rfl) (fun r3 M3 hr3 => ?_)
              rcases hr3 with ⟨f1, f2, rfl, hM3⟩ | ⟨f1, hr3, hM3⟩
              · exfalso; omega
              · rw [if_pos rfl] at hr3
                subst hr3
                rw [hM3]
                refine y_lstore_n 100 rfl dX11_sumOf_99 rfl rfl (ls' := [_, _, _, _, _, _, _]) rfl (by decide) ?_
                refine x_goto 6 dX11_sumOf_100 (by decide) ?_
                refine z_wk (ls' := [some (zn 55), some (zi live), some (zl (0)), none, none, none, none]) ⟨rfl, rfl, rfl, trivial⟩ (loopD f (g_em s2 3) _ 1 (Or.inr rfl) (gW_A hB hw9) (by simp only [g_em]; omega) hq3 (Or.inr (Or.inl ⟨hl1, hb0, g_loop_none f _ _ _ _ hq3 ?_, rfl, rfl⟩)) (Or.inr rfl))
                simp only [v_join, hwx, e3]
          · exfalso; omega
      · refine x_aload_n 23 rfl dX11_sumOf_22 0 rfl rfl ?_
        refine x_aload_n 24 rfl dX11_sumOf_23 0 rfl rfl ?_
        refine x_geti 27 rfl fX11_249 dX11_sumOf_24 (lyl55 hL) (lys55 hL) (by decide) ?_
        try simp (disch := omega) only [z_up_ne, z_up_nk, z_up_eq, z_mup_ne, z_mup_eq, Int.reduceToNat, Int.toNat_natCast, ev_22, ev_24, ev_o, ev_ne, ev_u22, ev_u24]
        refine x_cVi 30 rfl lX11_252 dX11_sumOf_27 (lyl55 hL) (lys55 hL) (c_X11_codeAt hL hM hT hB.1) rfl rfl (Nat.le_of_ble_eq_true rfl) (fun r M1 hr1 => ?_)
        obtain ⟨rfl, hM1⟩ := hr1
        rw [hM1]
        refine x_bipush 32 rfl dX11_sumOf_30 (by decide) ?_
        refine x_cSi 35 rfl lX11_211 dX11_sumOf_32 (c_X11_signOf (by decide)) rfl rfl (Nat.le_of_ble_eq_true rfl) (fun r M1 hr1 => ?_)
        obtain ⟨rfl, hM1⟩ := hr1
        rw [hM1]
        refine x_icmp_ne 38 103 rfl dX11_sumOf_35 (by decide) (fun c35 => ?_) (fun c35 => ?_)
        · rw [g_loop_e (by unfold gop_s; repeat rw [if_neg (by omega)])] at hq1
          cases hq1
          refine x_lload_n 104 rfl dX11_sumOf_103 2 rfl rfl ?_
          refine x_retj dX11_sumOf_104 rfl ?_
          left; exact ⟨hl1, hb0, _, hwx, rfl, hx1, rfl⟩
        · have hopv : gop_s (c s1.1) = 4 := by rw [show c s1.1 = 145 by omega]; decide
          have hc1 : c s1.1 ≠ 0 := by omega
          rw [g_loop_s (by rw [hopv]; decide)] at hq1
          rw [hopv] at hq1
          obtain ⟨s2, w2, hq2, hq3⟩ := g_bd_r hq1
          have hB2 := gW_A hB (gW_ad hB (hT.lt hB.1 hc1))
          have hw9 := gW_step hT hG hB hc1 hq2 (x := 4) (by decide)
          have hw8 := hw9.1
          simp only [g_em] at hw8
          refine x_aload_n 39 rfl dX11_sumOf_38 0 rfl rfl ?_
          refine x_aload_n 40 rfl dX11_sumOf_39 0 rfl rfl ?_
          refine x_geti 43 rfl fX11_249 dX11_sumOf_40 (lyl55 hL) (lys55 hL) (by decide) ?_
          try simp (disch := omega) only [z_up_ne, z_up_nk, z_up_eq, z_mup_ne, z_mup_eq, Int.reduceToNat, Int.toNat_natCast, ev_22, ev_24, ev_o, ev_ne, ev_u22, ev_u24]
          refine x_cVi 46 rfl lX11_252 dX11_sumOf_43 (lyl55 hL) (lys55 hL) (c_X11_codeAt hL hM hT hB.1) rfl rfl (Nat.le_of_ble_eq_true rfl) (fun r M1 hr1 => ?_)
          obtain ⟨rfl, hM1⟩ := hr1
          rw [hM1]
          refine x_bipush 48 rfl dX11_sumOf_46 (by decide) ?_
          refine x_cSi 51 rfl lX11_211 dX11_sumOf_48 (c_X11_signOf (by decide)) rfl rfl (Nat.le_of_ble_eq_true rfl) (fun r M1 hr1 => ?_)
          obtain ⟨rfl, hM1⟩ := hr1
          rw [hM1]
          refine x_icmp_ne 54 58 rfl dX11_sumOf_51 (by decide) (fun c51 => ?_) (fun c51 => ?_)
          · refine x_iconst 59 rfl dX11_sumOf_58 (by decide) ?_
            refine y_istore 61 rfl dX11_sumOf_59 rfl (ls' := [_, _, _, _, _, _, _]) rfl (by decide) ?_
            refine x_aload_n 62 rfl dX11_sumOf_61 0 rfl rfl ?_
            refine x_dupr 63 rfl dX11_sumOf_62 ?_
            refine x_geti 66 rfl fX11_249 dX11_sumOf_63 (lyl55 hL) (lys55 hL) (by decide) ?_
            try simp (disch := omega) only [z_up_ne, z_up_nk, z_up_eq, z_mup_ne, z_mup_eq, Int.reduceToNat, Int.toNat_natCast, ev_22, ev_24, ev_o, ev_ne, ev_u22, ev_u24]
            refine x_iconst 67 rfl dX11_sumOf_66 (by decide) ?_
            refine y_iadd 68 rfl dX11_sumOf_67 (by omega) ?_
            refine x_puti 71 rfl fX11_249 dX11_sumOf_68 (lyl55 hL) (lys55 hL) (by decide) ?_
            try simp only [ev_22, ev_24, ev_o, ev_ne, ev_u22, ev_u24]
            rw [ev_ad]
            refine z_mem (M' := ev M ((B + (g_ad s1).1 : Nat) : Int) _) rfl ?_
            refine x_aload_n 72 rfl dX11_sumOf_71 0 rfl rfl ?_
            refine x_iload_n 73 rfl dX11_sumOf_72 1 rfl rfl ?_
            refine x_cVj 76 rfl lX11_262 dX11_sumOf_73 (lyl55 hL) (lys55 hL) (c_X11_termOf hL hM hT hlv (Or.inl rfl) hO hi hE hB2 hin hq2) rfl rfl (Nat.le_of_ble_eq_true rfl) (fun r M2 hr2 => ?_)
            rcases hr2 with ⟨e1, e2, x2, e3, rfl, e5, hM2⟩ | ⟨e1, e2, e3, rfl, hM2⟩ | ⟨e1, rfl, hM2⟩
            · rw [hM2]
              refine y_lstore 78 rfl dX11_sumOf_76 rfl (ls' := [_, _, _, _, _, _, _]) rfl (by decide) ?_
              refine x_aload_n 79 rfl dX11_sumOf_78 0 rfl rfl ?_
              refine x_iload 81 rfl dX11_sumOf_79 rfl ?_
              refine x_if_eq 84 91 rfl dX11_sumOf_81 (by decide) (fun c81 => ?_) (fun c81 => ?_)
              · refine x_lload_n 92 rfl dX11_sumOf_91 2 rfl rfl ?_
                refine x_lload 94 rfl dX11_sumOf_92 rfl ?_
                refine y_lsub 95 rfl dX11_sumOf_94 (by omega) ?_
                refine x_iload_n 96 rfl dX11_sumOf_95 1 rfl rfl ?_
                refine x_cVj 99 rfl lX11_266 dX11_sumOf_96 (lyl55 hL) (lys55 hL) (c_X11_bounded hL (Or.inl rfl)) rfl rfl (Nat.le_of_ble_eq_true rfl) (fun r3 M3 hr3 => ?_)
                rcases hr3 with ⟨f1, f2, rfl, hM3⟩ | ⟨f1, hr3, hM3⟩
                · rw [hM3]
                  refine y_lstore_n 100 rfl dX11_sumOf_99 rfl rfl (ls' := [_, _, _, _, _, _, _]) rfl (by decide) ?_
                  refine x_goto 6 dX11_sumOf_100 (by decide) ?_
                  refine z_wk (ls' := [some (zn 55), some (zi live), some (zl (0)), none, none, none, none]) ⟨rfl, rfl, rfl, trivial⟩ (loopD f (g_em s2 4) _ 1 (Or.inr rfl) (gW_A hB hw9) (by simp only [g_em]; omega) hq3 (Or.inr (Or.inl ⟨hl1, hb0, g_loop_none f _ _ _ _ hq3 ?_, rfl, rfl⟩)) (Or.inr rfl))
                  simp only [v_join, hwx, e3]
                  rw [if_pos (by unfold zjoin zclip zBK; simp; omega)]
                · rw [if_neg (by decide)] at hr3
                  subst hr3
                  rw [hM3]
                  refine y_lstore_n 100 rfl dX11_sumOf_99 rfl rfl (ls' := [_, _, _, _, _, _, _]) rfl (by decide) ?_
                  refine x_goto 6 dX11_sumOf_100 (by decide) ?_
                  refine z_wk (ls' := [some (zn 55), some (zi live), some (zl (_)), none, none, none, none]) ⟨rfl, rfl, rfl, trivial⟩ (ih (g_em s2 4) _ _ (gW_A hB hw9) (by simp only [g_em]; omega) hq3 ?_ (by omega))
                  simp only [v_join, hwx, e3]
                  rw [show zjoin 4 x r = x - r by unfold zjoin zclip; simp; omega, if_neg (by unfold zBK; omega)]
              · exfalso; omega
            · rw [hM2]
              refine y_lstore 78 rfl dX11_sumOf_76 rfl (ls' := [_, _, _, _, _, _, _]) rfl (by decide) ?_
              refine x_aload_n 79 rfl dX11_sumOf_78 0 rfl rfl ?_
              refine x_iload 81 rfl dX11_sumOf_79 rfl ?_
              refine x_if_eq 84 91 rfl dX11_sumOf_81 (by decide) (fun c81 => ?_) (fun c81 => ?_)
              · refine x_lload_n 92 rfl dX11_sumOf_91 2 rfl rfl ?_
                refine x_lload 94 rfl dX11_sumOf_92 rfl ?_
                refine y_lsub 95 rfl dX11_sumOf_94 (by omega) ?_
                refine x_iload_n 96 rfl dX11_sumOf_95 1 rfl rfl ?_
                refine x_cVj 99 rfl lX11_266 dX11_sumOf_96 (lyl55 hL) (lys55 hL) (c_X11_bounded hL (Or.inr rfl)) rfl rfl (Nat.le_of_ble_eq_true rfl) (fun r3 M3 hr3 => ?_)
                rcases hr3 with ⟨f1, f2, rfl, hM3⟩ | ⟨f1, hr3, hM3⟩
                · exfalso; omega
                · rw [if_pos rfl] at hr3
                  subst hr3
                  rw [hM3]
                  refine y_lstore_n 100 rfl dX11_sumOf_99 rfl rfl (ls' := [_, _, _, _, _, _, _]) rfl (by decide) ?_
                  refine x_goto 6 dX11_sumOf_100 (by decide) ?_
                  refine z_wk (ls' := [some (zn 55), some (zi live), some (zl (0)), none, none, none, none]) ⟨rfl, rfl, rfl, trivial⟩ (loopD f (g_em s2 4) _ 1 (Or.inr rfl) (gW_A hB hw9) (by simp only [g_em]; omega) hq3 (Or.inr (Or.inl ⟨hl1, hb0, g_loop_none f _ _ _ _ hq3 ?_, rfl, rfl⟩)) (Or.inr rfl))
                  simp only [v_join, hwx, e3]
              · exfalso; omega
            · exfalso; omega
          · exfalso; omega
  refine zX_of pl_RX11 [some (zn 55), some (zi live), none, none, none, none, none] 5 rfl rfl ?_
  refine x_aload_n 1 rfl dX11_sumOf_0 0 rfl rfl ?_
  refine x_iload_n 2 rfl dX11_sumOf_1 1 rfl rfl ?_
  refine x_cVj 5 rfl lX11_262 dX11_sumOf_2 (lyl55 hL) (lys55 hL) (c_X11_termOf hL hM hT hlv hb hO hi hE hA hin hq0) rfl rfl (Nat.le_of_ble_eq_true rfl) (fun r M2 hr2 => ?_)
  rcases hr2 with ⟨e1, e2, x2, e3, rfl, e5, hM2⟩ | ⟨e1, e2, e3, rfl, hM2⟩ | ⟨e1, rfl, hM2⟩
  · rw [hM2]
    refine y_lstore_n 6 rfl dX11_sumOf_5 rfl rfl (ls' := [_, _, _, _, _, _, _]) rfl (by decide) ?_
    exact loopL e1 e2 401 s0 w0 _ hA0 (by omega) hq1 e3 e5
  · rw [hM2]
    refine y_lstore_n 6 rfl dX11_sumOf_5 rfl rfl (ls' := [_, _, _, _, _, _, _]) rfl (by decide) ?_
    exact loopD 401 s0 w0 1 (Or.inr rfl) hA0 (by omega) hq1 (Or.inr (Or.inl ⟨e1, e2, g_loop_none 401 _ _ _ _ hq1 e3, rfl, rfl⟩)) (Or.inr rfl)
  · rw [hM2]
    refine y_lstore_n 6 rfl dX11_sumOf_5 rfl rfl (ls' := [_, _, _, _, _, _, _]) rfl (by decide) ?_
    exact loopD 401 s0 w0 b e1 hA0 (by omega) hq1 (Or.inr (Or.inr ⟨e1, rfl, rfl⟩)) hb
