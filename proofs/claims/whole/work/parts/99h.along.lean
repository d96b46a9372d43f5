/-! reference: an order is read along -/
theorem ev_u37 {M : zMem} {g b x : Int} : z_up (ev M g b) 55 37 x = ev (z_up M 55 37 x) g b := by
  funext i j
  by_cases h : i = 55
  · subst h; by_cases h1 : j = 22 <;> by_cases h2 : j = 24 <;> by_cases h3 : j = 37 <;> simp [ev, z_up, h1, h2, h3] <;> omega
  · simp [ev, z_up, h]
theorem ev_u38 {M : zMem} {g b x : Int} : z_up (ev M g b) 55 38 x = ev (z_up M 55 38 x) g b := by
  funext i j
  by_cases h : i = 55
  · subst h; by_cases h1 : j = 22 <;> by_cases h2 : j = 24 <;> by_cases h3 : j = 38 <;> simp [ev, z_up, h1, h2, h3] <;> omega
  · simp [ev, z_up, h]
theorem ev_u39 {M : zMem} {g b x : Int} : z_up (ev M g b) 55 39 x = ev (z_up M 55 39 x) g b := by
  funext i j
  by_cases h : i = 55
  · subst h; by_cases h1 : j = 22 <;> by_cases h2 : j = 24 <;> by_cases h3 : j = 39 <;> simp [ev, z_up, h1, h2, h3] <;> omega
  · simp [ev, z_up, h]
theorem ev_u40 {M : zMem} {g b x : Int} : z_up (ev M g b) 55 40 x = ev (z_up M 55 40 x) g b := by
  funext i j
  by_cases h : i = 55
  · subst h; by_cases h1 : j = 22 <;> by_cases h2 : j = 24 <;> by_cases h3 : j = 40 <;> simp [ev, z_up, h1, h2, h3] <;> omega
  · simp [ev, z_up, h]
theorem ev_u73 {M : zMem} {g b x : Int} {k : Nat} : z_up (ev M g b) 73 k x = ev (z_up M 73 k x) g b := by
  funext i j
  by_cases h : i = 55
  · subst h; simp [ev, z_up]
  · simp [ev, z_up, h]
theorem ga_ev {M : zMem} {g e : Int} : z_up (z_up (z_up M 55 25 1) 55 23 e) 55 22 g = ev (z_up (z_up M 55 25 1) 55 23 e) g (M 55 24) := by
  funext i j
  by_cases h : i = 55
  · subst h; by_cases h1 : j = 22 <;> by_cases h2 : j = 23 <;> by_cases h3 : j = 24 <;> by_cases h4 : j = 25 <;> simp [ev, z_up, h1, h2, h3, h4] <;> omega
  · simp [ev, z_up, h]
def goF (M N : zMem) : Prop := (∀ i, i ≠ 55 → i ≠ 73 → N i = M i) ∧ ∀ j, j ≠ 22 → j ≠ 23 → j ≠ 24 → j ≠ 25 → j ≠ 37 → j ≠ 38 → j ≠ 39 → j ≠ 40 → N 55 j = M 55 j
def gaI (M : zMem) (B n : Nat) (c v : Nat → Int) (hd : Int) (N : zMem) : Prop := goF M N ∧ EVM N B n c v ∧ N 55 25 = 1 ∧ N 55 38 = hd
def gaS (hd live : Int) (e : Int → Int → Int) (w w2 : gV) (sa : Int) (f : Nat → Int) : Prop := (sa = 0 ∨ sa = 1) ∧ (live = 1 → (sa = 1 ∧ w e = some (f 0) ∧ ∃ y, w2 e = some y ∧ ((hd = 21 ∨ hd = 24) → f 1 = y)) ∨ (sa = 0 ∧ (w e = none ∨ w2 e = none)))
def gaQ (M : zMem) (B : Nat) (hd live : Int) (x : gC) (st : Nat) (M' : zMem) : Prop := goF M M' ∧ M' 55 22 = ((B + st : Nat) : Int) + 1 ∧ M' 55 38 = hd ∧ M' 55 37 = x.1.2.2.2.2 ∧ (M' 55 40 = 0 ∨ M' 55 40 = 1) ∧ (live = 1 → (M' 55 40 = 1 ↔ x.2.2.2 (mE M true) = some 1)) ∧ gaS hd live (mE M true) x.2.1 x.2.2.1 (M' 55 39) (M' 73)
theorem goF_mE {M N : zMem} (h : goF M N) : mE N true = mE M true := by
  rw [oE_mE, oE_mE, h.1 57 (by decide) (by decide), h.2 27 (by decide) (by decide) (by decide) (by decide) (by decide) (by decide) (by decide) (by decide), h.2 28 (by decide) (by decide) (by decide) (by decide) (by decide) (by decide) (by decide) (by decide)]
theorem gaI_up {M N : zMem} {B n : Nat} {c v : Nat → Int} {hd x : Int} {j : Nat} (h : gaI M B n c v hd N) (hj : j = 37 ∨ j = 39 ∨ j = 40) : gaI M B n c v hd (z_up N 55 j x) := by
  obtain ⟨h1, h2, h3, h4⟩ := h
  refine ⟨⟨fun i a b => by rw [z_up_ne a]; exact h1.1 i a b, fun q a b c d e f g k => by rw [z_up_nk (by omega)]; exact h1.2 q a b c d e f g k⟩, ⟨by rw [z_up_nk (by omega)]; exact h2.1, h2.2.1, fun i hi => by rw [z_up_ne (by decide)]; exact h2.2.2.1 i hi, fun i hi => by rw [z_up_ne (by decide)]; exact h2.2.2.2 i hi⟩, by rw [z_up_nk (by omega)]; exact h3, by rw [z_up_nk (by omega)]; exact h4⟩
theorem gaI_73 {M N : zMem} {B n : Nat} {c v : Nat → Int} {hd x : Int} {j : Nat} (h : gaI M B n c v hd N) : gaI M B n c v hd (z_up N 73 j x) := by
  obtain ⟨h1, h2, h3, h4⟩ := h
  refine ⟨⟨fun i a b => by rw [z_up_ne b]; exact h1.1 i a b, fun q a b c d e f g k => by rw [z_up_ne (by decide)]; exact h1.2 q a b c d e f g k⟩, ⟨by rw [z_up_ne (by decide)]; exact h2.1, h2.2.1, fun i hi => by rw [z_up_ne (by decide)]; exact h2.2.2.1 i hi, fun i hi => by rw [z_up_ne (by decide)]; exact h2.2.2.2 i hi⟩, by rw [z_up_ne (by decide)]; exact h3, by rw [z_up_ne (by decide)]; exact h4⟩
theorem gaI_0 {M : zMem} {B n : Nat} {c v : Nat → Int} {hd : Int} (hB : B + n ≤ 2800) (htc : ∀ i, i < n → M 57 (87 + (B + i)) = c i) (htv : ∀ i, i < n → M 57 (2887 + (B + i)) = v i) : gaI M B n c v hd (z_up (z_up (z_up (z_up M 55 25 1) 55 23 ((B + n : Nat) : Int)) 55 38 hd) 55 39 1) := by
  refine ⟨⟨fun i a b => by rw [z_up_ne a, z_up_ne a, z_up_ne a, z_up_ne a], fun q a b c d e f g k => by rw [z_up_nk g, z_up_nk f, z_up_nk b, z_up_nk d]⟩, ⟨by rw [z_up_nk (by decide), z_up_nk (by decide), z_up_eq], hB, fun i hi => by rw [z_up_ne (by decide), z_up_ne (by decide), z_up_ne (by decide), z_up_ne (by decide)]; exact htc i hi, fun i hi => by rw [z_up_ne (by decide), z_up_ne (by decide), z_up_ne (by decide), z_up_ne (by decide)]; exact htv i hi⟩, by rw [z_up_nk (by decide), z_up_nk (by decide), z_up_nk (by decide), z_up_eq], by rw [z_up_nk (by decide), z_up_eq]⟩
theorem ga_EVM0 {M : zMem} {B n : Nat} {c v : Nat → Int} (hB : B + n ≤ 2800) (htc : ∀ i, i < n → M 57 (87 + (B + i)) = c i) (htv : ∀ i, i < n → M 57 (2887 + (B + i)) = v i) : EVM (z_up (z_up M 55 25 1) 55 23 ((B + n : Nat) : Int)) B n c v :=
  ⟨by rw [z_up_eq], hB, fun i hi => by rw [z_up_ne (by decide), z_up_ne (by decide)]; exact htc i hi, fun i hi => by rw [z_up_ne (by decide), z_up_ne (by decide)]; exact htv i hi⟩
theorem gaQ_fin {M N : zMem} {B n : Nat} {c v : Nat → Int} {hd live tm p1 p2 q sa t1 t2 br : Int} {f : Nat → Int} {w w2 wt : gV} {x : gC} {st : Nat} (hG : gaI M B n c v hd N) (h37 : N 55 37 = tm) (h39 : N 55 39 = sa) (h73 : N 73 = f) (hS : gaS hd live (mE M true) w w2 sa f) (hx : x = ((kap hd, p1, p2, q, tm), w, w2, wt)) (ht2 : t2 = 0 ∨ t2 = 1) (ht : live = 1 → (t2 = 1 ↔ wt (mE M true) = some 1)) : gaQ M B hd live x st (ev (z_up (z_up N 55 40 t1) 55 40 t2) (((B + st : Nat) : Int) + 1) br) := by
  subst hx
  have h := gaI_up (gaI_up hG (x := t1) (j := 40) (by omega)) (x := t2) (j := 40) (by omega)
  refine ⟨⟨fun i a b => by rw [ev_ne a]; exact h.1.1 i a b, fun q a b c d e f g k => by rw [ev_o a c]; exact h.1.2 q a b c d e f g k⟩, ev_22, ?_, ?_, ?_, ?_, ?_⟩
  · rw [ev_o (by decide) (by decide)]; exact h.2.2.2
  · rw [ev_o (by decide) (by decide), z_up_nk (by decide), z_up_nk (by decide)]; exact h37
  · rw [ev_o (by decide) (by decide), z_up_eq]; exact ht2
  · rw [ev_o (by decide) (by decide), z_up_eq]; exact ht
  · rw [ev_o (by decide) (by decide), z_up_nk (by decide), z_up_nk (by decide), ev_ne (by decide), z_up_ne (by decide), z_up_ne (by decide), h39, h73]; exact hS

set_option maxRecDepth 100000 in
set_option maxHeartbeats 4000000 in
theorem c_X11_goesAlong {d sz : Nat} {S : zSh} {M : zMem} (hL : LY S sz) (hi : KI (M 57)) (hE : mEb M true) {B n : Nat} {c v : Nat → Int} (hB : B + n ≤ 2800) (htc : ∀ i, i < n → M 57 (87 + (B + i)) = c i) (htv : ∀ i, i < n → M 57 (2887 + (B + i)) = v i) (hT : TK c v n) {s s' : gS} {x : gC} (hA : gA n s) (hq : g_ord c v s = .inr (s', x)) (h36 : M 55 36 = ((B + s.1 : Nat) : Int)) {live : Int} (hlv : live = 0 ∨ live = 1) : zX (d + 42) 0 0 mX11_goesAlong [zn 55, zi ((B + n : Nat) : Int), zi live] sz S M (zU sz S (fun M' => gaQ M B (c s.1) live x s'.1 M')) := by
  have hn := hT.1
  have hA1 := hA.1
  have hs9 := (gW_A hA ((g_ord_ok hT hA).2 s' x hq).1).1
  have tst : ∀ (N : zMem) (s4 : gS) (b0 tm p1 p2 sa nn kk : Int) (f : Nat → Int) (w w2 : gV), gA n s4 → gaI M B n c v (c s.1) N → N 55 37 = tm → N 55 39 = sa → N 73 = f → gaS (c s.1) live (mE M true) w w2 sa f → g_tail c v true s4 (fun q wt => ((kap (c s.1), p1, p2, q, tm), w, w2, wt)) = .inr (s', x) → zW mX11_goesAlong (d + 42) 0 0 [] (zU sz S (fun M' => gaQ M B (c s.1) live x s'.1 M')) 180 [some (zn 55), some (zi ((B + n : Nat) : Int)), some (zi live), some (zi nn), some (zi kk)] [] sz S (ev N ((B + s4.1 : Nat) : Int) b0) := by
    intro N s4 b0 tm p1 p2 sa nn kk f w w2 hA4 hG h37 h39 h73 hS h5
    have hA41 := hA4.1
    have hM := hG.2.1
    have hO1 : N 55 25 = (if true = true then 1 else 0) := by rw [hG.2.2.1]; rfl
    have hme := goF_mE hG.1
    have hi1 : KI (N 57) := by rw [hG.1.1 57 (by decide) (by decide)]; exact hi
    have hE1 : mEb N true := by intro a b; rw [hme]; exact hE a b
    have hNB := hM.2.1
    refine x_aload_n 181 rfl dX11_goesAlong_180 0 rfl rfl ?_
    refine x_iconst 182 rfl dX11_goesAlong_181 (by decide) ?_
    refine x_putz 185 rfl fX11_259 dX11_goesAlong_182 (lyl55 hL) (lys55 hL) (by decide) (by omega) ?_
    try simp only [ev_22, ev_24, ev_o, ev_ne, ev_u22, ev_u24, ev_u37, ev_u38, ev_u39, ev_u40, ev_u73]
    refine x_aload_n 186 rfl dX11_goesAlong_185 0 rfl rfl ?_
    refine x_aload_n 187 rfl dX11_goesAlong_186 0 rfl rfl ?_
    refine x_iconst 188 rfl dX11_goesAlong_187 (by decide) ?_
    refine x_cVi 191 rfl lX11_273 dX11_goesAlong_188 (lyl55 hL) (lys55 hL) (c_X11_passes0 hL hM hT hA41) rfl rfl (Nat.le_of_ble_eq_true rfl) (fun r M1 hr1 => ?_)
    rcases hr1 with ⟨hx, rfl, hM1⟩ | ⟨hx, rfl, hM1⟩
    · rw [hM1]
      obtain ⟨s5, wt, h6, h7, h8⟩ : ∃ s5 wt, g_testD c v true 8 (g_ad s4) = .inr (s5, wt) ∧ s'.1 = s5.1 ∧ x = ((kap (c s.1), p1, p2, (s4.2.2.1 : Int), tm), w, w2, wt) := by
        rcases g_tail_inv h5 with ⟨-, a⟩ | ⟨a, -⟩
        · exact a
        · exact absurd hx a
      have hA5 := gW_A hA4 (gW_ad hA4 (hT.lt hA41 (show c s4.1 ≠ 0 by omega)))
      refine z_mem (M' := ev N ((B + (g_ad s4).1 : Nat) : Int) _) rfl ?_
      have hS0 := hS; clear hx h5
      refine x_if_eq 194 202 rfl dX11_goesAlong_191 (by decide) (fun c191 => ?_) (fun c191 => ?_)
      · exfalso; omega
      · refine x_aload_n 195 rfl dX11_goesAlong_194 0 rfl rfl ?_
        refine x_iload_n 196 rfl dX11_goesAlong_195 2 rfl rfl ?_
        refine x_cVi 199 rfl lX11_300 dX11_goesAlong_196 (lyl55 hL) (lys55 hL) (c_X11_testOf8 hL hM hT hO1 hi1 hE1 hlv (Or.inl rfl) hA5 h6) rfl rfl (Nat.le_of_ble_eq_true rfl) (fun r M2 hr2 => ?_)
        rw [hme] at hr2
        rcases hr2 with ⟨e1, e2, x2, e3, rfl, e5, hM2⟩ | ⟨e1, e2, e3, e4, hM2⟩ | ⟨e1, e4, hM2⟩
        · rw [hM2, ← h7]
          refine x_if_eq 202 206 rfl dX11_goesAlong_199 (by decide) (fun c199 => ?_) (fun c199 => ?_)
          · refine x_iconst 207 rfl dX11_goesAlong_206 (by decide) ?_
            refine x_putz 210 rfl fX11_437 dX11_goesAlong_207 (lyl55 hL) (lys55 hL) (by decide) (by omega) ?_
            try simp only [ev_22, ev_24, ev_o, ev_ne, ev_u22, ev_u24, ev_u37, ev_u38, ev_u39, ev_u40, ev_u73]
            refine x_aload_n 211 rfl dX11_goesAlong_210 0 rfl rfl ?_
            refine x_aload_n 212 rfl dX11_goesAlong_211 0 rfl rfl ?_
            refine x_getz 215 rfl fX11_437 dX11_goesAlong_212 (lyl55 hL) (lys55 hL) (by decide) ?_
            try simp (disch := omega) only [z_up_ne, z_up_nk, z_up_eq, z_mup_ne, z_mup_eq, Int.reduceToNat, Int.toNat_natCast, ev_22, ev_24, ev_o, ev_ne, ev_u22, ev_u24, ev_u37, ev_u38, ev_u39, ev_u40, ev_u73]
            refine x_if_eq 218 229 rfl dX11_goesAlong_215 (by decide) (fun c215 => ?_) (fun c215 => ?_)
            · refine x_iconst 230 rfl dX11_goesAlong_229 (by decide) ?_
              refine x_putz 233 rfl fX11_437 dX11_goesAlong_230 (lyl55 hL) (lys55 hL) (by decide) (by omega) ?_
              try simp only [ev_22, ev_24, ev_o, ev_ne, ev_u22, ev_u24, ev_u37, ev_u38, ev_u39, ev_u40, ev_u73]
              refine x_aload_n 234 rfl dX11_goesAlong_233 0 rfl rfl ?_
              refine x_dupr 235 rfl dX11_goesAlong_234 ?_
              refine x_geti 238 rfl fX11_249 dX11_goesAlong_235 (lyl55 hL) (lys55 hL) (by decide) ?_
              try simp (disch := omega) only [z_up_ne, z_up_nk, z_up_eq, z_mup_ne, z_mup_eq, Int.reduceToNat, Int.toNat_natCast, ev_22, ev_24, ev_o, ev_ne, ev_u22, ev_u24, ev_u37, ev_u38, ev_u39, ev_u40, ev_u73]
              refine x_iconst 239 rfl dX11_goesAlong_238 (by decide) ?_
              refine y_iadd 240 rfl dX11_goesAlong_239 (by omega) ?_
              refine x_puti 243 rfl fX11_249 dX11_goesAlong_240 (lyl55 hL) (lys55 hL) (by decide) ?_
              try simp only [ev_22, ev_24, ev_o, ev_ne, ev_u22, ev_u24, ev_u37, ev_u38, ev_u39, ev_u40, ev_u73]
              refine x_retu dX11_goesAlong_243 rfl ?_
              first
                | (exfalso; omega)
                | exact gaQ_fin hG h37 h39 h73 hS0 h8 (by omega) (fun h9 => by rw [e3]; exact ⟨fun h10 => congrArg some (by omega), fun h10 => by have h11 := Option.some.inj h10; omega⟩)
            · refine x_aload_n 219 rfl dX11_goesAlong_218 0 rfl rfl ?_
              refine x_getz 222 rfl fX11_259 dX11_goesAlong_219 (lyl55 hL) (lys55 hL) (by decide) ?_
              try simp (disch := omega) only [z_up_ne, z_up_nk, z_up_eq, z_mup_ne, z_mup_eq, Int.reduceToNat, Int.toNat_natCast, ev_22, ev_24, ev_o, ev_ne, ev_u22, ev_u24, ev_u37, ev_u38, ev_u39, ev_u40, ev_u73]
              refine x_if_ne 225 229 rfl dX11_goesAlong_222 (by decide) (fun c222 => ?_) (fun c222 => ?_)
              · refine x_iconst 230 rfl dX11_goesAlong_229 (by decide) ?_
                refine x_putz 233 rfl fX11_437 dX11_goesAlong_230 (lyl55 hL) (lys55 hL) (by decide) (by omega) ?_
                try simp only [ev_22, ev_24, ev_o, ev_ne, ev_u22, ev_u24, ev_u37, ev_u38, ev_u39, ev_u40, ev_u73]
                refine x_aload_n 234 rfl dX11_goesAlong_233 0 rfl rfl ?_
                refine x_dupr 235 rfl dX11_goesAlong_234 ?_
                refine x_geti 238 rfl fX11_249 dX11_goesAlong_235 (lyl55 hL) (lys55 hL) (by decide) ?_
                try simp (disch := omega) only [z_up_ne, z_up_nk, z_up_eq, z_mup_ne, z_mup_eq, Int.reduceToNat, Int.toNat_natCast, ev_22, ev_24, ev_o, ev_ne, ev_u22, ev_u24, ev_u37, ev_u38, ev_u39, ev_u40, ev_u73]
                refine x_iconst 239 rfl dX11_goesAlong_238 (by decide) ?_
                refine y_iadd 240 rfl dX11_goesAlong_239 (by omega) ?_
                refine x_puti 243 rfl fX11_249 dX11_goesAlong_240 (lyl55 hL) (lys55 hL) (by decide) ?_
                try simp only [ev_22, ev_24, ev_o, ev_ne, ev_u22, ev_u24, ev_u37, ev_u38, ev_u39, ev_u40, ev_u73]
                refine x_retu dX11_goesAlong_243 rfl ?_
                first
                  | (exfalso; omega)
                  | exact gaQ_fin hG h37 h39 h73 hS0 h8 (by omega) (fun h9 => by rw [e3]; exact ⟨fun h10 => congrArg some (by omega), fun h10 => by have h11 := Option.some.inj h10; omega⟩)
              · refine x_iconst 226 rfl dX11_goesAlong_225 (by decide) ?_
                refine x_goto 230 dX11_goesAlong_226 (by decide) ?_
                refine x_putz 233 rfl fX11_437 dX11_goesAlong_230 (lyl55 hL) (lys55 hL) (by decide) (by omega) ?_
                try simp only [ev_22, ev_24, ev_o, ev_ne, ev_u22, ev_u24, ev_u37, ev_u38, ev_u39, ev_u40, ev_u73]
                refine x_aload_n 234 rfl dX11_goesAlong_233 0 rfl rfl ?_
                refine x_dupr 235 rfl dX11_goesAlong_234 ?_
                refine x_geti 238 rfl fX11_249 dX11_goesAlong_235 (lyl55 hL) (lys55 hL) (by decide) ?_
                try simp (disch := omega) only [z_up_ne, z_up_nk, z_up_eq, z_mup_ne, z_mup_eq, Int.reduceToNat, Int.toNat_natCast, ev_22, ev_24, ev_o, ev_ne, ev_u22, ev_u24, ev_u37, ev_u38, ev_u39, ev_u40, ev_u73]
                refine x_iconst 239 rfl dX11_goesAlong_238 (by decide) ?_
                refine y_iadd 240 rfl dX11_goesAlong_239 (by omega) ?_
                refine x_puti 243 rfl fX11_249 dX11_goesAlong_240 (lyl55 hL) (lys55 hL) (by decide) ?_
                try simp only [ev_22, ev_24, ev_o, ev_ne, ev_u22, ev_u24, ev_u37, ev_u38, ev_u39, ev_u40, ev_u73]
                refine x_retu dX11_goesAlong_243 rfl ?_
                first
                  | (exfalso; omega)
                  | exact gaQ_fin hG h37 h39 h73 hS0 h8 (by omega) (fun h9 => by rw [e3]; exact ⟨fun h10 => congrArg some (by omega), fun h10 => by have h11 := Option.some.inj h10; omega⟩)
          · refine x_iconst 203 rfl dX11_goesAlong_202 (by decide) ?_
            refine x_goto 207 dX11_goesAlong_203 (by decide) ?_
            refine x_putz 210 rfl fX11_437 dX11_goesAlong_207 (lyl55 hL) (lys55 hL) (by decide) (by omega) ?_
            try simp only [ev_22, ev_24, ev_o, ev_ne, ev_u22, ev_u24, ev_u37, ev_u38, ev_u39, ev_u40, ev_u73]
            refine x_aload_n 211 rfl dX11_goesAlong_210 0 rfl rfl ?_
            refine x_aload_n 212 rfl dX11_goesAlong_211 0 rfl rfl ?_
            refine x_getz 215 rfl fX11_437 dX11_goesAlong_212 (lyl55 hL) (lys55 hL) (by decide) ?_
            try simp (disch := omega) only [z_up_ne, z_up_nk, z_up_eq, z_mup_ne, z_mup_eq, Int.reduceToNat, Int.toNat_natCast, ev_22, ev_24, ev_o, ev_ne, ev_u22, ev_u24, ev_u37, ev_u38, ev_u39, ev_u40, ev_u73]
            refine x_if_eq 218 229 rfl dX11_goesAlong_215 (by decide) (fun c215 => ?_) (fun c215 => ?_)
            · refine x_iconst 230 rfl dX11_goesAlong_229 (by decide) ?_
              refine x_putz 233 rfl fX11_437 dX11_goesAlong_230 (lyl55 hL) (lys55 hL) (by decide) (by omega) ?_
              try simp only [ev_22, ev_24, ev_o, ev_ne, ev_u22, ev_u24, ev_u37, ev_u38, ev_u39, ev_u40, ev_u73]
              refine x_aload_n 234 rfl dX11_goesAlong_233 0 rfl rfl ?_
              refine x_dupr 235 rfl dX11_goesAlong_234 ?_
              refine x_geti 238 rfl fX11_249 dX11_goesAlong_235 (lyl55 hL) (lys55 hL) (by decide) ?_
              try simp (disch := omega) only [z_up_ne, z_up_nk, z_up_eq, z_mup_ne, z_mup_eq, Int.reduceToNat, Int.toNat_natCast, ev_22, ev_24, ev_o, ev_ne, ev_u22, ev_u24, ev_u37, ev_u38, ev_u39, ev_u40, ev_u73]
              refine x_iconst 239 rfl dX11_goesAlong_238 (by decide) ?_
              refine y_iadd 240 rfl dX11_goesAlong_239 (by omega) ?_
              refine x_puti 243 rfl fX11_249 dX11_goesAlong_240 (lyl55 hL) (lys55 hL) (by decide) ?_
              try simp only [ev_22, ev_24, ev_o, ev_ne, ev_u22, ev_u24, ev_u37, ev_u38, ev_u39, ev_u40, ev_u73]
              refine x_retu dX11_goesAlong_243 rfl ?_
              first
                | (exfalso; omega)
                | exact gaQ_fin hG h37 h39 h73 hS0 h8 (by omega) (fun h9 => by rw [e3]; exact ⟨fun h10 => congrArg some (by omega), fun h10 => by have h11 := Option.some.inj h10; omega⟩)
            · refine x_aload_n 219 rfl dX11_goesAlong_218 0 rfl rfl ?_
              refine x_getz 222 rfl fX11_259 dX11_goesAlong_219 (lyl55 hL) (lys55 hL) (by decide) ?_
              try simp (disch := omega) only [z_up_ne, z_up_nk, z_up_eq, z_mup_ne, z_mup_eq, Int.reduceToNat, Int.toNat_natCast, ev_22, ev_24, ev_o, ev_ne, ev_u22, ev_u24, ev_u37, ev_u38, ev_u39, ev_u40, ev_u73]
              refine x_if_ne 225 229 rfl dX11_goesAlong_222 (by decide) (fun c222 => ?_) (fun c222 => ?_)
              · refine x_iconst 230 rfl dX11_goesAlong_229 (by decide) ?_
                refine x_putz 233 rfl fX11_437 dX11_goesAlong_230 (lyl55 hL) (lys55 hL) (by decide) (by omega) ?_
                try simp only [ev_22, ev_24, ev_o, ev_ne, ev_u22, ev_u24, ev_u37, ev_u38, ev_u39, ev_u40, ev_u73]
                refine x_aload_n 234 rfl dX11_goesAlong_233 0 rfl rfl ?_
                refine x_dupr 235 rfl dX11_goesAlong_234 ?_
                refine x_geti 238 rfl fX11_249 dX11_goesAlong_235 (lyl55 hL) (lys55 hL) (by decide) ?_
                try simp (disch := omega) only [z_up_ne, z_up_nk, z_up_eq, z_mup_ne, z_mup_eq, Int.reduceToNat, Int.toNat_natCast, ev_22, ev_24, ev_o, ev_ne, ev_u22, ev_u24, ev_u37, ev_u38, ev_u39, ev_u40, ev_u73]
                refine x_iconst 239 rfl dX11_goesAlong_238 (by decide) ?_
                refine y_iadd 240 rfl dX11_goesAlong_239 (by omega) ?_
                refine x_puti 243 rfl fX11_249 dX11_goesAlong_240 (lyl55 hL) (lys55 hL) (by decide) ?_
                try simp only [ev_22, ev_24, ev_o, ev_ne, ev_u22, ev_u24, ev_u37, ev_u38, ev_u39, ev_u40, ev_u73]
                refine x_retu dX11_goesAlong_243 rfl ?_
                first
                  | (exfalso; omega)
                  | exact gaQ_fin hG h37 h39 h73 hS0 h8 (by omega) (fun h9 => by rw [e3]; exact ⟨fun h10 => congrArg some (by omega), fun h10 => by have h11 := Option.some.inj h10; omega⟩)
              · refine x_iconst 226 rfl dX11_goesAlong_225 (by decide) ?_
                refine x_goto 230 dX11_goesAlong_226 (by decide) ?_
                refine x_putz 233 rfl fX11_437 dX11_goesAlong_230 (lyl55 hL) (lys55 hL) (by decide) (by omega) ?_
                try simp only [ev_22, ev_24, ev_o, ev_ne, ev_u22, ev_u24, ev_u37, ev_u38, ev_u39, ev_u40, ev_u73]
                refine x_aload_n 234 rfl dX11_goesAlong_233 0 rfl rfl ?_
                refine x_dupr 235 rfl dX11_goesAlong_234 ?_
                refine x_geti 238 rfl fX11_249 dX11_goesAlong_235 (lyl55 hL) (lys55 hL) (by decide) ?_
                try simp (disch := omega) only [z_up_ne, z_up_nk, z_up_eq, z_mup_ne, z_mup_eq, Int.reduceToNat, Int.toNat_natCast, ev_22, ev_24, ev_o, ev_ne, ev_u22, ev_u24, ev_u37, ev_u38, ev_u39, ev_u40, ev_u73]
                refine x_iconst 239 rfl dX11_goesAlong_238 (by decide) ?_
                refine y_iadd 240 rfl dX11_goesAlong_239 (by omega) ?_
                refine x_puti 243 rfl fX11_249 dX11_goesAlong_240 (lyl55 hL) (lys55 hL) (by decide) ?_
                try simp only [ev_22, ev_24, ev_o, ev_ne, ev_u22, ev_u24, ev_u37, ev_u38, ev_u39, ev_u40, ev_u73]
                refine x_retu dX11_goesAlong_243 rfl ?_
                first
                  | (exfalso; omega)
                  | exact gaQ_fin hG h37 h39 h73 hS0 h8 (by omega) (fun h9 => by rw [e3]; exact ⟨fun h10 => congrArg some (by omega), fun h10 => by have h11 := Option.some.inj h10; omega⟩)
        · rw [hM2, ← h7]
          refine x_if_eq 202 206 rfl dX11_goesAlong_199 (by decide) (fun c199 => ?_) (fun c199 => ?_)
          · refine x_iconst 207 rfl dX11_goesAlong_206 (by decide) ?_
            refine x_putz 210 rfl fX11_437 dX11_goesAlong_207 (lyl55 hL) (lys55 hL) (by decide) (by omega) ?_
            try simp only [ev_22, ev_24, ev_o, ev_ne, ev_u22, ev_u24, ev_u37, ev_u38, ev_u39, ev_u40, ev_u73]
            refine x_aload_n 211 rfl dX11_goesAlong_210 0 rfl rfl ?_
            refine x_aload_n 212 rfl dX11_goesAlong_211 0 rfl rfl ?_
            refine x_getz 215 rfl fX11_437 dX11_goesAlong_212 (lyl55 hL) (lys55 hL) (by decide) ?_
            try simp (disch := omega) only [z_up_ne, z_up_nk, z_up_eq, z_mup_ne, z_mup_eq, Int.reduceToNat, Int.toNat_natCast, ev_22, ev_24, ev_o, ev_ne, ev_u22, ev_u24, ev_u37, ev_u38, ev_u39, ev_u40, ev_u73]
            refine x_if_eq 218 229 rfl dX11_goesAlong_215 (by decide) (fun c215 => ?_) (fun c215 => ?_)
            · refine x_iconst 230 rfl dX11_goesAlong_229 (by decide) ?_
              refine x_putz 233 rfl fX11_437 dX11_goesAlong_230 (lyl55 hL) (lys55 hL) (by decide) (by omega) ?_
              try simp only [ev_22, ev_24, ev_o, ev_ne, ev_u22, ev_u24, ev_u37, ev_u38, ev_u39, ev_u40, ev_u73]
              refine x_aload_n 234 rfl dX11_goesAlong_233 0 rfl rfl ?_
              refine x_dupr 235 rfl dX11_goesAlong_234 ?_
              refine x_geti 238 rfl fX11_249 dX11_goesAlong_235 (lyl55 hL) (lys55 hL) (by decide) ?_
              try simp (disch := omega) only [z_up_ne, z_up_nk, z_up_eq, z_mup_ne, z_mup_eq, Int.reduceToNat, Int.toNat_natCast, ev_22, ev_24, ev_o, ev_ne, ev_u22, ev_u24, ev_u37, ev_u38, ev_u39, ev_u40, ev_u73]
              refine x_iconst 239 rfl dX11_goesAlong_238 (by decide) ?_
              refine y_iadd 240 rfl dX11_goesAlong_239 (by omega) ?_
              refine x_puti 243 rfl fX11_249 dX11_goesAlong_240 (lyl55 hL) (lys55 hL) (by decide) ?_
              try simp only [ev_22, ev_24, ev_o, ev_ne, ev_u22, ev_u24, ev_u37, ev_u38, ev_u39, ev_u40, ev_u73]
              refine x_retu dX11_goesAlong_243 rfl ?_
              first
                | (exfalso; omega)
                | exact gaQ_fin hG h37 h39 h73 hS0 h8 (by omega) (fun h9 => by rw [e3]; exact ⟨fun h10 => by omega, fun h10 => by cases h10⟩)
            · refine x_aload_n 219 rfl dX11_goesAlong_218 0 rfl rfl ?_
              refine x_getz 222 rfl fX11_259 dX11_goesAlong_219 (lyl55 hL) (lys55 hL) (by decide) ?_
              try simp (disch := omega) only [z_up_ne, z_up_nk, z_up_eq, z_mup_ne, z_mup_eq, Int.reduceToNat, Int.toNat_natCast, ev_22, ev_24, ev_o, ev_ne, ev_u22, ev_u24, ev_u37, ev_u38, ev_u39, ev_u40, ev_u73]
              refine x_if_ne 225 229 rfl dX11_goesAlong_222 (by decide) (fun c222 => ?_) (fun c222 => ?_)
              · refine x_iconst 230 rfl dX11_goesAlong_229 (by decide) ?_
                refine x_putz 233 rfl fX11_437 dX11_goesAlong_230 (lyl55 hL) (lys55 hL) (by decide) (by omega) ?_
                try simp only [ev_22, ev_24, ev_o, ev_ne, ev_u22, ev_u24, ev_u37, ev_u38, ev_u39, ev_u40, ev_u73]
                refine x_aload_n 234 rfl dX11_goesAlong_233 0 rfl rfl ?_
                refine x_dupr 235 rfl dX11_goesAlong_234 ?_
                refine x_geti 238 rfl fX11_249 dX11_goesAlong_235 (lyl55 hL) (lys55 hL) (by decide) ?_
                try simp (disch := omega) only [z_up_ne, z_up_nk, z_up_eq, z_mup_ne, z_mup_eq, Int.reduceToNat, Int.toNat_natCast, ev_22, ev_24, ev_o, ev_ne, ev_u22, ev_u24, ev_u37, ev_u38, ev_u39, ev_u40, ev_u73]
                refine x_iconst 239 rfl dX11_goesAlong_238 (by decide) ?_
                refine y_iadd 240 rfl dX11_goesAlong_239 (by omega) ?_
                refine x_puti 243 rfl fX11_249 dX11_goesAlong_240 (lyl55 hL) (lys55 hL) (by decide) ?_
                try simp only [ev_22, ev_24, ev_o, ev_ne, ev_u22, ev_u24, ev_u37, ev_u38, ev_u39, ev_u40, ev_u73]
                refine x_retu dX11_goesAlong_243 rfl ?_
                first
                  | (exfalso; omega)
                  | exact gaQ_fin hG h37 h39 h73 hS0 h8 (by omega) (fun h9 => by rw [e3]; exact ⟨fun h10 => by omega, fun h10 => by cases h10⟩)
              · refine x_iconst 226 rfl dX11_goesAlong_225 (by decide) ?_
                refine x_goto 230 dX11_goesAlong_226 (by decide) ?_
                refine x_putz 233 rfl fX11_437 dX11_goesAlong_230 (lyl55 hL) (lys55 hL) (by decide) (by omega) ?_
                try simp only [ev_22, ev_24, ev_o, ev_ne, ev_u22, ev_u24, ev_u37, ev_u38, ev_u39, ev_u40, ev_u73]
                refine x_aload_n 234 rfl dX11_goesAlong_233 0 rfl rfl ?_
                refine x_dupr 235 rfl dX11_goesAlong_234 ?_
                refine x_geti 238 rfl fX11_249 dX11_goesAlong_235 (lyl55 hL) (lys55 hL) (by decide) ?_
                try simp (disch := omega) only [z_up_ne, z_up_nk, z_up_eq, z_mup_ne, z_mup_eq, Int.reduceToNat, Int.toNat_natCast, ev_22, ev_24, ev_o, ev_ne, ev_u22, ev_u24, ev_u37, ev_u38, ev_u39, ev_u40, ev_u73]
                refine x_iconst 239 rfl dX11_goesAlong_238 (by decide) ?_
                refine y_iadd 240 rfl dX11_goesAlong_239 (by omega) ?_
                refine x_puti 243 rfl fX11_249 dX11_goesAlong_240 (lyl55 hL) (lys55 hL) (by decide) ?_
                try simp only [ev_22, ev_24, ev_o, ev_ne, ev_u22, ev_u24, ev_u37, ev_u38, ev_u39, ev_u40, ev_u73]
                refine x_retu dX11_goesAlong_243 rfl ?_
                first
                  | (exfalso; omega)
                  | exact gaQ_fin hG h37 h39 h73 hS0 h8 (by omega) (fun h9 => by rw [e3]; exact ⟨fun h10 => by omega, fun h10 => by cases h10⟩)
          · refine x_iconst 203 rfl dX11_goesAlong_202 (by decide) ?_
            refine x_goto 207 dX11_goesAlong_203 (by decide) ?_
            refine x_putz 210 rfl fX11_437 dX11_goesAlong_207 (lyl55 hL) (lys55 hL) (by decide) (by omega) ?_
            try simp only [ev_22, ev_24, ev_o, ev_ne, ev_u22, ev_u24, ev_u37, ev_u38, ev_u39, ev_u40, ev_u73]
            refine x_aload_n 211 rfl dX11_goesAlong_210 0 rfl rfl ?_
            refine x_aload_n 212 rfl dX11_goesAlong_211 0 rfl rfl ?_
            refine x_getz 215 rfl fX11_437 dX11_goesAlong_212 (lyl55 hL) (lys55 hL) (by decide) ?_
            try simp (disch := omega) only [z_up_ne, z_up_nk, z_up_eq, z_mup_ne, z_mup_eq, Int.reduceToNat, Int.toNat_natCast, ev_22, ev_24, ev_o, ev_ne, ev_u22, ev_u24, ev_u37, ev_u38, ev_u39, ev_u40, ev_u73]
            refine x_if_eq 218 229 rfl dX11_goesAlong_215 (by decide) (fun c215 => ?_) (fun c215 => ?_)
            · refine x_iconst 230 rfl dX11_goesAlong_229 (by decide) ?_
              refine x_putz 233 rfl fX11_437 dX11_goesAlong_230 (lyl55 hL) (lys55 hL) (by decide) (by omega) ?_
              try simp only [ev_22, ev_24, ev_o, ev_ne, ev_u22, ev_u24, ev_u37, ev_u38, ev_u39, ev_u40, ev_u73]
              refine x_aload_n 234 rfl dX11_goesAlong_233 0 rfl rfl ?_
              refine x_dupr 235 rfl dX11_goesAlong_234 ?_
              refine x_geti 238 rfl fX11_249 dX11_goesAlong_235 (lyl55 hL) (lys55 hL) (by decide) ?_
              try simp (disch := omega) only [z_up_ne, z_up_nk, z_up_eq, z_mup_ne, z_mup_eq, Int.reduceToNat, Int.toNat_natCast, ev_22, ev_24, ev_o, ev_ne, ev_u22, ev_u24, ev_u37, ev_u38, ev_u39, ev_u40, ev_u73]
              refine x_iconst 239 rfl dX11_goesAlong_238 (by decide) ?_
              refine y_iadd 240 rfl dX11_goesAlong_239 (by omega) ?_
              refine x_puti 243 rfl fX11_249 dX11_goesAlong_240 (lyl55 hL) (lys55 hL) (by decide) ?_
              try simp only [ev_22, ev_24, ev_o, ev_ne, ev_u22, ev_u24, ev_u37, ev_u38, ev_u39, ev_u40, ev_u73]
              refine x_retu dX11_goesAlong_243 rfl ?_
              first
                | (exfalso; omega)
                | exact gaQ_fin hG h37 h39 h73 hS0 h8 (by omega) (fun h9 => by rw [e3]; exact ⟨fun h10 => by omega, fun h10 => by cases h10⟩)
            · refine x_aload_n 219 rfl dX11_goesAlong_218 0 rfl rfl ?_
              refine x_getz 222 rfl fX11_259 dX11_goesAlong_219 (lyl55 hL) (lys55 hL) (by decide) ?_
              try simp (disch := omega) only [z_up_ne, z_up_nk, z_up_eq, z_mup_ne, z_mup_eq, Int.reduceToNat, Int.toNat_natCast, ev_22, ev_24, ev_o, ev_ne, ev_u22, ev_u24, ev_u37, ev_u38, ev_u39, ev_u40, ev_u73]
              refine x_if_ne 225 229 rfl dX11_goesAlong_222 (by decide) (fun c222 => ?_) (fun c222 => ?_)
              · refine x_iconst 230 rfl dX11_goesAlong_229 (by decide) ?_
                refine x_putz 233 rfl fX11_437 dX11_goesAlong_230 (lyl55 hL) (lys55 hL) (by decide) (by omega) ?_
                try simp only [ev_22, ev_24, ev_o, ev_ne, ev_u22, ev_u24, ev_u37, ev_u38, ev_u39, ev_u40, ev_u73]
                refine x_aload_n 234 rfl dX11_goesAlong_233 0 rfl rfl ?_
                refine x_dupr 235 rfl dX11_goesAlong_234 ?_
                refine x_geti 238 rfl fX11_249 dX11_goesAlong_235 (lyl55 hL) (lys55 hL) (by decide) ?_
                try simp (disch := omega) only [z_up_ne, z_up_nk, z_up_eq, z_mup_ne, z_mup_eq, Int.reduceToNat, Int.toNat_natCast, ev_22, ev_24, ev_o, ev_ne, ev_u22, ev_u24, ev_u37, ev_u38, ev_u39, ev_u40, ev_u73]
                refine x_iconst 239 rfl dX11_goesAlong_238 (by decide) ?_
                refine y_iadd 240 rfl dX11_goesAlong_239 (by omega) ?_
                refine x_puti 243 rfl fX11_249 dX11_goesAlong_240 (lyl55 hL) (lys55 hL) (by decide) ?_
                try simp only [ev_22, ev_24, ev_o, ev_ne, ev_u22, ev_u24, ev_u37, ev_u38, ev_u39, ev_u40, ev_u73]
                refine x_retu dX11_goesAlong_243 rfl ?_
                first
                  | (exfalso; omega)
                  | exact gaQ_fin hG h37 h39 h73 hS0 h8 (by omega) (fun h9 => by rw [e3]; exact ⟨fun h10 => by omega, fun h10 => by cases h10⟩)
              · refine x_iconst 226 rfl dX11_goesAlong_225 (by decide) ?_
                refine x_goto 230 dX11_goesAlong_226 (by decide) ?_
                refine x_putz 233 rfl fX11_437 dX11_goesAlong_230 (lyl55 hL) (lys55 hL) (by decide) (by omega) ?_
                try simp only [ev_22, ev_24, ev_o, ev_ne, ev_u22, ev_u24, ev_u37, ev_u38, ev_u39, ev_u40, ev_u73]
                refine x_aload_n 234 rfl dX11_goesAlong_233 0 rfl rfl ?_
                refine x_dupr 235 rfl dX11_goesAlong_234 ?_
                refine x_geti 238 rfl fX11_249 dX11_goesAlong_235 (lyl55 hL) (lys55 hL) (by decide) ?_
                try simp (disch := omega) only [z_up_ne, z_up_nk, z_up_eq, z_mup_ne, z_mup_eq, Int.reduceToNat, Int.toNat_natCast, ev_22, ev_24, ev_o, ev_ne, ev_u22, ev_u24, ev_u37, ev_u38, ev_u39, ev_u40, ev_u73]
                refine x_iconst 239 rfl dX11_goesAlong_238 (by decide) ?_
                refine y_iadd 240 rfl dX11_goesAlong_239 (by omega) ?_
                refine x_puti 243 rfl fX11_249 dX11_goesAlong_240 (lyl55 hL) (lys55 hL) (by decide) ?_
                try simp only [ev_22, ev_24, ev_o, ev_ne, ev_u22, ev_u24, ev_u37, ev_u38, ev_u39, ev_u40, ev_u73]
                refine x_retu dX11_goesAlong_243 rfl ?_
                first
                  | (exfalso; omega)
                  | exact gaQ_fin hG h37 h39 h73 hS0 h8 (by omega) (fun h9 => by rw [e3]; exact ⟨fun h10 => by omega, fun h10 => by cases h10⟩)
        · rw [hM2, ← h7]
          refine x_if_eq 202 206 rfl dX11_goesAlong_199 (by decide) (fun c199 => ?_) (fun c199 => ?_)
          · refine x_iconst 207 rfl dX11_goesAlong_206 (by decide) ?_
            refine x_putz 210 rfl fX11_437 dX11_goesAlong_207 (lyl55 hL) (lys55 hL) (by decide) (by omega) ?_
            try simp only [ev_22, ev_24, ev_o, ev_ne, ev_u22, ev_u24, ev_u37, ev_u38, ev_u39, ev_u40, ev_u73]
            refine x_aload_n 211 rfl dX11_goesAlong_210 0 rfl rfl ?_
            refine x_aload_n 212 rfl dX11_goesAlong_211 0 rfl rfl ?_
            refine x_getz 215 rfl fX11_437 dX11_goesAlong_212 (lyl55 hL) (lys55 hL) (by decide) ?_
            try simp (disch := omega) only [z_up_ne, z_up_nk, z_up_eq, z_mup_ne, z_mup_eq, Int.reduceToNat, Int.toNat_natCast, ev_22, ev_24, ev_o, ev_ne, ev_u22, ev_u24, ev_u37, ev_u38, ev_u39, ev_u40, ev_u73]
            refine x_if_eq 218 229 rfl dX11_goesAlong_215 (by decide) (fun c215 => ?_) (fun c215 => ?_)
            · refine x_iconst 230 rfl dX11_goesAlong_229 (by decide) ?_
              refine x_putz 233 rfl fX11_437 dX11_goesAlong_230 (lyl55 hL) (lys55 hL) (by decide) (by omega) ?_
              try simp only [ev_22, ev_24, ev_o, ev_ne, ev_u22, ev_u24, ev_u37, ev_u38, ev_u39, ev_u40, ev_u73]
              refine x_aload_n 234 rfl dX11_goesAlong_233 0 rfl rfl ?_
              refine x_dupr 235 rfl dX11_goesAlong_234 ?_
              refine x_geti 238 rfl fX11_249 dX11_goesAlong_235 (lyl55 hL) (lys55 hL) (by decide) ?_
              try simp (disch := omega) only [z_up_ne, z_up_nk, z_up_eq, z_mup_ne, z_mup_eq, Int.reduceToNat, Int.toNat_natCast, ev_22, ev_24, ev_o, ev_ne, ev_u22, ev_u24, ev_u37, ev_u38, ev_u39, ev_u40, ev_u73]
              refine x_iconst 239 rfl dX11_goesAlong_238 (by decide) ?_
              refine y_iadd 240 rfl dX11_goesAlong_239 (by omega) ?_
              refine x_puti 243 rfl fX11_249 dX11_goesAlong_240 (lyl55 hL) (lys55 hL) (by decide) ?_
              try simp only [ev_22, ev_24, ev_o, ev_ne, ev_u22, ev_u24, ev_u37, ev_u38, ev_u39, ev_u40, ev_u73]
              refine x_retu dX11_goesAlong_243 rfl ?_
              first
                | (exfalso; omega)
                | exact gaQ_fin hG h37 h39 h73 hS0 h8 (by omega) (fun h9 => by omega)
            · refine x_aload_n 219 rfl dX11_goesAlong_218 0 rfl rfl ?_
              refine x_getz 222 rfl fX11_259 dX11_goesAlong_219 (lyl55 hL) (lys55 hL) (by decide) ?_
              try simp (disch := omega) only [z_up_ne, z_up_nk, z_up_eq, z_mup_ne, z_mup_eq, Int.reduceToNat, Int.toNat_natCast, ev_22, ev_24, ev_o, ev_ne, ev_u22, ev_u24, ev_u37, ev_u38, ev_u39, ev_u40, ev_u73]
              refine x_if_ne 225 229 rfl dX11_goesAlong_222 (by decide) (fun c222 => ?_) (fun c222 => ?_)
              · refine x_iconst 230 rfl dX11_goesAlong_229 (by decide) ?_
                refine x_putz 233 rfl fX11_437 dX11_goesAlong_230 (lyl55 hL) (lys55 hL) (by decide) (by omega) ?_
                try simp only [ev_22, ev_24, ev_o, ev_ne, ev_u22, ev_u24, ev_u37, ev_u38, ev_u39, ev_u40, ev_u73]
                refine x_aload_n 234 rfl dX11_goesAlong_233 0 rfl rfl ?_
                refine x_dupr 235 rfl dX11_goesAlong_234 ?_
                refine x_geti 238 rfl fX11_249 dX11_goesAlong_235 (lyl55 hL) (lys55 hL) (by decide) ?_
                try simp (disch := omega) only [z_up_ne, z_up_nk, z_up_eq, z_mup_ne, z_mup_eq, Int.reduceToNat, Int.toNat_natCast, ev_22, ev_24, ev_o, ev_ne, ev_u22, ev_u24, ev_u37, ev_u38, ev_u39, ev_u40, ev_u73]
                refine x_iconst 239 rfl dX11_goesAlong_238 (by decide) ?_
                refine y_iadd 240 rfl dX11_goesAlong_239 (by omega) ?_
                refine x_puti 243 rfl fX11_249 dX11_goesAlong_240 (lyl55 hL) (lys55 hL) (by decide) ?_
                try simp only [ev_22, ev_24, ev_o, ev_ne, ev_u22, ev_u24, ev_u37, ev_u38, ev_u39, ev_u40, ev_u73]
                refine x_retu dX11_goesAlong_243 rfl ?_
                first
                  | (exfalso; omega)
                  | exact gaQ_fin hG h37 h39 h73 hS0 h8 (by omega) (fun h9 => by omega)
              · refine x_iconst 226 rfl dX11_goesAlong_225 (by decide) ?_
                refine x_goto 230 dX11_goesAlong_226 (by decide) ?_
                refine x_putz 233 rfl fX11_437 dX11_goesAlong_230 (lyl55 hL) (lys55 hL) (by decide) (by omega) ?_
                try simp only [ev_22, ev_24, ev_o, ev_ne, ev_u22, ev_u24, ev_u37, ev_u38, ev_u39, ev_u40, ev_u73]
                refine x_aload_n 234 rfl dX11_goesAlong_233 0 rfl rfl ?_
                refine x_dupr 235 rfl dX11_goesAlong_234 ?_
                refine x_geti 238 rfl fX11_249 dX11_goesAlong_235 (lyl55 hL) (lys55 hL) (by decide) ?_
                try simp (disch := omega) only [z_up_ne, z_up_nk, z_up_eq, z_mup_ne, z_mup_eq, Int.reduceToNat, Int.toNat_natCast, ev_22, ev_24, ev_o, ev_ne, ev_u22, ev_u24, ev_u37, ev_u38, ev_u39, ev_u40, ev_u73]
                refine x_iconst 239 rfl dX11_goesAlong_238 (by decide) ?_
                refine y_iadd 240 rfl dX11_goesAlong_239 (by omega) ?_
                refine x_puti 243 rfl fX11_249 dX11_goesAlong_240 (lyl55 hL) (lys55 hL) (by decide) ?_
                try simp only [ev_22, ev_24, ev_o, ev_ne, ev_u22, ev_u24, ev_u37, ev_u38, ev_u39, ev_u40, ev_u73]
                refine x_retu dX11_goesAlong_243 rfl ?_
                first
                  | (exfalso; omega)
                  | exact gaQ_fin hG h37 h39 h73 hS0 h8 (by omega) (fun h9 => by omega)
          · refine x_iconst 203 rfl dX11_goesAlong_202 (by decide) ?_
            refine x_goto 207 dX11_goesAlong_203 (by decide) ?_
            refine x_putz 210 rfl fX11_437 dX11_goesAlong_207 (lyl55 hL) (lys55 hL) (by decide) (by omega) ?_
            try simp only [ev_22, ev_24, ev_o, ev_ne, ev_u22, ev_u24, ev_u37, ev_u38, ev_u39, ev_u40, ev_u73]
            refine x_aload_n 211 rfl dX11_goesAlong_210 0 rfl rfl ?_
            refine x_aload_n 212 rfl dX11_goesAlong_211 0 rfl rfl ?_
            refine x_getz 215 rfl fX11_437 dX11_goesAlong_212 (lyl55 hL) (lys55 hL) (by decide) ?_
            try simp (disch := omega) only [z_up_ne, z_up_nk, z_up_eq, z_mup_ne, z_mup_eq, Int.reduceToNat, Int.toNat_natCast, ev_22, ev_24, ev_o, ev_ne, ev_u22, ev_u24, ev_u37, ev_u38, ev_u39, ev_u40, ev_u73]
            refine x_if_eq 218 229 rfl dX11_goesAlong_215 (by decide) (fun c215 => ?_) (fun c215 => ?_)
            · refine x_iconst 230 rfl dX11_goesAlong_229 (by decide) ?_
              refine x_putz 233 rfl fX11_437 dX11_goesAlong_230 (lyl55 hL) (lys55 hL) (by decide) (by omega) ?_
              try simp only [ev_22, ev_24, ev_o, ev_ne, ev_u22, ev_u24, ev_u37, ev_u38, ev_u39, ev_u40, ev_u73]
              refine x_aload_n 234 rfl dX11_goesAlong_233 0 rfl rfl ?_
              refine x_dupr 235 rfl dX11_goesAlong_234 ?_
              refine x_geti 238 rfl fX11_249 dX11_goesAlong_235 (lyl55 hL) (lys55 hL) (by decide) ?_
              try simp (disch := omega) only [z_up_ne, z_up_nk, z_up_eq, z_mup_ne, z_mup_eq, Int.reduceToNat, Int.toNat_natCast, ev_22, ev_24, ev_o, ev_ne, ev_u22, ev_u24, ev_u37, ev_u38, ev_u39, ev_u40, ev_u73]
              refine x_iconst 239 rfl dX11_goesAlong_238 (by decide) ?_
              refine y_iadd 240 rfl dX11_goesAlong_239 (by omega) ?_
              refine x_puti 243 rfl fX11_249 dX11_goesAlong_240 (lyl55 hL) (lys55 hL) (by decide) ?_
              try simp only [ev_22, ev_24, ev_o, ev_ne, ev_u22, ev_u24, ev_u37, ev_u38, ev_u39, ev_u40, ev_u73]
              refine x_retu dX11_goesAlong_243 rfl ?_
              first
                | (exfalso; omega)
                | exact gaQ_fin hG h37 h39 h73 hS0 h8 (by omega) (fun h9 => by omega)
            · refine x_aload_n 219 rfl dX11_goesAlong_218 0 rfl rfl ?_
              refine x_getz 222 rfl fX11_259 dX11_goesAlong_219 (lyl55 hL) (lys55 hL) (by decide) ?_
              try simp (disch := omega) only [z_up_ne, z_up_nk, z_up_eq, z_mup_ne, z_mup_eq, Int.reduceToNat, Int.toNat_natCast, ev_22, ev_24, ev_o, ev_ne, ev_u22, ev_u24, ev_u37, ev_u38, ev_u39, ev_u40, ev_u73]
              refine x_if_ne 225 229 rfl dX11_goesAlong_222 (by decide) (fun c222 => ?_) (fun c222 => ?_)
              · refine x_iconst 230 rfl dX11_goesAlong_229 (by decide) ?_
                refine x_putz 233 rfl fX11_437 dX11_goesAlong_230 (lyl55 hL) (lys55 hL) (by decide) (by omega) ?_
                try simp only [ev_22, ev_24, ev_o, ev_ne, ev_u22, ev_u24, ev_u37, ev_u38, ev_u39, ev_u40, ev_u73]
                refine x_aload_n 234 rfl dX11_goesAlong_233 0 rfl rfl ?_
                refine x_dupr 235 rfl dX11_goesAlong_234 ?_
                refine x_geti 238 rfl fX11_249 dX11_goesAlong_235 (lyl55 hL) (lys55 hL) (by decide) ?_
                try simp (disch := omega) only [z_up_ne, z_up_nk, z_up_eq, z_mup_ne, z_mup_eq, Int.reduceToNat, Int.toNat_natCast, ev_22, ev_24, ev_o, ev_ne, ev_u22, ev_u24, ev_u37, ev_u38, ev_u39, ev_u40, ev_u73]
                refine x_iconst 239 rfl dX11_goesAlong_238 (by decide) ?_
                refine y_iadd 240 rfl dX11_goesAlong_239 (by omega) ?_
                refine x_puti 243 rfl fX11_249 dX11_goesAlong_240 (lyl55 hL) (lys55 hL) (by decide) ?_
                try simp only [ev_22, ev_24, ev_o, ev_ne, ev_u22, ev_u24, ev_u37, ev_u38, ev_u39, ev_u40, ev_u73]
                refine x_retu dX11_goesAlong_243 rfl ?_
                first
                  | (exfalso; omega)
                  | exact gaQ_fin hG h37 h39 h73 hS0 h8 (by omega) (fun h9 => by omega)
              · refine x_iconst 226 rfl dX11_goesAlong_225 (by decide) ?_
                refine x_goto 230 dX11_goesAlong_226 (by decide) ?_
                refine x_putz 233 rfl fX11_437 dX11_goesAlong_230 (lyl55 hL) (lys55 hL) (by decide) (by omega) ?_
                try simp only [ev_22, ev_24, ev_o, ev_ne, ev_u22, ev_u24, ev_u37, ev_u38, ev_u39, ev_u40, ev_u73]
                refine x_aload_n 234 rfl dX11_goesAlong_233 0 rfl rfl ?_
                refine x_dupr 235 rfl dX11_goesAlong_234 ?_
                refine x_geti 238 rfl fX11_249 dX11_goesAlong_235 (lyl55 hL) (lys55 hL) (by decide) ?_
                try simp (disch := omega) only [z_up_ne, z_up_nk, z_up_eq, z_mup_ne, z_mup_eq, Int.reduceToNat, Int.toNat_natCast, ev_22, ev_24, ev_o, ev_ne, ev_u22, ev_u24, ev_u37, ev_u38, ev_u39, ev_u40, ev_u73]
                refine x_iconst 239 rfl dX11_goesAlong_238 (by decide) ?_
                refine y_iadd 240 rfl dX11_goesAlong_239 (by omega) ?_
                refine x_puti 243 rfl fX11_249 dX11_goesAlong_240 (lyl55 hL) (lys55 hL) (by decide) ?_
                try simp only [ev_22, ev_24, ev_o, ev_ne, ev_u22, ev_u24, ev_u37, ev_u38, ev_u39, ev_u40, ev_u73]
                refine x_retu dX11_goesAlong_243 rfl ?_
                first
                  | (exfalso; omega)
                  | exact gaQ_fin hG h37 h39 h73 hS0 h8 (by omega) (fun h9 => by omega)
    · rw [hM1]
      obtain ⟨h7, h8⟩ : s' = s4 ∧ x = ((kap (c s.1), p1, p2, -1, tm), w, w2, v_k 1) := by
        rcases g_tail_inv h5 with ⟨a, -⟩ | ⟨-, a⟩
        · exact absurd a hx
        · exact a
      rw [← h7]
      have hS0 := hS; clear hx h5
      refine x_if_eq 194 202 rfl dX11_goesAlong_191 (by decide) (fun c191 => ?_) (fun c191 => ?_)
      · refine x_iconst 203 rfl dX11_goesAlong_202 (by decide) ?_
        refine x_goto 207 dX11_goesAlong_203 (by decide) ?_
        refine x_putz 210 rfl fX11_437 dX11_goesAlong_207 (lyl55 hL) (lys55 hL) (by decide) (by omega) ?_
        try simp only [ev_22, ev_24, ev_o, ev_ne, ev_u22, ev_u24, ev_u37, ev_u38, ev_u39, ev_u40, ev_u73]
        refine x_aload_n 211 rfl dX11_goesAlong_210 0 rfl rfl ?_
        refine x_aload_n 212 rfl dX11_goesAlong_211 0 rfl rfl ?_
        refine x_getz 215 rfl fX11_437 dX11_goesAlong_212 (lyl55 hL) (lys55 hL) (by decide) ?_
        try simp (disch := omega) only [z_up_ne, z_up_nk, z_up_eq, z_mup_ne, z_mup_eq, Int.reduceToNat, Int.toNat_natCast, ev_22, ev_24, ev_o, ev_ne, ev_u22, ev_u24, ev_u37, ev_u38, ev_u39, ev_u40, ev_u73]
        refine x_if_eq 218 229 rfl dX11_goesAlong_215 (by decide) (fun c215 => ?_) (fun c215 => ?_)
        · refine x_iconst 230 rfl dX11_goesAlong_229 (by decide) ?_
          refine x_putz 233 rfl fX11_437 dX11_goesAlong_230 (lyl55 hL) (lys55 hL) (by decide) (by omega) ?_
          try simp only [ev_22, ev_24, ev_o, ev_ne, ev_u22, ev_u24, ev_u37, ev_u38, ev_u39, ev_u40, ev_u73]
          refine x_aload_n 234 rfl dX11_goesAlong_233 0 rfl rfl ?_
          refine x_dupr 235 rfl dX11_goesAlong_234 ?_
          refine x_geti 238 rfl fX11_249 dX11_goesAlong_235 (lyl55 hL) (lys55 hL) (by decide) ?_
          try simp (disch := omega) only [z_up_ne, z_up_nk, z_up_eq, z_mup_ne, z_mup_eq, Int.reduceToNat, Int.toNat_natCast, ev_22, ev_24, ev_o, ev_ne, ev_u22, ev_u24, ev_u37, ev_u38, ev_u39, ev_u40, ev_u73]
          refine x_iconst 239 rfl dX11_goesAlong_238 (by decide) ?_
          refine y_iadd 240 rfl dX11_goesAlong_239 (by omega) ?_
          refine x_puti 243 rfl fX11_249 dX11_goesAlong_240 (lyl55 hL) (lys55 hL) (by decide) ?_
          try simp only [ev_22, ev_24, ev_o, ev_ne, ev_u22, ev_u24, ev_u37, ev_u38, ev_u39, ev_u40, ev_u73]
          refine x_retu dX11_goesAlong_243 rfl ?_
          first
            | (exfalso; omega)
            | exact gaQ_fin hG h37 h39 h73 hS0 h8 (by omega) (fun h9 => ⟨fun _ => rfl, fun _ => rfl⟩)
        · refine x_aload_n 219 rfl dX11_goesAlong_218 0 rfl rfl ?_
          refine x_getz 222 rfl fX11_259 dX11_goesAlong_219 (lyl55 hL) (lys55 hL) (by decide) ?_
          try simp (disch := omega) only [z_up_ne, z_up_nk, z_up_eq, z_mup_ne, z_mup_eq, Int.reduceToNat, Int.toNat_natCast, ev_22, ev_24, ev_o, ev_ne, ev_u22, ev_u24, ev_u37, ev_u38, ev_u39, ev_u40, ev_u73]
          refine x_if_ne 225 229 rfl dX11_goesAlong_222 (by decide) (fun c222 => ?_) (fun c222 => ?_)
          · refine x_iconst 230 rfl dX11_goesAlong_229 (by decide) ?_
            refine x_putz 233 rfl fX11_437 dX11_goesAlong_230 (lyl55 hL) (lys55 hL) (by decide) (by omega) ?_
            try simp only [ev_22, ev_24, ev_o, ev_ne, ev_u22, ev_u24, ev_u37, ev_u38, ev_u39, ev_u40, ev_u73]
            refine x_aload_n 234 rfl dX11_goesAlong_233 0 rfl rfl ?_
            refine x_dupr 235 rfl dX11_goesAlong_234 ?_
            refine x_geti 238 rfl fX11_249 dX11_goesAlong_235 (lyl55 hL) (lys55 hL) (by decide) ?_
            try simp (disch := omega) only [z_up_ne, z_up_nk, z_up_eq, z_mup_ne, z_mup_eq, Int.reduceToNat, Int.toNat_natCast, ev_22, ev_24, ev_o, ev_ne, ev_u22, ev_u24, ev_u37, ev_u38, ev_u39, ev_u40, ev_u73]
            refine x_iconst 239 rfl dX11_goesAlong_238 (by decide) ?_
            refine y_iadd 240 rfl dX11_goesAlong_239 (by omega) ?_
            refine x_puti 243 rfl fX11_249 dX11_goesAlong_240 (lyl55 hL) (lys55 hL) (by decide) ?_
            try simp only [ev_22, ev_24, ev_o, ev_ne, ev_u22, ev_u24, ev_u37, ev_u38, ev_u39, ev_u40, ev_u73]
            refine x_retu dX11_goesAlong_243 rfl ?_
            first
              | (exfalso; omega)
              | exact gaQ_fin hG h37 h39 h73 hS0 h8 (by omega) (fun h9 => ⟨fun _ => rfl, fun _ => rfl⟩)
          · refine x_iconst 226 rfl dX11_goesAlong_225 (by decide) ?_
            refine x_goto 230 dX11_goesAlong_226 (by decide) ?_
            refine x_putz 233 rfl fX11_437 dX11_goesAlong_230 (lyl55 hL) (lys55 hL) (by decide) (by omega) ?_
            try simp only [ev_22, ev_24, ev_o, ev_ne, ev_u22, ev_u24, ev_u37, ev_u38, ev_u39, ev_u40, ev_u73]
            refine x_aload_n 234 rfl dX11_goesAlong_233 0 rfl rfl ?_
            refine x_dupr 235 rfl dX11_goesAlong_234 ?_
            refine x_geti 238 rfl fX11_249 dX11_goesAlong_235 (lyl55 hL) (lys55 hL) (by decide) ?_
            try simp (disch := omega) only [z_up_ne, z_up_nk, z_up_eq, z_mup_ne, z_mup_eq, Int.reduceToNat, Int.toNat_natCast, ev_22, ev_24, ev_o, ev_ne, ev_u22, ev_u24, ev_u37, ev_u38, ev_u39, ev_u40, ev_u73]
            refine x_iconst 239 rfl dX11_goesAlong_238 (by decide) ?_
            refine y_iadd 240 rfl dX11_goesAlong_239 (by omega) ?_
            refine x_puti 243 rfl fX11_249 dX11_goesAlong_240 (lyl55 hL) (lys55 hL) (by decide) ?_
            try simp only [ev_22, ev_24, ev_o, ev_ne, ev_u22, ev_u24, ev_u37, ev_u38, ev_u39, ev_u40, ev_u73]
            refine x_retu dX11_goesAlong_243 rfl ?_
            first
              | (exfalso; omega)
              | exact gaQ_fin hG h37 h39 h73 hS0 h8 (by omega) (fun h9 => ⟨fun _ => rfl, fun _ => rfl⟩)
      · exfalso; omega
  have fin : ∀ (N : zMem) (s3 : gS) (b0 p1 p2 sa nn kk : Int) (f : Nat → Int) (w w2 : gV), gA n s3 → gaI M B n c v (c s.1) N → N 55 39 = sa → N 73 = f → gaS (c s.1) live (mE M true) w w2 sa f → g_rest c v s3 (fun tm q wt => ((kap (c s.1), p1, p2, q, tm), w, w2, wt)) = .inr (s', x) → nn ≤ kk → zW mX11_goesAlong (d + 42) 0 0 [] (zU sz S (fun M' => gaQ M B (c s.1) live x s'.1 M')) 72 [some (zn 55), some (zi ((B + n : Nat) : Int)), some (zi live), some (zi nn), some (zi kk)] [] sz S (ev N ((B + s3.1 : Nat) : Int) b0) := by
    intro N s3 b0 p1 p2 sa nn kk f w w2 hA3 hG h39 h73 hS h5 hnk
    have hA31 := hA3.1
    have hM1 := (gaI_up hG (x := 1) (j := 37) (by omega)).2.1
    have hNB := hM1.2.1
    refine x_iload 74 rfl dX11_goesAlong_72 rfl ?_
    refine x_iload_n 75 rfl dX11_goesAlong_74 3 rfl rfl ?_
    refine x_icmp_ge 78 139 rfl dX11_goesAlong_75 (by decide) (fun c75 => ?_) (fun c75 => ?_)
    · refine x_aload_n 140 rfl dX11_goesAlong_139 0 rfl rfl ?_
      refine x_iconst 141 rfl dX11_goesAlong_140 (by decide) ?_
      refine x_puti 144 rfl fX11_434 dX11_goesAlong_141 (lyl55 hL) (lys55 hL) (by decide) ?_
      try simp only [ev_22, ev_24, ev_o, ev_ne, ev_u22, ev_u24, ev_u37, ev_u38, ev_u39, ev_u40, ev_u73]
      refine x_aload_n 145 rfl dX11_goesAlong_144 0 rfl rfl ?_
      refine x_bipush 147 rfl dX11_goesAlong_145 (by decide) ?_
      refine x_cVi 150 rfl lX11_273 dX11_goesAlong_147 (lyl55 hL) (lys55 hL) (c_X11_passes0 hL hM1 hT hA31) rfl rfl (Nat.le_of_ble_eq_true rfl) (fun r M1 hr1 => ?_)
      rcases hr1 with ⟨hx, rfl, hM2⟩ | ⟨hx, rfl, hM2⟩
      · rw [hM2]
        obtain ⟨h50, h20, h6⟩ : c (s3.1 + 1) = 50 ∧ (1 ≤ v (s3.1 + 1) ∧ v (s3.1 + 1) ≤ 20) ∧ g_tail c v true (g_ad (g_ad s3)) (fun q wt => ((kap (c s.1), p1, p2, q, v (s3.1 + 1)), w, w2, wt)) = .inr (s', x) := by
          rcases g_rest_inv h5 with ⟨-, a⟩ | ⟨a, -⟩
          · exact a
          · exact absurd hx a
        have l1 := hT.lt hA31 (show c s3.1 ≠ 0 by omega)
        have l2 := hT.lt (t := s3.1 + 1) l1 (show c (s3.1 + 1) ≠ 0 by omega)
        have hA4 := gW_A hA3 (gW_ad hA3 l1)
        have hA5 := gW_A hA4 (gW_ad hA4 l2)
        have hv1 : N 57 (2887 + ((B + (s3.1 + 1) : Nat) : Int)).toNat = v (s3.1 + 1) := by
          rw [show (2887 + ((B + (s3.1 + 1) : Nat) : Int)).toNat = 2887 + (B + (s3.1 + 1)) by omega]
          exact hG.2.1.2.2.2 _ l2
        refine x_if_eq 153 180 rfl dX11_goesAlong_150 (by decide) (fun c150 => ?_) (fun c150 => ?_)
        · exfalso; omega
        · refine x_aload_n 154 rfl dX11_goesAlong_153 0 rfl rfl ?_
          refine x_aload_n 155 rfl dX11_goesAlong_154 0 rfl rfl ?_
          refine x_getr 158 rfl fX11_24 dX11_goesAlong_155 (lyl55 hL) (lys55 hL) (by decide) (57) rfl ?_
          refine x_sipush 161 rfl dX11_goesAlong_158 (by decide) ?_
          refine x_aload_n 162 rfl dX11_goesAlong_161 0 rfl rfl ?_
          refine x_geti 165 rfl fX11_249 dX11_goesAlong_162 (lyl55 hL) (lys55 hL) (by decide) ?_
          try simp (disch := omega) only [z_up_ne, z_up_nk, z_up_eq, z_mup_ne, z_mup_eq, Int.reduceToNat, Int.toNat_natCast, ev_22, ev_24, ev_o, ev_ne, ev_u22, ev_u24, ev_u37, ev_u38, ev_u39, ev_u40, ev_u73]
          refine y_iadd 166 rfl dX11_goesAlong_165 (by omega) ?_
          refine x_iald 167 rfl dX11_goesAlong_166 (lyl57 hL) (lys57 hL) (by omega) (by omega) ?_
          try simp (disch := omega) only [z_up_ne, z_up_nk, z_up_eq, z_mup_ne, z_mup_eq, Int.reduceToNat, Int.toNat_natCast, ev_22, ev_24, ev_o, ev_ne, ev_u22, ev_u24, ev_u37, ev_u38, ev_u39, ev_u40, ev_u73]
          rw [hv1]
          refine x_puti 170 rfl fX11_434 dX11_goesAlong_167 (lyl55 hL) (lys55 hL) (by decide) ?_
          try simp only [ev_22, ev_24, ev_o, ev_ne, ev_u22, ev_u24, ev_u37, ev_u38, ev_u39, ev_u40, ev_u73]
          refine x_aload_n 171 rfl dX11_goesAlong_170 0 rfl rfl ?_
          refine x_dupr 172 rfl dX11_goesAlong_171 ?_
          refine x_geti 175 rfl fX11_249 dX11_goesAlong_172 (lyl55 hL) (lys55 hL) (by decide) ?_
          try simp (disch := omega) only [z_up_ne, z_up_nk, z_up_eq, z_mup_ne, z_mup_eq, Int.reduceToNat, Int.toNat_natCast, ev_22, ev_24, ev_o, ev_ne, ev_u22, ev_u24, ev_u37, ev_u38, ev_u39, ev_u40, ev_u73]
          refine x_iconst 176 rfl dX11_goesAlong_175 (by decide) ?_
          refine y_iadd 177 rfl dX11_goesAlong_176 (by omega) ?_
          refine x_puti 180 rfl fX11_249 dX11_goesAlong_177 (lyl55 hL) (lys55 hL) (by decide) ?_
          try simp only [ev_22, ev_24, ev_o, ev_ne, ev_u22, ev_u24, ev_u37, ev_u38, ev_u39, ev_u40, ev_u73]
          rw [ev_ad]
          refine z_mem (M' := ev _ ((B + (g_ad (g_ad s3)).1 : Nat) : Int) b0) rfl ?_
          exact tst _ (g_ad (g_ad s3)) b0 (v (s3.1 + 1)) p1 p2 sa nn kk f w w2 hA5 (gaI_up (gaI_up hG (by omega)) (by omega)) z_up_eq (by rw [z_up_nk (by decide), z_up_nk (by decide)]; exact h39) (by rw [z_up_ne (by decide), z_up_ne (by decide)]; exact h73) hS h6
      · rw [hM2]
        have h6 : g_tail c v true s3 (fun q wt => ((kap (c s.1), p1, p2, q, 1), w, w2, wt)) = .inr (s', x) := by
          rcases g_rest_inv h5 with ⟨a, -⟩ | ⟨-, a⟩
          · exact absurd a hx
          · exact a
        refine x_if_eq 153 180 rfl dX11_goesAlong_150 (by decide) (fun c150 => ?_) (fun c150 => ?_)
        · exact tst _ s3 b0 1 p1 p2 sa nn kk f w w2 hA3 (gaI_up hG (by omega)) z_up_eq (by rw [z_up_nk (by decide)]; exact h39) (by rw [z_up_ne (by decide)]; exact h73) hS h6
        · exfalso; omega
    · exfalso; omega
  have itr : ∀ (N : zMem) (s1 s2 : gS) (w : gV) (kk nn sa b0 : Int), (kk = 0 ∨ kk = 1) → gA n s1 → gaI M B n c v (c s.1) N → N 55 39 = sa → (sa = 0 ∨ sa = 1) → g_sumD c v true 8 s1 = .inr (s2, w) → (∀ (r b sa1 : Int), (sa1 = 0 ∨ sa1 = 1) → (live = 1 → (w (mE M true) = some r ∧ sa1 = sa) ∨ (w (mE M true) = none ∧ sa1 = 0)) → zW mX11_goesAlong (d + 42) 0 0 [] (zU sz S (fun M' => gaQ M B (c s.1) live x s'.1 M')) 72 [some (zn 55), some (zi ((B + n : Nat) : Int)), some (zi live), some (zi nn), some (zi (kk + 1))] [] sz S (ev (z_up (z_up N 73 kk.toNat r) 55 39 sa1) ((B + s2.1 : Nat) : Int) b)) → zW mX11_goesAlong (d + 42) 0 0 [] (zU sz S (fun M' => gaQ M B (c s.1) live x s'.1 M')) 93 [some (zn 55), some (zi ((B + n : Nat) : Int)), some (zi live), some (zi nn), some (zi kk)] [] sz S (ev N ((B + s1.1 : Nat) : Int) b0) := by
    intro N s1 s2 w kk nn sa b0 hkk hAs hG h39 hsa hq1 K
    have hM := hG.2.1
    have hO1 : N 55 25 = (if true = true then 1 else 0) := by rw [hG.2.2.1]; rfl
    have hme := goF_mE hG.1
    have hi1 : KI (N 57) := by rw [hG.1.1 57 (by decide) (by decide)]; exact hi
    have hE1 : mEb N true := by intro a b; rw [hme]; exact hE a b
    refine x_aload_n 94 rfl dX11_goesAlong_93 0 rfl rfl ?_
    refine x_iconst 95 rfl dX11_goesAlong_94 (by decide) ?_
    refine x_putz 98 rfl fX11_259 dX11_goesAlong_95 (lyl55 hL) (lys55 hL) (by decide) (by omega) ?_
    try simp only [ev_22, ev_24, ev_o, ev_ne, ev_u22, ev_u24, ev_u37, ev_u38, ev_u39, ev_u40, ev_u73]
    refine x_aload_n 99 rfl dX11_goesAlong_98 0 rfl rfl ?_
    refine x_getr 102 rfl fX11_81 dX11_goesAlong_99 (lyl55 hL) (lys55 hL) (by decide) (73) rfl ?_
    refine x_iload 104 rfl dX11_goesAlong_102 rfl ?_
    refine x_aload_n 105 rfl dX11_goesAlong_104 0 rfl rfl ?_
    refine x_iload_n 106 rfl dX11_goesAlong_105 2 rfl rfl ?_
    refine x_cVj 109 rfl lX11_276 dX11_goesAlong_106 (lyl55 hL) (lys55 hL) (c_X11_sumOf8 hL hM hT hO1 hi1 hE1 hlv (Or.inl rfl) hAs hq1) rfl rfl (Nat.le_of_ble_eq_true rfl) (fun r M2 hr2 => ?_)
    rw [hme] at hr2
    rcases hr2 with ⟨e1, e2, x2, e3, rfl, e5, hM2⟩ | ⟨e1, e2, e3, rfl, hM2⟩ | ⟨e1, rfl, hM2⟩
    · rw [hM2]
      refine x_last 110 rfl dX11_goesAlong_109 (lyl73 hL) (lys73 hL) (by omega) (by omega) ?_
      try simp only [ev_22, ev_24, ev_o, ev_ne, ev_u22, ev_u24, ev_u37, ev_u38, ev_u39, ev_u40, ev_u73]
      refine x_aload_n 111 rfl dX11_goesAlong_110 0 rfl rfl ?_
      refine x_aload_n 112 rfl dX11_goesAlong_111 0 rfl rfl ?_
      refine x_getz 115 rfl fX11_431 dX11_goesAlong_112 (lyl55 hL) (lys55 hL) (by decide) ?_
      try simp (disch := omega) only [z_up_ne, z_up_nk, z_up_eq, z_mup_ne, z_mup_eq, Int.reduceToNat, Int.toNat_natCast, ev_22, ev_24, ev_o, ev_ne, ev_u22, ev_u24, ev_u37, ev_u38, ev_u39, ev_u40, ev_u73]
      rw [h39]
      refine x_if_eq 118 129 rfl dX11_goesAlong_115 (by decide) (fun c115 => ?_) (fun c115 => ?_)
      · refine x_iconst 130 rfl dX11_goesAlong_129 (by decide) ?_
        refine x_putz 133 rfl fX11_431 dX11_goesAlong_130 (lyl55 hL) (lys55 hL) (by decide) (by omega) ?_
        try simp only [ev_22, ev_24, ev_o, ev_ne, ev_u22, ev_u24, ev_u37, ev_u38, ev_u39, ev_u40, ev_u73]
        refine w_iinc 136 rfl dX11_goesAlong_133 rfl (by decide) (by omega) rfl (ls' := [_, _, _, _, _]) rfl (by decide) ?_
        refine x_goto 72 dX11_goesAlong_136 (by decide) ?_
        first
          | (exfalso; omega)
          | exact K _ _ _ (by omega) (fun h9 => Or.inl ⟨e3, by omega⟩)
      · refine x_aload_n 119 rfl dX11_goesAlong_118 0 rfl rfl ?_
        refine x_getz 122 rfl fX11_259 dX11_goesAlong_119 (lyl55 hL) (lys55 hL) (by decide) ?_
        try simp (disch := omega) only [z_up_ne, z_up_nk, z_up_eq, z_mup_ne, z_mup_eq, Int.reduceToNat, Int.toNat_natCast, ev_22, ev_24, ev_o, ev_ne, ev_u22, ev_u24, ev_u37, ev_u38, ev_u39, ev_u40, ev_u73]
        refine x_if_ne 125 129 rfl dX11_goesAlong_122 (by decide) (fun c122 => ?_) (fun c122 => ?_)
        · refine x_iconst 130 rfl dX11_goesAlong_129 (by decide) ?_
          refine x_putz 133 rfl fX11_431 dX11_goesAlong_130 (lyl55 hL) (lys55 hL) (by decide) (by omega) ?_
          try simp only [ev_22, ev_24, ev_o, ev_ne, ev_u22, ev_u24, ev_u37, ev_u38, ev_u39, ev_u40, ev_u73]
          refine w_iinc 136 rfl dX11_goesAlong_133 rfl (by decide) (by omega) rfl (ls' := [_, _, _, _, _]) rfl (by decide) ?_
          refine x_goto 72 dX11_goesAlong_136 (by decide) ?_
          first
            | (exfalso; omega)
            | exact K _ _ _ (by omega) (fun h9 => Or.inl ⟨e3, by omega⟩)
        · refine x_iconst 126 rfl dX11_goesAlong_125 (by decide) ?_
          refine x_goto 130 dX11_goesAlong_126 (by decide) ?_
          refine x_putz 133 rfl fX11_431 dX11_goesAlong_130 (lyl55 hL) (lys55 hL) (by decide) (by omega) ?_
          try simp only [ev_22, ev_24, ev_o, ev_ne, ev_u22, ev_u24, ev_u37, ev_u38, ev_u39, ev_u40, ev_u73]
          refine w_iinc 136 rfl dX11_goesAlong_133 rfl (by decide) (by omega) rfl (ls' := [_, _, _, _, _]) rfl (by decide) ?_
          refine x_goto 72 dX11_goesAlong_136 (by decide) ?_
          first
            | (exfalso; omega)
            | exact K _ _ _ (by omega) (fun h9 => Or.inl ⟨e3, by omega⟩)
    · rw [hM2]
      refine x_last 110 rfl dX11_goesAlong_109 (lyl73 hL) (lys73 hL) (by omega) (by omega) ?_
      try simp only [ev_22, ev_24, ev_o, ev_ne, ev_u22, ev_u24, ev_u37, ev_u38, ev_u39, ev_u40, ev_u73]
      refine x_aload_n 111 rfl dX11_goesAlong_110 0 rfl rfl ?_
      refine x_aload_n 112 rfl dX11_goesAlong_111 0 rfl rfl ?_
      refine x_getz 115 rfl fX11_431 dX11_goesAlong_112 (lyl55 hL) (lys55 hL) (by decide) ?_
      try simp (disch := omega) only [z_up_ne, z_up_nk, z_up_eq, z_mup_ne, z_mup_eq, Int.reduceToNat, Int.toNat_natCast, ev_22, ev_24, ev_o, ev_ne, ev_u22, ev_u24, ev_u37, ev_u38, ev_u39, ev_u40, ev_u73]
      rw [h39]
      refine x_if_eq 118 129 rfl dX11_goesAlong_115 (by decide) (fun c115 => ?_) (fun c115 => ?_)
      · refine x_iconst 130 rfl dX11_goesAlong_129 (by decide) ?_
        refine x_putz 133 rfl fX11_431 dX11_goesAlong_130 (lyl55 hL) (lys55 hL) (by decide) (by omega) ?_
        try simp only [ev_22, ev_24, ev_o, ev_ne, ev_u22, ev_u24, ev_u37, ev_u38, ev_u39, ev_u40, ev_u73]
        refine w_iinc 136 rfl dX11_goesAlong_133 rfl (by decide) (by omega) rfl (ls' := [_, _, _, _, _]) rfl (by decide) ?_
        refine x_goto 72 dX11_goesAlong_136 (by decide) ?_
        first
          | (exfalso; omega)
          | exact K _ _ _ (by omega) (fun h9 => Or.inr ⟨e3, by omega⟩)
      · refine x_aload_n 119 rfl dX11_goesAlong_118 0 rfl rfl ?_
        refine x_getz 122 rfl fX11_259 dX11_goesAlong_119 (lyl55 hL) (lys55 hL) (by decide) ?_
        try simp (disch := omega) only [z_up_ne, z_up_nk, z_up_eq, z_mup_ne, z_mup_eq, Int.reduceToNat, Int.toNat_natCast, ev_22, ev_24, ev_o, ev_ne, ev_u22, ev_u24, ev_u37, ev_u38, ev_u39, ev_u40, ev_u73]
        refine x_if_ne 125 129 rfl dX11_goesAlong_122 (by decide) (fun c122 => ?_) (fun c122 => ?_)
        · refine x_iconst 130 rfl dX11_goesAlong_129 (by decide) ?_
          refine x_putz 133 rfl fX11_431 dX11_goesAlong_130 (lyl55 hL) (lys55 hL) (by decide) (by omega) ?_
          try simp only [ev_22, ev_24, ev_o, ev_ne, ev_u22, ev_u24, ev_u37, ev_u38, ev_u39, ev_u40, ev_u73]
          refine w_iinc 136 rfl dX11_goesAlong_133 rfl (by decide) (by omega) rfl (ls' := [_, _, _, _, _]) rfl (by decide) ?_
          refine x_goto 72 dX11_goesAlong_136 (by decide) ?_
          first
            | (exfalso; omega)
            | exact K _ _ _ (by omega) (fun h9 => Or.inr ⟨e3, by omega⟩)
        · refine x_iconst 126 rfl dX11_goesAlong_125 (by decide) ?_
          refine x_goto 130 dX11_goesAlong_126 (by decide) ?_
          refine x_putz 133 rfl fX11_431 dX11_goesAlong_130 (lyl55 hL) (lys55 hL) (by decide) (by omega) ?_
          try simp only [ev_22, ev_24, ev_o, ev_ne, ev_u22, ev_u24, ev_u37, ev_u38, ev_u39, ev_u40, ev_u73]
          refine w_iinc 136 rfl dX11_goesAlong_133 rfl (by decide) (by omega) rfl (ls' := [_, _, _, _, _]) rfl (by decide) ?_
          refine x_goto 72 dX11_goesAlong_136 (by decide) ?_
          first
            | (exfalso; omega)
            | exact K _ _ _ (by omega) (fun h9 => Or.inr ⟨e3, by omega⟩)
    · rw [hM2]
      refine x_last 110 rfl dX11_goesAlong_109 (lyl73 hL) (lys73 hL) (by omega) (by omega) ?_
      try simp only [ev_22, ev_24, ev_o, ev_ne, ev_u22, ev_u24, ev_u37, ev_u38, ev_u39, ev_u40, ev_u73]
      refine x_aload_n 111 rfl dX11_goesAlong_110 0 rfl rfl ?_
      refine x_aload_n 112 rfl dX11_goesAlong_111 0 rfl rfl ?_
      refine x_getz 115 rfl fX11_431 dX11_goesAlong_112 (lyl55 hL) (lys55 hL) (by decide) ?_
      try simp (disch := omega) only [z_up_ne, z_up_nk, z_up_eq, z_mup_ne, z_mup_eq, Int.reduceToNat, Int.toNat_natCast, ev_22, ev_24, ev_o, ev_ne, ev_u22, ev_u24, ev_u37, ev_u38, ev_u39, ev_u40, ev_u73]
      rw [h39]
      refine x_if_eq 118 129 rfl dX11_goesAlong_115 (by decide) (fun c115 => ?_) (fun c115 => ?_)
      · refine x_iconst 130 rfl dX11_goesAlong_129 (by decide) ?_
        refine x_putz 133 rfl fX11_431 dX11_goesAlong_130 (lyl55 hL) (lys55 hL) (by decide) (by omega) ?_
        try simp only [ev_22, ev_24, ev_o, ev_ne, ev_u22, ev_u24, ev_u37, ev_u38, ev_u39, ev_u40, ev_u73]
        refine w_iinc 136 rfl dX11_goesAlong_133 rfl (by decide) (by omega) rfl (ls' := [_, _, _, _, _]) rfl (by decide) ?_
        refine x_goto 72 dX11_goesAlong_136 (by decide) ?_
        first
          | (exfalso; omega)
          | exact K _ _ _ (by omega) (fun h9 => by omega)
      · refine x_aload_n 119 rfl dX11_goesAlong_118 0 rfl rfl ?_
        refine x_getz 122 rfl fX11_259 dX11_goesAlong_119 (lyl55 hL) (lys55 hL) (by decide) ?_
        try simp (disch := omega) only [z_up_ne, z_up_nk, z_up_eq, z_mup_ne, z_mup_eq, Int.reduceToNat, Int.toNat_natCast, ev_22, ev_24, ev_o, ev_ne, ev_u22, ev_u24, ev_u37, ev_u38, ev_u39, ev_u40, ev_u73]
        refine x_if_ne 125 129 rfl dX11_goesAlong_122 (by decide) (fun c122 => ?_) (fun c122 => ?_)
        · refine x_iconst 130 rfl dX11_goesAlong_129 (by decide) ?_
          refine x_putz 133 rfl fX11_431 dX11_goesAlong_130 (lyl55 hL) (lys55 hL) (by decide) (by omega) ?_
          try simp only [ev_22, ev_24, ev_o, ev_ne, ev_u22, ev_u24, ev_u37, ev_u38, ev_u39, ev_u40, ev_u73]
          refine w_iinc 136 rfl dX11_goesAlong_133 rfl (by decide) (by omega) rfl (ls' := [_, _, _, _, _]) rfl (by decide) ?_
          refine x_goto 72 dX11_goesAlong_136 (by decide) ?_
          first
            | (exfalso; omega)
            | exact K _ _ _ (by omega) (fun h9 => by omega)
        · refine x_iconst 126 rfl dX11_goesAlong_125 (by decide) ?_
          refine x_goto 130 dX11_goesAlong_126 (by decide) ?_
          refine x_putz 133 rfl fX11_431 dX11_goesAlong_130 (lyl55 hL) (lys55 hL) (by decide) (by omega) ?_
          try simp only [ev_22, ev_24, ev_o, ev_ne, ev_u22, ev_u24, ev_u37, ev_u38, ev_u39, ev_u40, ev_u73]
          refine w_iinc 136 rfl dX11_goesAlong_133 rfl (by decide) (by omega) rfl (ls' := [_, _, _, _, _]) rfl (by decide) ?_
          refine x_goto 72 dX11_goesAlong_136 (by decide) ?_
          first
            | (exfalso; omega)
            | exact K _ _ _ (by omega) (fun h9 => by omega)
  have one : ∀ (N : zMem) (b0 : Int), (c s.1 = 23 ∨ c s.1 = 26) → gaI M B n c v (c s.1) N → N 55 39 = 1 → zW mX11_goesAlong (d + 42) 0 0 [] (zU sz S (fun M' => gaQ M B (c s.1) live x s'.1 M')) 93 [some (zn 55), some (zi ((B + n : Nat) : Int)), some (zi live), some (zi 1), some (zi 0)] [] sz S (ev N ((B + (g_ad s).1 : Nat) : Int) b0) := by
    intro N b0 hc hG h39
    rcases (g_ord_inv hq).symm with ⟨-, s1, w, h6, h5⟩ | ⟨h4, -⟩
    · have hAs := gW_A hA (gW_ad hA (hT.lt hA1 (show c s.1 ≠ 0 by omega)))
      have hA5 := gW_A hA (gW_step hT (gG_sumD hT 8) hA (show c s.1 ≠ 0 by omega) h6 (x := 0) (by decide))
      refine itr N (g_ad s) s1 w 0 1 1 b0 (Or.inl rfl) hAs hG h39 (Or.inr rfl) h6 (fun r b sa1 hs1 hK => ?_)
      refine fin _ (g_em s1 0) b _ _ sa1 1 _ (ku (N 73) 0 r) w (v_k 0) hA5 (gaI_up (gaI_73 hG) (by omega)) z_up_eq (by funext j; simp [z_up, ku]) ⟨hs1, fun h9 => ?_⟩ h5 (by omega)
      rcases hK h9 with ⟨a, b⟩ | ⟨a, b⟩
      · exact Or.inl ⟨b, by rw [a, ku_eq], 0, rfl, fun h => by omega⟩
      · exact Or.inr ⟨b, Or.inl a⟩
    · exfalso; omega
  have two : ∀ (N : zMem) (b0 : Int), (c s.1 = 21 ∨ c s.1 = 24) → gaI M B n c v (c s.1) N → N 55 39 = 1 → zW mX11_goesAlong (d + 42) 0 0 [] (zU sz S (fun M' => gaQ M B (c s.1) live x s'.1 M')) 93 [some (zn 55), some (zi ((B + n : Nat) : Int)), some (zi live), some (zi 2), some (zi 0)] [] sz S (ev N ((B + (g_ad s).1 : Nat) : Int) b0) := by
    intro N b0 hc hG h39
    rcases g_ord_inv hq with ⟨-, s1, w, s2, w2, h6, h7, h8, h5⟩ | ⟨h4, -⟩
    · have hAs := gW_A hA (gW_ad hA (hT.lt hA1 (show c s.1 ≠ 0 by omega)))
      have hA5 := gW_A hA (gW_step hT (gG_sumD hT 8) hA (show c s.1 ≠ 0 by omega) h6 (x := 0) (by decide))
      have h70 : c (g_em s1 0).1 ≠ 0 := by show c s1.1 ≠ 0; rw [h7]; split <;> decide
      have hA6 := gW_A hA5 (gW_ad hA5 (hT.lt hA5.1 h70))
      have hA7 := gW_A hA5 (gW_step hT (gG_sumD hT 8) hA5 h70 h8 (x := 0) (by decide))
      have hA51 : s1.1 ≤ n := hA5.1
      refine itr N (g_ad s) s1 w 0 2 1 b0 (Or.inl rfl) hAs hG h39 (Or.inr rfl) h6 (fun r b sa1 hs1 hK => ?_)
      have hG2 : gaI M B n c v (c s.1) (z_up (z_up N 73 (Int.toNat 0) r) 55 39 sa1) := gaI_up (gaI_73 hG) (by omega)
      have nx : zW mX11_goesAlong (d + 42) 0 0 [] (zU sz S (fun M' => gaQ M B (c s.1) live x s'.1 M')) 93 [some (zn 55), some (zi ((B + n : Nat) : Int)), some (zi live), some (zi 2), some (zi (0 + 1))] [] sz S (ev (z_up (z_up N 73 (Int.toNat 0) r) 55 39 sa1) ((B + (g_ad (g_em s1 0)).1 : Nat) : Int) b) := by
        refine itr _ (g_ad (g_em s1 0)) s2 w2 (0 + 1) 2 sa1 b (Or.inr rfl) hA6 hG2 z_up_eq hs1 h8 (fun r2 b2 sa2 hs2 hK2 => ?_)
        refine fin _ (g_em s2 0) b2 _ _ sa2 2 _ (ku (ku (N 73) 0 r) 1 r2) w w2 hA7 (gaI_up (gaI_73 hG2) (by omega)) z_up_eq ?_ ⟨hs2, fun h9 => ?_⟩ h5 (by omega)
        · funext j; simp [z_up, ku]
        · rcases hK h9 with ⟨a, b⟩ | ⟨a, b⟩
          · rcases hK2 h9 with ⟨a2, b2⟩ | ⟨a2, b2⟩
            · exact Or.inl ⟨by omega, by rw [a]; rfl, r2, a2, fun _ => rfl⟩
            · exact Or.inr ⟨b2, Or.inr a2⟩
          · rcases hK2 h9 with ⟨a2, b2⟩ | ⟨a2, b2⟩
            · exact Or.inr ⟨by omega, Or.inl a⟩
            · exact Or.inr ⟨b2, Or.inl a⟩
      refine x_iload 74 rfl dX11_goesAlong_72 rfl ?_
      refine x_iload_n 75 rfl dX11_goesAlong_74 3 rfl rfl ?_
      refine x_icmp_ge 78 139 rfl dX11_goesAlong_75 (by decide) (fun c75 => ?_) (fun c75 => ?_)
      · exfalso; omega
      · refine x_iload 80 rfl dX11_goesAlong_78 rfl ?_
        refine x_if_le 83 93 rfl dX11_goesAlong_80 (by decide) (fun c80 => ?_) (fun c80 => ?_)
        · exfalso; omega
        · refine x_aload_n 84 rfl dX11_goesAlong_83 0 rfl rfl ?_
          refine x_dupr 85 rfl dX11_goesAlong_84 ?_
          refine x_geti 88 rfl fX11_249 dX11_goesAlong_85 (lyl55 hL) (lys55 hL) (by decide) ?_
          try simp (disch := omega) only [z_up_ne, z_up_nk, z_up_eq, z_mup_ne, z_mup_eq, Int.reduceToNat, Int.toNat_natCast, ev_22, ev_24, ev_o, ev_ne, ev_u22, ev_u24, ev_u37, ev_u38, ev_u39, ev_u40, ev_u73]
          refine x_iconst 89 rfl dX11_goesAlong_88 (by decide) ?_
          refine y_iadd 90 rfl dX11_goesAlong_89 (by omega) ?_
          refine x_puti 93 rfl fX11_249 dX11_goesAlong_90 (lyl55 hL) (lys55 hL) (by decide) ?_
          try simp only [ev_22, ev_24, ev_o, ev_ne, ev_u22, ev_u24, ev_u37, ev_u38, ev_u39, ev_u40, ev_u73]
          rw [ev_ad]
          refine z_mem (M' := ev _ ((B + (g_ad (g_em s1 0)).1 : Nat) : Int) b) rfl ?_
          exact nx
    · exfalso; omega
  refine zX_of pl_RX11 [some (zn 55), some (zi ((B + n : Nat) : Int)), some (zi live), none, none] 2 rfl rfl ?_
  refine x_aload_n 1 rfl dX11_goesAlong_0 0 rfl rfl ?_
  refine x_iconst 2 rfl dX11_goesAlong_1 (by decide) ?_
  refine x_putz 5 rfl fX11_279 dX11_goesAlong_2 (lyl55 hL) (lys55 hL) (by decide) (by omega) ?_
  try simp only [ev_22, ev_24, ev_o, ev_ne, ev_u22, ev_u24, ev_u37, ev_u38, ev_u39, ev_u40, ev_u73]
  refine x_aload_n 6 rfl dX11_goesAlong_5 0 rfl rfl ?_
  refine x_iload_n 7 rfl dX11_goesAlong_6 1 rfl rfl ?_
  refine x_puti 10 rfl fX11_246 dX11_goesAlong_7 (lyl55 hL) (lys55 hL) (by decide) ?_
  try simp only [ev_22, ev_24, ev_o, ev_ne, ev_u22, ev_u24, ev_u37, ev_u38, ev_u39, ev_u40, ev_u73]
  refine x_aload_n 11 rfl dX11_goesAlong_10 0 rfl rfl ?_
  refine x_aload_n 12 rfl dX11_goesAlong_11 0 rfl rfl ?_
  refine x_geti 15 rfl fX11_419 dX11_goesAlong_12 (lyl55 hL) (lys55 hL) (by decide) ?_
  try simp (disch := omega) only [z_up_ne, z_up_nk, z_up_eq, z_mup_ne, z_mup_eq, Int.reduceToNat, Int.toNat_natCast, ev_22, ev_24, ev_o, ev_ne, ev_u22, ev_u24, ev_u37, ev_u38, ev_u39, ev_u40, ev_u73]
  refine x_puti 18 rfl fX11_249 dX11_goesAlong_15 (lyl55 hL) (lys55 hL) (by decide) ?_
  try simp only [ev_22, ev_24, ev_o, ev_ne, ev_u22, ev_u24, ev_u37, ev_u38, ev_u39, ev_u40, ev_u73]
  rw [h36, ga_ev]
  refine x_aload_n 19 rfl dX11_goesAlong_18 0 rfl rfl ?_
  refine x_aload_n 20 rfl dX11_goesAlong_19 0 rfl rfl ?_
  refine x_aload_n 21 rfl dX11_goesAlong_20 0 rfl rfl ?_
  refine x_geti 24 rfl fX11_249 dX11_goesAlong_21 (lyl55 hL) (lys55 hL) (by decide) ?_
  try simp (disch := omega) only [z_up_ne, z_up_nk, z_up_eq, z_mup_ne, z_mup_eq, Int.reduceToNat, Int.toNat_natCast, ev_22, ev_24, ev_o, ev_ne, ev_u22, ev_u24, ev_u37, ev_u38, ev_u39, ev_u40, ev_u73]
  refine x_cVi 27 rfl lX11_252 dX11_goesAlong_24 (lyl55 hL) (lys55 hL) (c_X11_codeAt hL (ga_EVM0 hB htc htv) hT hA1) rfl rfl (Nat.le_of_ble_eq_true rfl) (fun r M1 hr1 => ?_)
  obtain ⟨rfl, hM1⟩ := hr1
  rw [hM1]
  refine x_puti 30 rfl fX11_428 dX11_goesAlong_27 (lyl55 hL) (lys55 hL) (by decide) ?_
  try simp only [ev_22, ev_24, ev_o, ev_ne, ev_u22, ev_u24, ev_u37, ev_u38, ev_u39, ev_u40, ev_u73]
  refine x_aload_n 31 rfl dX11_goesAlong_30 0 rfl rfl ?_
  refine x_dupr 32 rfl dX11_goesAlong_31 ?_
  refine x_geti 35 rfl fX11_249 dX11_goesAlong_32 (lyl55 hL) (lys55 hL) (by decide) ?_
  try simp (disch := omega) only [z_up_ne, z_up_nk, z_up_eq, z_mup_ne, z_mup_eq, Int.reduceToNat, Int.toNat_natCast, ev_22, ev_24, ev_o, ev_ne, ev_u22, ev_u24, ev_u37, ev_u38, ev_u39, ev_u40, ev_u73]
  refine x_iconst 36 rfl dX11_goesAlong_35 (by decide) ?_
  refine y_iadd 37 rfl dX11_goesAlong_36 (by omega) ?_
  refine x_puti 40 rfl fX11_249 dX11_goesAlong_37 (lyl55 hL) (lys55 hL) (by decide) ?_
  try simp only [ev_22, ev_24, ev_o, ev_ne, ev_u22, ev_u24, ev_u37, ev_u38, ev_u39, ev_u40, ev_u73]
  rw [ev_ad]
  refine x_aload_n 41 rfl dX11_goesAlong_40 0 rfl rfl ?_
  refine x_iconst 42 rfl dX11_goesAlong_41 (by decide) ?_
  refine x_putz 45 rfl fX11_431 dX11_goesAlong_42 (lyl55 hL) (lys55 hL) (by decide) (by omega) ?_
  try simp only [ev_22, ev_24, ev_o, ev_ne, ev_u22, ev_u24, ev_u37, ev_u38, ev_u39, ev_u40, ev_u73]
  have hG : gaI M B n c v (c s.1) (z_up (z_up (z_up (z_up M 55 25 1) 55 23 ((B + n : Nat) : Int)) 55 38 (c s.1)) 55 39 1) := gaI_0 hB htc htv
  have hG39 : z_up (z_up (z_up (z_up M 55 25 1) 55 23 ((B + n : Nat) : Int)) 55 38 (c s.1)) 55 39 1 55 39 = 1 := z_up_eq
  generalize z_up (z_up (z_up (z_up M 55 25 1) 55 23 ((B + n : Nat) : Int)) 55 38 (c s.1)) 55 39 1 = N1 at hG hG39 ⊢
  refine x_aload_n 46 rfl dX11_goesAlong_45 0 rfl rfl ?_
  refine x_geti 49 rfl fX11_428 dX11_goesAlong_46 (lyl55 hL) (lys55 hL) (by decide) ?_
  try simp (disch := omega) only [z_up_ne, z_up_nk, z_up_eq, z_mup_ne, z_mup_eq, Int.reduceToNat, Int.toNat_natCast, ev_22, ev_24, ev_o, ev_ne, ev_u22, ev_u24, ev_u37, ev_u38, ev_u39, ev_u40, ev_u73]
  rw [hG.2.2.2]
  refine x_bipush 51 rfl dX11_goesAlong_49 (by decide) ?_
  refine x_icmp_eq 54 63 rfl dX11_goesAlong_51 (by decide) (fun c51 => ?_) (fun c51 => ?_)
  · refine x_iconst 64 rfl dX11_goesAlong_63 (by decide) ?_
    refine x_goto 68 dX11_goesAlong_64 (by decide) ?_
    refine y_istore_n 69 rfl dX11_goesAlong_68 rfl rfl (ls' := [_, _, _, _, _]) rfl (by decide) ?_
    refine x_iconst 70 rfl dX11_goesAlong_69 (by decide) ?_
    refine y_istore 72 rfl dX11_goesAlong_70 rfl (ls' := [_, _, _, _, _]) rfl (by decide) ?_
    refine x_iload 74 rfl dX11_goesAlong_72 rfl ?_
    refine x_iload_n 75 rfl dX11_goesAlong_74 3 rfl rfl ?_
    refine x_icmp_ge 78 139 rfl dX11_goesAlong_75 (by decide) (fun c75 => ?_) (fun c75 => ?_)
    · exfalso; omega
    · refine x_iload 80 rfl dX11_goesAlong_78 rfl ?_
      refine x_if_le 83 93 rfl dX11_goesAlong_80 (by decide) (fun c80 => ?_) (fun c80 => ?_)
      · exact two N1 _ (by omega) hG hG39
      · exfalso; omega
  · refine x_aload_n 55 rfl dX11_goesAlong_54 0 rfl rfl ?_
    refine x_geti 58 rfl fX11_428 dX11_goesAlong_55 (lyl55 hL) (lys55 hL) (by decide) ?_
    try simp (disch := omega) only [z_up_ne, z_up_nk, z_up_eq, z_mup_ne, z_mup_eq, Int.reduceToNat, Int.toNat_natCast, ev_22, ev_24, ev_o, ev_ne, ev_u22, ev_u24, ev_u37, ev_u38, ev_u39, ev_u40, ev_u73]
    rw [hG.2.2.2]
    refine x_bipush 60 rfl dX11_goesAlong_58 (by decide) ?_
    refine x_icmp_ne 63 67 rfl dX11_goesAlong_60 (by decide) (fun c60 => ?_) (fun c60 => ?_)
    · have hc : c s.1 = 23 ∨ c s.1 = 26 := by
        rcases g_ord_inv hq with ⟨h4, -⟩ | ⟨h4, -⟩
        · exfalso; omega
        · exact h4
      refine x_iconst 68 rfl dX11_goesAlong_67 (by decide) ?_
      refine y_istore_n 69 rfl dX11_goesAlong_68 rfl rfl (ls' := [_, _, _, _, _]) rfl (by decide) ?_
      refine x_iconst 70 rfl dX11_goesAlong_69 (by decide) ?_
      refine y_istore 72 rfl dX11_goesAlong_70 rfl (ls' := [_, _, _, _, _]) rfl (by decide) ?_
      refine x_iload 74 rfl dX11_goesAlong_72 rfl ?_
      refine x_iload_n 75 rfl dX11_goesAlong_74 3 rfl rfl ?_
      refine x_icmp_ge 78 139 rfl dX11_goesAlong_75 (by decide) (fun c75 => ?_) (fun c75 => ?_)
      · exfalso; omega
      · refine x_iload 80 rfl dX11_goesAlong_78 rfl ?_
        refine x_if_le 83 93 rfl dX11_goesAlong_80 (by decide) (fun c80 => ?_) (fun c80 => ?_)
        · exact one N1 _ hc hG hG39
        · exfalso; omega
    · refine x_iconst 64 rfl dX11_goesAlong_63 (by decide) ?_
      refine x_goto 68 dX11_goesAlong_64 (by decide) ?_
      refine y_istore_n 69 rfl dX11_goesAlong_68 rfl rfl (ls' := [_, _, _, _, _]) rfl (by decide) ?_
      refine x_iconst 70 rfl dX11_goesAlong_69 (by decide) ?_
      refine y_istore 72 rfl dX11_goesAlong_70 rfl (ls' := [_, _, _, _, _]) rfl (by decide) ?_
      refine x_iload 74 rfl dX11_goesAlong_72 rfl ?_
      refine x_iload_n 75 rfl dX11_goesAlong_74 3 rfl rfl ?_
      refine x_icmp_ge 78 139 rfl dX11_goesAlong_75 (by decide) (fun c75 => ?_) (fun c75 => ?_)
      · exfalso; omega
      · refine x_iload 80 rfl dX11_goesAlong_78 rfl ?_
        refine x_if_le 83 93 rfl dX11_goesAlong_80 (by decide) (fun c80 => ?_) (fun c80 => ?_)
        · exact two N1 _ (by omega) hG hG39
        · exfalso; omega
