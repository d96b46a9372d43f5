theorem z_oki {mt : zMt} {d kc ks : Nat} {sc : List Int} {Q : zQ} {pc : Nat} {ls : zLs} {st : List zV} {sz : Nat} {S : zSh} {M : zMem} {x : Int} (k : z_i32 x → zW mt d kc ks sc Q pc ls (zi x :: st) sz S M) : zW mt d kc ks sc Q pc ls (zi x :: st) sz S M := by
  intro E D dA p l e R s m args below meth c QQ hE H locs cells slots lr hR hS hc hs ho hL
  exact k (ho (zi x) (by simp)) E D dA p l e R s m args below meth c QQ hE H locs cells slots lr hR hS hc hs ho hL
/-- a code below nothing does what this one does -/
def nrmC (x : Int) : Int := if 0 ≤ x then x else if x.tmod 16 = 0 then 0 else 7
def nrm (C : Nat → Int) (j : Nat) : Int := nrmC (C j)
theorem zjoin_neg {p l r : Int} (h : p < 0) : zjoin p l r = zjoin 7 l r := by
  unfold zjoin
  simp (disch := omega) only [if_neg]
theorem nrm_F {x : Int} (h : z_i32 x) : ∃ P W : Int, x.tmod 16 = P ∧ w32 (x.tdiv 16) = W ∧ (-134217728 ≤ W ∧ W ≤ 134217727) ∧ ((P = nrmC x % 16 ∧ W = nrmC x / 16 ∧ 0 ≤ nrmC x) ∨ (P = 0 ∧ nrmC x % 16 = 0) ∨ (P < 0 ∧ nrmC x % 16 = 7)) ∧ (∀ l r, zjoin P l r = zjoin (nrmC x % 16) l r) := by
  unfold z_i32 at h
  by_cases h0 : 0 ≤ x
  · have e : nrmC x = x := by unfold nrmC; rw [if_pos h0]
    have e1 : x.tmod 16 = x % 16 := z_tmodn h0
    have e2 : w32 (x.tdiv 16) = x / 16 := z_tdiv h0 h.2 (by decide)
    exact ⟨_, _, rfl, rfl, by omega, .inl ⟨by rw [e, e1], by rw [e, e2], by omega⟩, fun l r => by rw [e, e1]⟩
  · have hm : 16 * x.tdiv 16 + x.tmod 16 = x := Int.mul_tdiv_add_tmod x 16
    have e3 : x.tdiv 16 = -((-x) / 16) := by
      have e4 : (-(-x)).tdiv 16 = -((-x).tdiv 16) := by simp only [Int.neg_tdiv]
      rw [Int.neg_neg] at e4
      rw [e4, Int.tdiv_eq_ediv_of_nonneg (by omega)]
    have e2 : w32 (x.tdiv 16) = x.tdiv 16 := w32_id (by unfold z_i32; omega)
    by_cases h1 : x.tmod 16 = 0
    · have e : nrmC x = 0 := by unfold nrmC; rw [if_neg h0, if_pos h1]
      exact ⟨_, _, rfl, rfl, by omega, .inr (.inl ⟨h1, by rw [e]; rfl⟩), fun l r => by rw [e, h1]; rfl⟩
    · have e : nrmC x = 7 := by unfold nrmC; rw [if_neg h0, if_neg h1]
      exact ⟨_, _, rfl, rfl, by omega, .inr (.inr ⟨by omega, by rw [e]; rfl⟩), fun l r => by rw [e]; exact zjoin_neg (by omega)⟩

set_option maxRecDepth 100000 in
set_option maxHeartbeats 4000000 in
theorem c_X3_value2 {d sz : Nat} {S : zSh} {M : zMem} {a c v nc : Nat} {f : Int} (h : MC S sz a) (hc : c < sz) (hSc : S c = (20, nc, zN)) (hv : v < sz) (hSv : S v = (20, 25, zN)) (hne : c ≠ a + 1 ∧ v ≠ a + 1) (hnc : nc ≤ 400) (hf : 0 ≤ f ∧ f ≤ 400) (hV : ∀ j, j < 25 → -1000000000 ≤ M v j ∧ M v j ≤ 1000000000) : zX (d + 1) 0 0 mX3_value [zn a, zn c, zi f, zn v] sz S M (zI sz S (fun r M' => r = mach (nrm (M c)) nc (M v) nc 0 f.toNat (M (a + 1)) ∧ ∃ s, M' = z_mup M (a + 1) s)) := by
  obtain ⟨R, hR⟩ : ∃ R, mach (nrm (M c)) nc (M v) nc 0 f.toNat (M (a + 1)) = R := ⟨_, rfl⟩
  have loop : ∀ (q size place : Nat) (stk : Nat → Int) (steps : Nat), nc < q + steps → steps ≤ nc → size ≤ 64 → place ≤ 134217728 → (∀ i, i < size → -1000000000 - (steps : Int) ≤ stk i ∧ stk i ≤ 1000000000 + (steps : Int)) → mach (nrm (M c)) nc (M v) (nc - steps) size place stk = R → zW mX3_value (d + 1) 0 0 [] (zI sz S (fun r M' => r = mach (nrm (M c)) nc (M v) nc 0 f.toNat (M (a + 1)) ∧ ∃ s, M' = z_mup M (a + 1) s)) 9 [some (zn a), some (zn c), some (zi f), some (zn v), some (zi size), some (zi place), some (zi steps), none, none] [] sz S (z_mup M (a + 1) stk) := by
    intro q
    induction q with
    | zero => intro size place stk steps hq hn; omega
    | succ q ih =>
      intro size place stk steps hq hn hs hp hb hE
      refine x_iload 11 rfl dX3_value_9 rfl ?_
      refine x_aload_n 12 rfl dX3_value_11 1 rfl rfl ?_
      refine x_alen (t := 0) 13 rfl dX3_value_12 hc hSc (Or.inl rfl) (by omega) ?_
      refine x_icmp_ge 16 280 rfl dX3_value_13 (by decide) (fun c13 => ?_) (fun c13 => ?_)
      · rw [show nc - steps = 0 by omega] at hE
        simp only [mach] at hE
        refine x_iload 282 rfl dX3_value_280 rfl ?_
        refine x_iconst 283 rfl dX3_value_282 (by decide) ?_
        refine x_icmp_ne 286 295 rfl dX3_value_283 (by decide) (fun c283 => ?_) (fun c283 => ?_)
        · refine x_ldc (x := -2000000000) 297 rfl kX3_15 (by decide) dX3_value_295 ?_
          refine x_reti dX3_value_297 rfl ?_
          first
            | (simp (disch := omega) only [if_pos, if_neg] at hE; exact ⟨by rw [hR, ← hE]; rfl, _, rfl⟩)
            | (simp (disch := omega) only [if_pos, if_neg] at hE; rw [if_pos (by exact c268)] at hE; exact ⟨by rw [hR, ← hE]; rfl, _, rfl⟩)
            | (simp (disch := omega) only [if_pos, if_neg] at hE; exact ⟨by rw [hR, ← hE], _, rfl⟩)
            | (exfalso; omega)
            | refine ⟨?_, _, rfl⟩
              rw [hR, ← hE]
              simp only [zBK]
              repeat' split
              all_goals first | rfl | omega | (exfalso; omega)
        · refine x_aload_n 287 rfl dX3_value_286 0 rfl rfl ?_
          refine x_getr 290 rfl fX3_9 dX3_value_287 (mcl0 h) (mcs0 h) (by decide) (a + 1) rfl ?_
          refine x_iconst 291 rfl dX3_value_290 (by decide) ?_
          refine x_ialk 292 rfl dX3_value_291 (mcl1 h) (mcs1 h) 0 rfl (by decide) ?_
          try simp (disch := omega) only [z_up_ne, z_up_nk, z_up_eq, z_mup_ne, z_mup_eq, Int.reduceToNat, Int.toNat_natCast]
          refine x_goto 297 dX3_value_292 (by decide) ?_
          refine x_reti dX3_value_297 rfl ?_
          first
            | (simp (disch := omega) only [if_pos, if_neg] at hE; exact ⟨by rw [hR, ← hE]; rfl, _, rfl⟩)
            | (simp (disch := omega) only [if_pos, if_neg] at hE; rw [if_pos (by exact c268)] at hE; exact ⟨by rw [hR, ← hE]; rfl, _, rfl⟩)
            | (simp (disch := omega) only [if_pos, if_neg] at hE; exact ⟨by rw [hR, ← hE], _, rfl⟩)
            | (exfalso; omega)
            | refine ⟨?_, _, rfl⟩
              rw [hR, ← hE]
              simp only [zBK]
              repeat' split
              all_goals first | rfl | omega | (exfalso; omega)
      · obtain ⟨n, hn2⟩ : ∃ n, nc - steps = n + 1 := ⟨nc - steps - 1, by omega⟩
        rw [hn2] at hE
        simp only [mach] at hE
        refine x_iload 18 rfl dX3_value_16 rfl ?_
        refine x_if_lt 21 280 rfl dX3_value_18 (by decide) (fun c18 => ?_) (fun c18 => ?_)
        · exfalso; omega
        · refine x_iload 23 rfl dX3_value_21 rfl ?_
          refine x_aload_n 24 rfl dX3_value_23 1 rfl rfl ?_
          refine x_alen (t := 0) 25 rfl dX3_value_24 hc hSc (Or.inl rfl) (by omega) ?_
          refine x_icmp_ge 28 280 rfl dX3_value_25 (by decide) (fun c25 => ?_) (fun c25 => ?_)
          · refine x_iload 282 rfl dX3_value_280 rfl ?_
            refine x_iconst 283 rfl dX3_value_282 (by decide) ?_
            refine x_icmp_ne 286 295 rfl dX3_value_283 (by decide) (fun c283 => ?_) (fun c283 => ?_)
            · refine x_ldc (x := -2000000000) 297 rfl kX3_15 (by decide) dX3_value_295 ?_
              refine x_reti dX3_value_297 rfl ?_
              first
                | (simp (disch := omega) only [if_pos, if_neg] at hE; exact ⟨by rw [hR, ← hE]; rfl, _, rfl⟩)
                | (simp (disch := omega) only [if_pos, if_neg] at hE; rw [if_pos (by exact c268)] at hE; exact ⟨by rw [hR, ← hE]; rfl, _, rfl⟩)
                | (simp (disch := omega) only [if_pos, if_neg] at hE; exact ⟨by rw [hR, ← hE], _, rfl⟩)
                | (exfalso; omega)
                | refine ⟨?_, _, rfl⟩
                  rw [hR, ← hE]
                  simp only [zBK]
                  repeat' split
                  all_goals first | rfl | omega | (exfalso; omega)
            · refine x_aload_n 287 rfl dX3_value_286 0 rfl rfl ?_
              refine x_getr 290 rfl fX3_9 dX3_value_287 (mcl0 h) (mcs0 h) (by decide) (a + 1) rfl ?_
              refine x_iconst 291 rfl dX3_value_290 (by decide) ?_
              refine x_ialk 292 rfl dX3_value_291 (mcl1 h) (mcs1 h) 0 rfl (by decide) ?_
              try simp (disch := omega) only [z_up_ne, z_up_nk, z_up_eq, z_mup_ne, z_mup_eq, Int.reduceToNat, Int.toNat_natCast]
              refine x_goto 297 dX3_value_292 (by decide) ?_
              refine x_reti dX3_value_297 rfl ?_
              first
                | (simp (disch := omega) only [if_pos, if_neg] at hE; exact ⟨by rw [hR, ← hE]; rfl, _, rfl⟩)
                | (simp (disch := omega) only [if_pos, if_neg] at hE; rw [if_pos (by exact c268)] at hE; exact ⟨by rw [hR, ← hE]; rfl, _, rfl⟩)
                | (simp (disch := omega) only [if_pos, if_neg] at hE; exact ⟨by rw [hR, ← hE], _, rfl⟩)
                | (exfalso; omega)
                | refine ⟨?_, _, rfl⟩
                  rw [hR, ← hE]
                  simp only [zBK]
                  repeat' split
                  all_goals first | rfl | omega | (exfalso; omega)
          · refine x_aload_n 29 rfl dX3_value_28 1 rfl rfl ?_
            refine x_iload 31 rfl dX3_value_29 rfl ?_
            refine x_iald 32 rfl dX3_value_31 hc hSc (by omega) (by omega) ?_
            try simp (disch := omega) only [z_up_ne, z_up_nk, z_up_eq, z_mup_ne, z_mup_eq, Int.reduceToNat, Int.toNat_natCast]
            refine z_oki (fun h32 => ?_)
            obtain ⟨P, W, hP, hW, hWb, hF, hJ⟩ := nrm_F h32
            obtain ⟨Y, hY⟩ : ∃ Y, nrmC (M c place) = Y := ⟨_, rfl⟩
            simp only [nrm, hY] at hE
            rw [hY] at hF hJ
            refine x_bipush 34 rfl dX3_value_32 (by decide) ?_
            refine x_irem 35 rfl dX3_value_34 (by omega) ?_
            rw [hP]
            refine y_istore 37 rfl dX3_value_35 rfl (ls' := [_, _, _, _, _, _, _, _, _]) rfl (by decide) ?_
            refine x_aload_n 38 rfl dX3_value_37 1 rfl rfl ?_
            refine x_iload 40 rfl dX3_value_38 rfl ?_
            refine x_iald 41 rfl dX3_value_40 hc hSc (by omega) (by omega) ?_
            try simp (disch := omega) only [z_up_ne, z_up_nk, z_up_eq, z_mup_ne, z_mup_eq, Int.reduceToNat, Int.toNat_natCast]
            refine x_bipush 43 rfl dX3_value_41 (by decide) ?_
            refine x_idiv 44 rfl dX3_value_43 (by omega) ?_
            rw [hW]
            refine y_istore 46 rfl dX3_value_44 rfl (ls' := [_, _, _, _, _, _, _, _, _]) rfl (by decide) ?_
            refine w_iinc 49 rfl dX3_value_46 rfl (by decide) (by omega) rfl (ls' := [_, _, _, _, _, _, _, _, _]) rfl (by decide) ?_
            refine x_iload 51 rfl dX3_value_49 rfl ?_
            refine x_if_ne 54 57 rfl dX3_value_51 (by decide) (fun c51 => ?_) (fun c51 => ?_)
            · replace hF : (P = Y % 16 ∧ W = Y / 16 ∧ 0 ≤ Y) ∨ (P < 0 ∧ Y % 16 = 7) := by omega
              refine x_iload 59 rfl dX3_value_57 rfl ?_
              refine x_aload_n 60 rfl dX3_value_59 0 rfl rfl ?_
              refine x_getr 63 rfl fX3_9 dX3_value_60 (mcl0 h) (mcs0 h) (by decide) (a + 1) rfl ?_
              refine x_alen (t := 0) 64 rfl dX3_value_63 (mcl1 h) (mcs1 h) (Or.inl rfl) (by decide) ?_
              refine x_icmp_ge 67 80 rfl dX3_value_64 (by decide) (fun c64 => ?_) (fun c64 => ?_)
              · refine x_ldc (x := -2000000000) 82 rfl kX3_15 (by decide) dX3_value_80 ?_
                refine x_reti dX3_value_82 rfl ?_
                first
                  | (simp (disch := omega) only [if_pos, if_neg] at hE; exact ⟨by rw [hR, ← hE]; rfl, _, rfl⟩)
                  | (simp (disch := omega) only [if_pos, if_neg] at hE; rw [if_pos (by exact c268)] at hE; exact ⟨by rw [hR, ← hE]; rfl, _, rfl⟩)
                  | (simp (disch := omega) only [if_pos, if_neg] at hE; exact ⟨by rw [hR, ← hE], _, rfl⟩)
                  | (exfalso; omega)
                  | refine ⟨?_, _, rfl⟩
                    rw [hR, ← hE]
                    simp only [zBK]
                    repeat' split
                    all_goals first | rfl | omega | (exfalso; omega)
              · refine x_iload 69 rfl dX3_value_67 rfl ?_
                refine x_iconst 70 rfl dX3_value_69 (by decide) ?_
                refine x_icmp_ne 73 83 rfl dX3_value_70 (by decide) (fun c70 => ?_) (fun c70 => ?_)
                · refine x_iload 85 rfl dX3_value_83 rfl ?_
                  refine x_iconst 86 rfl dX3_value_85 (by decide) ?_
                  refine x_icmp_eq 89 95 rfl dX3_value_86 (by decide) (fun c86 => ?_) (fun c86 => ?_)
                  · replace hF : Y % 16 = 1 ∧ Y / 16 = W ∧ 0 ≤ W := by omega
                    refine x_aload_n 96 rfl dX3_value_95 0 rfl rfl ?_
                    refine x_getr 99 rfl fX3_9 dX3_value_96 (mcl0 h) (mcs0 h) (by decide) (a + 1) rfl ?_
                    refine x_iload 101 rfl dX3_value_99 rfl ?_
                    refine x_iload 103 rfl dX3_value_101 rfl ?_
                    refine x_iconst 104 rfl dX3_value_103 (by decide) ?_
                    refine x_icmp_ne 107 112 rfl dX3_value_104 (by decide) (fun c104 => ?_) (fun c104 => ?_)
                    · exfalso; omega
                    · refine x_iload 109 rfl dX3_value_107 rfl ?_
                      refine x_goto 116 dX3_value_109 (by decide) ?_
                      refine x_iast 117 rfl dX3_value_116 (mcl1 h) (mcs1 h) (by omega) (by omega) ?_
                      refine w_iinc 120 rfl dX3_value_117 rfl (by decide) (by omega) rfl (ls' := [_, _, _, _, _, _, _, _, _]) rfl (by decide) ?_
                      refine x_goto 274 dX3_value_120 (by decide) ?_
                      refine w_iinc 277 rfl dX3_value_274 rfl (by decide) (by omega) rfl (ls' := [_, _, _, _, _, _, _, _, _]) rfl (by decide) ?_
                      refine x_goto 9 dX3_value_277 (by decide) ?_
                      first
                        | (exfalso; omega)
                        | have e9 : Y % 16 = 1 := by omega
                          simp (disch := omega) only [if_pos, if_neg] at hE
                          rw [show n = nc - (steps + 1) by omega] at hE
                          rw [show Y / 16 = W by omega] at hE
                          refine z_wk (ls' := [some (zn a), some (zn c), some (zi f), some (zn v), some (zi ((size + 1 : Nat) : Int)), some (zi ((place + 1 : Nat) : Int)), some (zi ((steps + 1 : Nat) : Int)), none, none]) ⟨rfl, rfl, rfl, rfl, z_e (by omega), z_e (by omega), z_e (by omega), trivial⟩ (z_mem (M' := z_mup M (a + 1) (ku stk size W)) (by simp only [Int.toNat_natCast, z_mupm]) (ih (size + 1) (place + 1) (ku stk size W) (steps + 1) (by omega) (by omega) (by omega) (by omega) ?_ hE))
                          intro i hi2; simp only [ku]; split
                          · omega
                          · have := hb i (by omega); omega
                        | have e9 : Y % 16 = 2 := by omega
                          simp (disch := omega) only [if_pos, if_neg] at hE
                          rw [show n = nc - (steps + 1) by omega] at hE
                          rw [show Y / 16 = W by omega] at hE
                          refine z_wk (ls' := [some (zn a), some (zn c), some (zi f), some (zn v), some (zi ((size + 1 : Nat) : Int)), some (zi ((place + 1 : Nat) : Int)), some (zi ((steps + 1 : Nat) : Int)), none, none]) ⟨rfl, rfl, rfl, rfl, z_e (by omega), z_e (by omega), z_e (by omega), trivial⟩ (z_mem (M' := z_mup M (a + 1) (ku stk size (M v W.toNat))) (by simp only [Int.toNat_natCast, z_mupm]) (ih (size + 1) (place + 1) (ku stk size (M v W.toNat)) (steps + 1) (by omega) (by omega) (by omega) (by omega) ?_ hE))
                          intro i hi2; simp only [ku]; split
                          · omega
                          · have := hb i (by omega); omega
                        | have e9 : Y % 16 = 11 := by omega
                          simp (disch := omega) only [if_pos, if_neg] at hE
                          rw [show n = nc - (steps + 1) by omega] at hE
                          refine z_wk (ls' := [some (zn a), some (zn c), some (zi f), some (zn v), some (zi ((size : Nat) : Int)), some (zi ((place + 1 : Nat) : Int)), some (zi ((steps + 1 : Nat) : Int)), none, none]) ⟨rfl, rfl, rfl, rfl, z_e (by omega), z_e (by omega), z_e (by omega), trivial⟩ (z_mem (M' := z_mup M (a + 1) (ku stk (size - 1) (1 - stk (size - 1)))) (by simp only [show ((size : Int) - 1).toNat = size - 1 by omega, z_mupm]) (ih (size) (place + 1) (ku stk (size - 1) (1 - stk (size - 1))) (steps + 1) (by omega) (by omega) (by omega) (by omega) ?_ hE))
                          intro i hi2; simp only [ku]; split
                          · omega
                          · have := hb i (by omega); omega
                        | have e9 : Y % 16 = 12 ∨ Y % 16 = 13 := by omega
                          simp (disch := omega) only [if_pos, if_neg] at hE
                          rw [show n = nc - (steps + 1) by omega] at hE
                          rw [show Y / 16 = W by omega] at hE
                          refine z_wk (ls' := [some (zn a), some (zn c), some (zi f), some (zn v), some (zi ((size : Nat) : Int)), some (zi ((W.toNat : Nat) : Int)), some (zi ((steps + 1 : Nat) : Int)), none, none]) ⟨rfl, rfl, rfl, rfl, z_e (by omega), z_e (by omega), z_e (by omega), trivial⟩ (z_mem (M' := z_mup M (a + 1) (stk)) rfl (ih (size) (W.toNat) (stk) (steps + 1) (by omega) (by omega) (by omega) (by omega) ?_ hE))
                          exact fun i hi2 => by have := hb i hi2; omega
                        | have e9 : Y % 16 = 12 ∨ Y % 16 = 13 := by omega
                          simp (disch := omega) only [if_pos, if_neg] at hE
                          rw [show n = nc - (steps + 1) by omega] at hE
                          refine z_wk (ls' := [some (zn a), some (zn c), some (zi f), some (zn v), some (zi ((size - 1 : Nat) : Int)), some (zi ((place + 1 : Nat) : Int)), some (zi ((steps + 1 : Nat) : Int)), none, none]) ⟨rfl, rfl, rfl, rfl, z_e (by omega), z_e (by omega), z_e (by omega), trivial⟩ (z_mem (M' := z_mup M (a + 1) (stk)) rfl (ih (size - 1) (place + 1) (stk) (steps + 1) (by omega) (by omega) (by omega) (by omega) ?_ hE))
                          exact fun i hi2 => by have := hb i (by omega); omega
                        | simp (disch := omega) only [if_pos, if_neg] at hE
                          rw [show n = nc - (steps + 1) by omega] at hE
                          refine z_wk (ls' := [some (zn a), some (zn c), some (zi f), some (zn v), some (zi ((size - 1 : Nat) : Int)), some (zi ((place + 1 : Nat) : Int)), some (zi ((steps + 1 : Nat) : Int)), none, none]) ⟨rfl, rfl, rfl, rfl, z_e (by omega), z_e (by omega), z_e (by omega), trivial⟩ (z_mem (M' := z_mup M (a + 1) (ku stk (size - 2) (zjoin (Y % 16) (stk (size - 2)) (stk (size - 1))))) (by first | rfl | simp only [show ((size : Int) + -1 - 1).toNat = size - 2 by omega, z_mupm]) (ih (size - 1) (place + 1) (ku stk (size - 2) (zjoin (Y % 16) (stk (size - 2)) (stk (size - 1)))) (steps + 1) (by omega) (by omega) (by omega) (by omega) ?_ hE))
                          intro i hi2; simp only [ku]; split
                          · have := zjoin_in (Y % 16) (stk (size - 2)) (stk (size - 1)); simp only [zBK] at this; omega
                          · have := hb i (by omega); omega
                  · refine x_iload 91 rfl dX3_value_89 rfl ?_
                    refine x_iconst 92 rfl dX3_value_91 (by decide) ?_
                    refine x_icmp_ne 95 123 rfl dX3_value_92 (by decide) (fun c92 => ?_) (fun c92 => ?_)
                    · refine x_iload 125 rfl dX3_value_123 rfl ?_
                      refine x_iconst 126 rfl dX3_value_125 (by decide) ?_
                      refine x_icmp_ge 129 132 rfl dX3_value_126 (by decide) (fun c126 => ?_) (fun c126 => ?_)
                      · have hb1 := hb (size - 1) (by omega)
                        refine x_iload 134 rfl dX3_value_132 rfl ?_
                        refine x_bipush 136 rfl dX3_value_134 (by decide) ?_
                        refine x_icmp_ne 139 162 rfl dX3_value_136 (by decide) (fun c136 => ?_) (fun c136 => ?_)
                        · refine x_iload 164 rfl dX3_value_162 rfl ?_
                          refine x_bipush 166 rfl dX3_value_164 (by decide) ?_
                          refine x_icmp_eq 169 176 rfl dX3_value_166 (by decide) (fun c166 => ?_) (fun c166 => ?_)
                          · replace hF : Y % 16 = 12 ∧ Y / 16 = W ∧ 0 ≤ W := by omega
                            refine x_aload_n 177 rfl dX3_value_176 0 rfl rfl ?_
                            refine x_getr 180 rfl fX3_9 dX3_value_177 (mcl0 h) (mcs0 h) (by decide) (a + 1) rfl ?_
                            refine x_iload 182 rfl dX3_value_180 rfl ?_
                            refine x_iconst 183 rfl dX3_value_182 (by decide) ?_
                            refine y_isub 184 rfl dX3_value_183 (by omega) ?_
                            refine x_iald 185 rfl dX3_value_184 (mcl1 h) (mcs1 h) (by omega) (by omega) ?_
                            try simp (disch := omega) only [z_up_ne, z_up_nk, z_up_eq, z_mup_ne, z_mup_eq, Int.reduceToNat, Int.toNat_natCast]
                            rw [show ((size : Int) - 1).toNat = size - 1 by omega]
                            refine x_iload 187 rfl dX3_value_185 rfl ?_
                            refine x_bipush 189 rfl dX3_value_187 (by decide) ?_
                            refine x_icmp_ne 192 196 rfl dX3_value_189 (by decide) (fun c189 => ?_) (fun c189 => ?_)
                            · exfalso; omega
                            · refine x_iconst 193 rfl dX3_value_192 (by decide) ?_
                              refine x_goto 197 dX3_value_193 (by decide) ?_
                              refine x_icmp_ne 200 207 rfl dX3_value_197 (by decide) (fun c197 => ?_) (fun c197 => ?_)
                              · refine w_iinc 210 rfl dX3_value_207 rfl (by decide) (by omega) rfl (ls' := [_, _, _, _, _, _, _, _, _]) rfl (by decide) ?_
                                refine x_goto 274 dX3_value_210 (by decide) ?_
                                refine w_iinc 277 rfl dX3_value_274 rfl (by decide) (by omega) rfl (ls' := [_, _, _, _, _, _, _, _, _]) rfl (by decide) ?_
                                refine x_goto 9 dX3_value_277 (by decide) ?_
                                first
                                  | (exfalso; omega)
                                  | have e9 : Y % 16 = 1 := by omega
                                    simp (disch := omega) only [if_pos, if_neg] at hE
                                    rw [show n = nc - (steps + 1) by omega] at hE
                                    rw [show Y / 16 = W by omega] at hE
                                    refine z_wk (ls' := [some (zn a), some (zn c), some (zi f), some (zn v), some (zi ((size + 1 : Nat) : Int)), some (zi ((place + 1 : Nat) : Int)), some (zi ((steps + 1 : Nat) : Int)), none, none]) ⟨rfl, rfl, rfl, rfl, z_e (by omega), z_e (by omega), z_e (by omega), trivial⟩ (z_mem (M' := z_mup M (a + 1) (ku stk size W)) (by simp only [Int.toNat_natCast, z_mupm]) (ih (size + 1) (place + 1) (ku stk size W) (steps + 1) (by omega) (by omega) (by omega) (by omega) ?_ hE))
                                    intro i hi2; simp only [ku]; split
                                    · omega
                                    · have := hb i (by omega); omega
                                  | have e9 : Y % 16 = 2 := by omega
                                    simp (disch := omega) only [if_pos, if_neg] at hE
                                    rw [show n = nc - (steps + 1) by omega] at hE
                                    rw [show Y / 16 = W by omega] at hE
                                    refine z_wk (ls' := [some (zn a), some (zn c), some (zi f), some (zn v), some (zi ((size + 1 : Nat) : Int)), some (zi ((place + 1 : Nat) : Int)), some (zi ((steps + 1 : Nat) : Int)), none, none]) ⟨rfl, rfl, rfl, rfl, z_e (by omega), z_e (by omega), z_e (by omega), trivial⟩ (z_mem (M' := z_mup M (a + 1) (ku stk size (M v W.toNat))) (by simp only [Int.toNat_natCast, z_mupm]) (ih (size + 1) (place + 1) (ku stk size (M v W.toNat)) (steps + 1) (by omega) (by omega) (by omega) (by omega) ?_ hE))
                                    intro i hi2; simp only [ku]; split
                                    · omega
                                    · have := hb i (by omega); omega
                                  | have e9 : Y % 16 = 11 := by omega
                                    simp (disch := omega) only [if_pos, if_neg] at hE
                                    rw [show n = nc - (steps + 1) by omega] at hE
                                    refine z_wk (ls' := [some (zn a), some (zn c), some (zi f), some (zn v), some (zi ((size : Nat) : Int)), some (zi ((place + 1 : Nat) : Int)), some (zi ((steps + 1 : Nat) : Int)), none, none]) ⟨rfl, rfl, rfl, rfl, z_e (by omega), z_e (by omega), z_e (by omega), trivial⟩ (z_mem (M' := z_mup M (a + 1) (ku stk (size - 1) (1 - stk (size - 1)))) (by simp only [show ((size : Int) - 1).toNat = size - 1 by omega, z_mupm]) (ih (size) (place + 1) (ku stk (size - 1) (1 - stk (size - 1))) (steps + 1) (by omega) (by omega) (by omega) (by omega) ?_ hE))
                                    intro i hi2; simp only [ku]; split
                                    · omega
                                    · have := hb i (by omega); omega
                                  | have e9 : Y % 16 = 12 ∨ Y % 16 = 13 := by omega
                                    simp (disch := omega) only [if_pos, if_neg] at hE
                                    rw [show n = nc - (steps + 1) by omega] at hE
                                    rw [show Y / 16 = W by omega] at hE
                                    refine z_wk (ls' := [some (zn a), some (zn c), some (zi f), some (zn v), some (zi ((size : Nat) : Int)), some (zi ((W.toNat : Nat) : Int)), some (zi ((steps + 1 : Nat) : Int)), none, none]) ⟨rfl, rfl, rfl, rfl, z_e (by omega), z_e (by omega), z_e (by omega), trivial⟩ (z_mem (M' := z_mup M (a + 1) (stk)) rfl (ih (size) (W.toNat) (stk) (steps + 1) (by omega) (by omega) (by omega) (by omega) ?_ hE))
                                    exact fun i hi2 => by have := hb i hi2; omega
                                  | have e9 : Y % 16 = 12 ∨ Y % 16 = 13 := by omega
                                    simp (disch := omega) only [if_pos, if_neg] at hE
                                    rw [show n = nc - (steps + 1) by omega] at hE
                                    refine z_wk (ls' := [some (zn a), some (zn c), some (zi f), some (zn v), some (zi ((size - 1 : Nat) : Int)), some (zi ((place + 1 : Nat) : Int)), some (zi ((steps + 1 : Nat) : Int)), none, none]) ⟨rfl, rfl, rfl, rfl, z_e (by omega), z_e (by omega), z_e (by omega), trivial⟩ (z_mem (M' := z_mup M (a + 1) (stk)) rfl (ih (size - 1) (place + 1) (stk) (steps + 1) (by omega) (by omega) (by omega) (by omega) ?_ hE))
                                    exact fun i hi2 => by have := hb i (by omega); omega
                                  | simp (disch := omega) only [if_pos, if_neg] at hE
                                    rw [show n = nc - (steps + 1) by omega] at hE
                                    refine z_wk (ls' := [some (zn a), some (zn c), some (zi f), some (zn v), some (zi ((size - 1 : Nat) : Int)), some (zi ((place + 1 : Nat) : Int)), some (zi ((steps + 1 : Nat) : Int)), none, none]) ⟨rfl, rfl, rfl, rfl, z_e (by omega), z_e (by omega), z_e (by omega), trivial⟩ (z_mem (M' := z_mup M (a + 1) (ku stk (size - 2) (zjoin (Y % 16) (stk (size - 2)) (stk (size - 1))))) (by first | rfl | simp only [show ((size : Int) + -1 - 1).toNat = size - 2 by omega, z_mupm]) (ih (size - 1) (place + 1) (ku stk (size - 2) (zjoin (Y % 16) (stk (size - 2)) (stk (size - 1)))) (steps + 1) (by omega) (by omega) (by omega) (by omega) ?_ hE))
                                    intro i hi2; simp only [ku]; split
                                    · have := zjoin_in (Y % 16) (stk (size - 2)) (stk (size - 1)); simp only [zBK] at this; omega
                                    · have := hb i (by omega); omega
                              · refine x_iload 202 rfl dX3_value_200 rfl ?_
                                refine y_istore 204 rfl dX3_value_202 rfl (ls' := [_, _, _, _, _, _, _, _, _]) rfl (by decide) ?_
                                refine x_goto 274 dX3_value_204 (by decide) ?_
                                refine w_iinc 277 rfl dX3_value_274 rfl (by decide) (by omega) rfl (ls' := [_, _, _, _, _, _, _, _, _]) rfl (by decide) ?_
                                refine x_goto 9 dX3_value_277 (by decide) ?_
                                first
                                  | (exfalso; omega)
                                  | have e9 : Y % 16 = 1 := by omega
                                    simp (disch := omega) only [if_pos, if_neg] at hE
                                    rw [show n = nc - (steps + 1) by omega] at hE
                                    rw [show Y / 16 = W by omega] at hE
                                    refine z_wk (ls' := [some (zn a), some (zn c), some (zi f), some (zn v), some (zi ((size + 1 : Nat) : Int)), some (zi ((place + 1 : Nat) : Int)), some (zi ((steps + 1 : Nat) : Int)), none, none]) ⟨rfl, rfl, rfl, rfl, z_e (by omega), z_e (by omega), z_e (by omega), trivial⟩ (z_mem (M' := z_mup M (a + 1) (ku stk size W)) (by simp only [Int.toNat_natCast, z_mupm]) (ih (size + 1) (place + 1) (ku stk size W) (steps + 1) (by omega) (by omega) (by omega) (by omega) ?_ hE))
                                    intro i hi2; simp only [ku]; split
                                    · omega
                                    · have := hb i (by omega); omega
                                  | have e9 : Y % 16 = 2 := by omega
                                    simp (disch := omega) only [if_pos, if_neg] at hE
                                    rw [show n = nc - (steps + 1) by omega] at hE
                                    rw [show Y / 16 = W by omega] at hE
                                    refine z_wk (ls' := [some (zn a), some (zn c), some (zi f), some (zn v), some (zi ((size + 1 : Nat) : Int)), some (zi ((place + 1 : Nat) : Int)), some (zi ((steps + 1 : Nat) : Int)), none, none]) ⟨rfl, rfl, rfl, rfl, z_e (by omega), z_e (by omega), z_e (by omega), trivial⟩ (z_mem (M' := z_mup M (a + 1) (ku stk size (M v W.toNat))) (by simp only [Int.toNat_natCast, z_mupm]) (ih (size + 1) (place + 1) (ku stk size (M v W.toNat)) (steps + 1) (by omega) (by omega) (by omega) (by omega) ?_ hE))
                                    intro i hi2; simp only [ku]; split
                                    · omega
                                    · have := hb i (by omega); omega
                                  | have e9 : Y % 16 = 11 := by omega
                                    simp (disch := omega) only [if_pos, if_neg] at hE
                                    rw [show n = nc - (steps + 1) by omega] at hE
                                    refine z_wk (ls' := [some (zn a), some (zn c), some (zi f), some (zn v), some (zi ((size : Nat) : Int)), some (zi ((place + 1 : Nat) : Int)), some (zi ((steps + 1 : Nat) : Int)), none, none]) ⟨rfl, rfl, rfl, rfl, z_e (by omega), z_e (by omega), z_e (by omega), trivial⟩ (z_mem (M' := z_mup M (a + 1) (ku stk (size - 1) (1 - stk (size - 1)))) (by simp only [show ((size : Int) - 1).toNat = size - 1 by omega, z_mupm]) (ih (size) (place + 1) (ku stk (size - 1) (1 - stk (size - 1))) (steps + 1) (by omega) (by omega) (by omega) (by omega) ?_ hE))
                                    intro i hi2; simp only [ku]; split
                                    · omega
                                    · have := hb i (by omega); omega
                                  | have e9 : Y % 16 = 12 ∨ Y % 16 = 13 := by omega
                                    simp (disch := omega) only [if_pos, if_neg] at hE
                                    rw [show n = nc - (steps + 1) by omega] at hE
                                    rw [show Y / 16 = W by omega] at hE
                                    refine z_wk (ls' := [some (zn a), some (zn c), some (zi f), some (zn v), some (zi ((size : Nat) : Int)), some (zi ((W.toNat : Nat) : Int)), some (zi ((steps + 1 : Nat) : Int)), none, none]) ⟨rfl, rfl, rfl, rfl, z_e (by omega), z_e (by omega), z_e (by omega), trivial⟩ (z_mem (M' := z_mup M (a + 1) (stk)) rfl (ih (size) (W.toNat) (stk) (steps + 1) (by omega) (by omega) (by omega) (by omega) ?_ hE))
                                    exact fun i hi2 => by have := hb i hi2; omega
                                  | have e9 : Y % 16 = 12 ∨ Y % 16 = 13 := by omega
                                    simp (disch := omega) only [if_pos, if_neg] at hE
                                    rw [show n = nc - (steps + 1) by omega] at hE
                                    refine z_wk (ls' := [some (zn a), some (zn c), some (zi f), some (zn v), some (zi ((size - 1 : Nat) : Int)), some (zi ((place + 1 : Nat) : Int)), some (zi ((steps + 1 : Nat) : Int)), none, none]) ⟨rfl, rfl, rfl, rfl, z_e (by omega), z_e (by omega), z_e (by omega), trivial⟩ (z_mem (M' := z_mup M (a + 1) (stk)) rfl (ih (size - 1) (place + 1) (stk) (steps + 1) (by omega) (by omega) (by omega) (by omega) ?_ hE))
                                    exact fun i hi2 => by have := hb i (by omega); omega
                                  | simp (disch := omega) only [if_pos, if_neg] at hE
                                    rw [show n = nc - (steps + 1) by omega] at hE
                                    refine z_wk (ls' := [some (zn a), some (zn c), some (zi f), some (zn v), some (zi ((size - 1 : Nat) : Int)), some (zi ((place + 1 : Nat) : Int)), some (zi ((steps + 1 : Nat) : Int)), none, none]) ⟨rfl, rfl, rfl, rfl, z_e (by omega), z_e (by omega), z_e (by omega), trivial⟩ (z_mem (M' := z_mup M (a + 1) (ku stk (size - 2) (zjoin (Y % 16) (stk (size - 2)) (stk (size - 1))))) (by first | rfl | simp only [show ((size : Int) + -1 - 1).toNat = size - 2 by omega, z_mupm]) (ih (size - 1) (place + 1) (ku stk (size - 2) (zjoin (Y % 16) (stk (size - 2)) (stk (size - 1)))) (steps + 1) (by omega) (by omega) (by omega) (by omega) ?_ hE))
                                    intro i hi2; simp only [ku]; split
                                    · have := zjoin_in (Y % 16) (stk (size - 2)) (stk (size - 1)); simp only [zBK] at this; omega
                                    · have := hb i (by omega); omega
                          · refine x_iload 171 rfl dX3_value_169 rfl ?_
                            refine x_bipush 173 rfl dX3_value_171 (by decide) ?_
                            refine x_icmp_ne 176 213 rfl dX3_value_173 (by decide) (fun c173 => ?_) (fun c173 => ?_)
                            · replace hF : Y % 16 ≠ 0 ∧ Y % 16 ≠ 1 ∧ Y % 16 ≠ 2 ∧ Y % 16 ≠ 11 ∧ Y % 16 ≠ 12 ∧ Y % 16 ≠ 13 := by omega
                              refine x_iload 215 rfl dX3_value_213 rfl ?_
                              refine x_iconst 216 rfl dX3_value_215 (by decide) ?_
                              refine x_icmp_ge 219 222 rfl dX3_value_216 (by decide) (fun c216 => ?_) (fun c216 => ?_)
                              · have hb1 := hb (size - 1) (by omega)
                                have hb2 := hb (size - 2) (by omega)
                                refine w_iinc 225 rfl dX3_value_222 rfl (by decide) (by omega) rfl (ls' := [_, _, _, _, _, _, _, _, _]) rfl (by decide) ?_
                                refine x_aload_n 226 rfl dX3_value_225 0 rfl rfl ?_
                                refine x_getr 229 rfl fX3_9 dX3_value_226 (mcl0 h) (mcs0 h) (by decide) (a + 1) rfl ?_
                                refine x_iload 231 rfl dX3_value_229 rfl ?_
                                refine x_iconst 232 rfl dX3_value_231 (by decide) ?_
                                refine y_isub 233 rfl dX3_value_232 (by omega) ?_
                                refine x_iload 235 rfl dX3_value_233 rfl ?_
                                refine x_aload_n 236 rfl dX3_value_235 0 rfl rfl ?_
                                refine x_getr 239 rfl fX3_9 dX3_value_236 (mcl0 h) (mcs0 h) (by decide) (a + 1) rfl ?_
                                refine x_iload 241 rfl dX3_value_239 rfl ?_
                                refine x_iconst 242 rfl dX3_value_241 (by decide) ?_
                                refine y_isub 243 rfl dX3_value_242 (by omega) ?_
                                refine x_iald 244 rfl dX3_value_243 (mcl1 h) (mcs1 h) (by omega) (by omega) ?_
                                try simp (disch := omega) only [z_up_ne, z_up_nk, z_up_eq, z_mup_ne, z_mup_eq, Int.reduceToNat, Int.toNat_natCast]
                                rw [show ((size : Int) + -1 - 1).toNat = size - 2 by omega]
                                refine x_i2l 245 rfl dX3_value_244 ?_
                                refine x_aload_n 246 rfl dX3_value_245 0 rfl rfl ?_
                                refine x_getr 249 rfl fX3_9 dX3_value_246 (mcl0 h) (mcs0 h) (by decide) (a + 1) rfl ?_
                                refine x_iload 251 rfl dX3_value_249 rfl ?_
                                refine x_iald 252 rfl dX3_value_251 (mcl1 h) (mcs1 h) (by omega) (by omega) ?_
                                try simp (disch := omega) only [z_up_ne, z_up_nk, z_up_eq, z_mup_ne, z_mup_eq, Int.reduceToNat, Int.toNat_natCast]
                                rw [show ((size : Int) + -1).toNat = size - 1 by omega]
                                refine x_i2l 253 rfl dX3_value_252 ?_
                                refine x_cSi 256 rfl lX3_16 dX3_value_253 (c_X3_joined (by omega) (by omega)) rfl rfl (Nat.le_of_ble_eq_true rfl) (fun r M1 hr1 => ?_)
                                obtain ⟨rfl, hM1⟩ := hr1
                                rw [hM1, hJ]
                                refine x_iast 257 rfl dX3_value_256 (mcl1 h) (mcs1 h) (by omega) (by omega) ?_
                                try rw [show ((size : Int) + -1 - 1).toNat = size - 2 by omega, z_mupm]
                                refine x_aload_n 258 rfl dX3_value_257 0 rfl rfl ?_
                                refine x_getr 261 rfl fX3_9 dX3_value_258 (mcl0 h) (mcs0 h) (by decide) (a + 1) rfl ?_
                                refine x_iload 263 rfl dX3_value_261 rfl ?_
                                refine x_iconst 264 rfl dX3_value_263 (by decide) ?_
                                refine y_isub 265 rfl dX3_value_264 (by omega) ?_
                                refine x_iald 266 rfl dX3_value_265 (mcl1 h) (mcs1 h) (by omega) (by omega) ?_
                                try simp (disch := omega) only [z_up_ne, z_up_nk, z_up_eq, z_mup_ne, z_mup_eq, Int.reduceToNat, Int.toNat_natCast]
                                try rw [show ((size : Int) + -1 - 1).toNat = size - 2 by omega]
                                try rw [ku_eq]
                                refine x_ldc (x := -2000000000) 268 rfl kX3_15 (by decide) dX3_value_266 ?_
                                refine x_icmp_ne 271 274 rfl dX3_value_268 (by decide) (fun c268 => ?_) (fun c268 => ?_)
                                · have c9 : ¬ zjoin (Y % 16) (stk (size - 2)) (stk (size - 1)) = zBK := by unfold zBK; first | exact c268 | (intro hh; exact c268 (by rw [show ((size : Int) + -1 - 1).toNat = size - 2 by omega]; simp [ku, z_mup, z_up, hh])) | (exfalso; omega)
                                  refine w_iinc 277 rfl dX3_value_274 rfl (by decide) (by omega) rfl (ls' := [_, _, _, _, _, _, _, _, _]) rfl (by decide) ?_
                                  refine x_goto 9 dX3_value_277 (by decide) ?_
                                  first
                                    | (exfalso; omega)
                                    | have e9 : Y % 16 = 1 := by omega
                                      simp (disch := omega) only [if_pos, if_neg] at hE
                                      rw [show n = nc - (steps + 1) by omega] at hE
                                      rw [show Y / 16 = W by omega] at hE
                                      refine z_wk (ls' := [some (zn a), some (zn c), some (zi f), some (zn v), some (zi ((size + 1 : Nat) : Int)), some (zi ((place + 1 : Nat) : Int)), some (zi ((steps + 1 : Nat) : Int)), none, none]) ⟨rfl, rfl, rfl, rfl, z_e (by omega), z_e (by omega), z_e (by omega), trivial⟩ (z_mem (M' := z_mup M (a + 1) (ku stk size W)) (by simp only [Int.toNat_natCast, z_mupm]) (ih (size + 1) (place + 1) (ku stk size W) (steps + 1) (by omega) (by omega) (by omega) (by omega) ?_ hE))
                                      intro i hi2; simp only [ku]; split
                                      · omega
                                      · have := hb i (by omega); omega
                                    | have e9 : Y % 16 = 2 := by omega
                                      simp (disch := omega) only [if_pos, if_neg] at hE
                                      rw [show n = nc - (steps + 1) by omega] at hE
                                      rw [show Y / 16 = W by omega] at hE
                                      refine z_wk (ls' := [some (zn a), some (zn c), some (zi f), some (zn v), some (zi ((size + 1 : Nat) : Int)), some (zi ((place + 1 : Nat) : Int)), some (zi ((steps + 1 : Nat) : Int)), none, none]) ⟨rfl, rfl, rfl, rfl, z_e (by omega), z_e (by omega), z_e (by omega), trivial⟩ (z_mem (M' := z_mup M (a + 1) (ku stk size (M v W.toNat))) (by simp only [Int.toNat_natCast, z_mupm]) (ih (size + 1) (place + 1) (ku stk size (M v W.toNat)) (steps + 1) (by omega) (by omega) (by omega) (by omega) ?_ hE))
                                      intro i hi2; simp only [ku]; split
                                      · omega
                                      · have := hb i (by omega); omega
                                    | have e9 : Y % 16 = 11 := by omega
                                      simp (disch := omega) only [if_pos, if_neg] at hE
                                      rw [show n = nc - (steps + 1) by omega] at hE
                                      refine z_wk (ls' := [some (zn a), some (zn c), some (zi f), some (zn v), some (zi ((size : Nat) : Int)), some (zi ((place + 1 : Nat) : Int)), some (zi ((steps + 1 : Nat) : Int)), none, none]) ⟨rfl, rfl, rfl, rfl, z_e (by omega), z_e (by omega), z_e (by omega), trivial⟩ (z_mem (M' := z_mup M (a + 1) (ku stk (size - 1) (1 - stk (size - 1)))) (by simp only [show ((size : Int) - 1).toNat = size - 1 by omega, z_mupm]) (ih (size) (place + 1) (ku stk (size - 1) (1 - stk (size - 1))) (steps + 1) (by omega) (by omega) (by omega) (by omega) ?_ hE))
                                      intro i hi2; simp only [ku]; split
                                      · omega
                                      · have := hb i (by omega); omega
                                    | have e9 : Y % 16 = 12 ∨ Y % 16 = 13 := by omega
                                      simp (disch := omega) only [if_pos, if_neg] at hE
                                      rw [show n = nc - (steps + 1) by omega] at hE
                                      rw [show Y / 16 = W by omega] at hE
                                      refine z_wk (ls' := [some (zn a), some (zn c), some (zi f), some (zn v), some (zi ((size : Nat) : Int)), some (zi ((W.toNat : Nat) : Int)), some (zi ((steps + 1 : Nat) : Int)), none, none]) ⟨rfl, rfl, rfl, rfl, z_e (by omega), z_e (by omega), z_e (by omega), trivial⟩ (z_mem (M' := z_mup M (a + 1) (stk)) rfl (ih (size) (W.toNat) (stk) (steps + 1) (by omega) (by omega) (by omega) (by omega) ?_ hE))
                                      exact fun i hi2 => by have := hb i hi2; omega
                                    | have e9 : Y % 16 = 12 ∨ Y % 16 = 13 := by omega
                                      simp (disch := omega) only [if_pos, if_neg] at hE
                                      rw [show n = nc - (steps + 1) by omega] at hE
                                      refine z_wk (ls' := [some (zn a), some (zn c), some (zi f), some (zn v), some (zi ((size - 1 : Nat) : Int)), some (zi ((place + 1 : Nat) : Int)), some (zi ((steps + 1 : Nat) : Int)), none, none]) ⟨rfl, rfl, rfl, rfl, z_e (by omega), z_e (by omega), z_e (by omega), trivial⟩ (z_mem (M' := z_mup M (a + 1) (stk)) rfl (ih (size - 1) (place + 1) (stk) (steps + 1) (by omega) (by omega) (by omega) (by omega) ?_ hE))
                                      exact fun i hi2 => by have := hb i (by omega); omega
                                    | simp (disch := omega) only [if_pos, if_neg] at hE
                                      rw [show n = nc - (steps + 1) by omega] at hE
                                      refine z_wk (ls' := [some (zn a), some (zn c), some (zi f), some (zn v), some (zi ((size - 1 : Nat) : Int)), some (zi ((place + 1 : Nat) : Int)), some (zi ((steps + 1 : Nat) : Int)), none, none]) ⟨rfl, rfl, rfl, rfl, z_e (by omega), z_e (by omega), z_e (by omega), trivial⟩ (z_mem (M' := z_mup M (a + 1) (ku stk (size - 2) (zjoin (Y % 16) (stk (size - 2)) (stk (size - 1))))) (by first | rfl | simp only [show ((size : Int) + -1 - 1).toNat = size - 2 by omega, z_mupm]) (ih (size - 1) (place + 1) (ku stk (size - 2) (zjoin (Y % 16) (stk (size - 2)) (stk (size - 1)))) (steps + 1) (by omega) (by omega) (by omega) (by omega) ?_ hE))
                                      intro i hi2; simp only [ku]; split
                                      · have := zjoin_in (Y % 16) (stk (size - 2)) (stk (size - 1)); simp only [zBK] at this; omega
                                      · have := hb i (by omega); omega
                                · refine x_ldc (x := -2000000000) 273 rfl kX3_15 (by decide) dX3_value_271 ?_
                                  refine x_reti dX3_value_273 rfl ?_
                                  first
                                    | (simp (disch := omega) only [if_pos, if_neg] at hE; exact ⟨by rw [hR, ← hE]; rfl, _, rfl⟩)
                                    | (simp (disch := omega) only [if_pos, if_neg] at hE; rw [if_pos (by exact c268)] at hE; exact ⟨by rw [hR, ← hE]; rfl, _, rfl⟩)
                                    | (simp (disch := omega) only [if_pos, if_neg] at hE; exact ⟨by rw [hR, ← hE], _, rfl⟩)
                                    | (exfalso; omega)
                                    | refine ⟨?_, _, rfl⟩
                                      rw [hR, ← hE]
                                      simp only [zBK]
                                      repeat' split
                                      all_goals first | rfl | omega | (exfalso; omega)
                              · refine x_ldc (x := -2000000000) 221 rfl kX3_15 (by decide) dX3_value_219 ?_
                                refine x_reti dX3_value_221 rfl ?_
                                first
                                  | (simp (disch := omega) only [if_pos, if_neg] at hE; exact ⟨by rw [hR, ← hE]; rfl, _, rfl⟩)
                                  | (simp (disch := omega) only [if_pos, if_neg] at hE; rw [if_pos (by exact c268)] at hE; exact ⟨by rw [hR, ← hE]; rfl, _, rfl⟩)
                                  | (simp (disch := omega) only [if_pos, if_neg] at hE; exact ⟨by rw [hR, ← hE], _, rfl⟩)
                                  | (exfalso; omega)
                                  | refine ⟨?_, _, rfl⟩
                                    rw [hR, ← hE]
                                    simp only [zBK]
                                    repeat' split
                                    all_goals first | rfl | omega | (exfalso; omega)
                            · replace hF : Y % 16 = 13 ∧ Y / 16 = W ∧ 0 ≤ W := by omega
                              refine x_aload_n 177 rfl dX3_value_176 0 rfl rfl ?_
                              refine x_getr 180 rfl fX3_9 dX3_value_177 (mcl0 h) (mcs0 h) (by decide) (a + 1) rfl ?_
                              refine x_iload 182 rfl dX3_value_180 rfl ?_
                              refine x_iconst 183 rfl dX3_value_182 (by decide) ?_
                              refine y_isub 184 rfl dX3_value_183 (by omega) ?_
                              refine x_iald 185 rfl dX3_value_184 (mcl1 h) (mcs1 h) (by omega) (by omega) ?_
                              try simp (disch := omega) only [z_up_ne, z_up_nk, z_up_eq, z_mup_ne, z_mup_eq, Int.reduceToNat, Int.toNat_natCast]
                              rw [show ((size : Int) - 1).toNat = size - 1 by omega]
                              refine x_iload 187 rfl dX3_value_185 rfl ?_
                              refine x_bipush 189 rfl dX3_value_187 (by decide) ?_
                              refine x_icmp_ne 192 196 rfl dX3_value_189 (by decide) (fun c189 => ?_) (fun c189 => ?_)
                              · refine x_iconst 197 rfl dX3_value_196 (by decide) ?_
                                refine x_icmp_ne 200 207 rfl dX3_value_197 (by decide) (fun c197 => ?_) (fun c197 => ?_)
                                · refine w_iinc 210 rfl dX3_value_207 rfl (by decide) (by omega) rfl (ls' := [_, _, _, _, _, _, _, _, _]) rfl (by decide) ?_
                                  refine x_goto 274 dX3_value_210 (by decide) ?_
                                  refine w_iinc 277 rfl dX3_value_274 rfl (by decide) (by omega) rfl (ls' := [_, _, _, _, _, _, _, _, _]) rfl (by decide) ?_
                                  refine x_goto 9 dX3_value_277 (by decide) ?_
                                  first
                                    | (exfalso; omega)
                                    | have e9 : Y % 16 = 1 := by omega
                                      simp (disch := omega) only [if_pos, if_neg] at hE
                                      rw [show n = nc - (steps + 1) by omega] at hE
                                      rw [show Y / 16 = W by omega] at hE
                                      refine z_wk (ls' := [some (zn a), some (zn c), some (zi f), some (zn v), some (zi ((size + 1 : Nat) : Int)), some (zi ((place + 1 : Nat) : Int)), some (zi ((steps + 1 : Nat) : Int)), none, none]) ⟨rfl, rfl, rfl, rfl, z_e (by omega), z_e (by omega), z_e (by omega), trivial⟩ (z_mem (M' := z_mup M (a + 1) (ku stk size W)) (by simp only [Int.toNat_natCast, z_mupm]) (ih (size + 1) (place + 1) (ku stk size W) (steps + 1) (by omega) (by omega) (by omega) (by omega) ?_ hE))
                                      intro i hi2; simp only [ku]; split
                                      · omega
                                      · have := hb i (by omega); omega
                                    | have e9 : Y % 16 = 2 := by omega
                                      simp (disch := omega) only [if_pos, if_neg] at hE
                                      rw [show n = nc - (steps + 1) by omega] at hE
                                      rw [show Y / 16 = W by omega] at hE
                                      refine z_wk (ls' := [some (zn a), some (zn c), some (zi f), some (zn v), some (zi ((size + 1 : Nat) : Int)), some (zi ((place + 1 : Nat) : Int)), some (zi ((steps + 1 : Nat) : Int)), none, none]) ⟨rfl, rfl, rfl, rfl, z_e (by omega), z_e (by omega), z_e (by omega), trivial⟩ (z_mem (M' := z_mup M (a + 1) (ku stk size (M v W.toNat))) (by simp only [Int.toNat_natCast, z_mupm]) (ih (size + 1) (place + 1) (ku stk size (M v W.toNat)) (steps + 1) (by omega) (by omega) (by omega) (by omega) ?_ hE))
                                      intro i hi2; simp only [ku]; split
                                      · omega
                                      · have := hb i (by omega); omega
                                    | have e9 : Y % 16 = 11 := by omega
                                      simp (disch := omega) only [if_pos, if_neg] at hE
                                      rw [show n = nc - (steps + 1) by omega] at hE
                                      refine z_wk (ls' := [some (zn a), some (zn c), some (zi f), some (zn v), some (zi ((size : Nat) : Int)), some (zi ((place + 1 : Nat) : Int)), some (zi ((steps + 1 : Nat) : Int)), none, none]) ⟨rfl, rfl, rfl, rfl, z_e (by omega), z_e (by omega), z_e (by omega), trivial⟩ (z_mem (M' := z_mup M (a + 1) (ku stk (size - 1) (1 - stk (size - 1)))) (by simp only [show ((size : Int) - 1).toNat = size - 1 by omega, z_mupm]) (ih (size) (place + 1) (ku stk (size - 1) (1 - stk (size - 1))) (steps + 1) (by omega) (by omega) (by omega) (by omega) ?_ hE))
                                      intro i hi2; simp only [ku]; split
                                      · omega
                                      · have := hb i (by omega); omega
                                    | have e9 : Y % 16 = 12 ∨ Y % 16 = 13 := by omega
                                      simp (disch := omega) only [if_pos, if_neg] at hE
                                      rw [show n = nc - (steps + 1) by omega] at hE
                                      rw [show Y / 16 = W by omega] at hE
                                      refine z_wk (ls' := [some (zn a), some (zn c), some (zi f), some (zn v), some (zi ((size : Nat) : Int)), some (zi ((W.toNat : Nat) : Int)), some (zi ((steps + 1 : Nat) : Int)), none, none]) ⟨rfl, rfl, rfl, rfl, z_e (by omega), z_e (by omega), z_e (by omega), trivial⟩ (z_mem (M' := z_mup M (a + 1) (stk)) rfl (ih (size) (W.toNat) (stk) (steps + 1) (by omega) (by omega) (by omega) (by omega) ?_ hE))
                                      exact fun i hi2 => by have := hb i hi2; omega
                                    | have e9 : Y % 16 = 12 ∨ Y % 16 = 13 := by omega
                                      simp (disch := omega) only [if_pos, if_neg] at hE
                                      rw [show n = nc - (steps + 1) by omega] at hE
                                      refine z_wk (ls' := [some (zn a), some (zn c), some (zi f), some (zn v), some (zi ((size - 1 : Nat) : Int)), some (zi ((place + 1 : Nat) : Int)), some (zi ((steps + 1 : Nat) : Int)), none, none]) ⟨rfl, rfl, rfl, rfl, z_e (by omega), z_e (by omega), z_e (by omega), trivial⟩ (z_mem (M' := z_mup M (a + 1) (stk)) rfl (ih (size - 1) (place + 1) (stk) (steps + 1) (by omega) (by omega) (by omega) (by omega) ?_ hE))
                                      exact fun i hi2 => by have := hb i (by omega); omega
                                    | simp (disch := omega) only [if_pos, if_neg] at hE
                                      rw [show n = nc - (steps + 1) by omega] at hE
                                      refine z_wk (ls' := [some (zn a), some (zn c), some (zi f), some (zn v), some (zi ((size - 1 : Nat) : Int)), some (zi ((place + 1 : Nat) : Int)), some (zi ((steps + 1 : Nat) : Int)), none, none]) ⟨rfl, rfl, rfl, rfl, z_e (by omega), z_e (by omega), z_e (by omega), trivial⟩ (z_mem (M' := z_mup M (a + 1) (ku stk (size - 2) (zjoin (Y % 16) (stk (size - 2)) (stk (size - 1))))) (by first | rfl | simp only [show ((size : Int) + -1 - 1).toNat = size - 2 by omega, z_mupm]) (ih (size - 1) (place + 1) (ku stk (size - 2) (zjoin (Y % 16) (stk (size - 2)) (stk (size - 1)))) (steps + 1) (by omega) (by omega) (by omega) (by omega) ?_ hE))
                                      intro i hi2; simp only [ku]; split
                                      · have := zjoin_in (Y % 16) (stk (size - 2)) (stk (size - 1)); simp only [zBK] at this; omega
                                      · have := hb i (by omega); omega
                                · refine x_iload 202 rfl dX3_value_200 rfl ?_
                                  refine y_istore 204 rfl dX3_value_202 rfl (ls' := [_, _, _, _, _, _, _, _, _]) rfl (by decide) ?_
                                  refine x_goto 274 dX3_value_204 (by decide) ?_
                                  refine w_iinc 277 rfl dX3_value_274 rfl (by decide) (by omega) rfl (ls' := [_, _, _, _, _, _, _, _, _]) rfl (by decide) ?_
                                  refine x_goto 9 dX3_value_277 (by decide) ?_
                                  first
                                    | (exfalso; omega)
                                    | have e9 : Y % 16 = 1 := by omega
                                      simp (disch := omega) only [if_pos, if_neg] at hE
                                      rw [show n = nc - (steps + 1) by omega] at hE
                                      rw [show Y / 16 = W by omega] at hE
                                      refine z_wk (ls' := [some (zn a), some (zn c), some (zi f), some (zn v), some (zi ((size + 1 : Nat) : Int)), some (zi ((place + 1 : Nat) : Int)), some (zi ((steps + 1 : Nat) : Int)), none, none]) ⟨rfl, rfl, rfl, rfl, z_e (by omega), z_e (by omega), z_e (by omega), trivial⟩ (z_mem (M' := z_mup M (a + 1) (ku stk size W)) (by simp only [Int.toNat_natCast, z_mupm]) (ih (size + 1) (place + 1) (ku stk size W) (steps + 1) (by omega) (by omega) (by omega) (by omega) ?_ hE))
                                      intro i hi2; simp only [ku]; split
                                      · omega
                                      · have := hb i (by omega); omega
                                    | have e9 : Y % 16 = 2 := by omega
                                      simp (disch := omega) only [if_pos, if_neg] at hE
                                      rw [show n = nc - (steps + 1) by omega] at hE
                                      rw [show Y / 16 = W by omega] at hE
                                      refine z_wk (ls' := [some (zn a), some (zn c), some (zi f), some (zn v), some (zi ((size + 1 : Nat) : Int)), some (zi ((place + 1 : Nat) : Int)), some (zi ((steps + 1 : Nat) : Int)), none, none]) ⟨rfl, rfl, rfl, rfl, z_e (by omega), z_e (by omega), z_e (by omega), trivial⟩ (z_mem (M' := z_mup M (a + 1) (ku stk size (M v W.toNat))) (by simp only [Int.toNat_natCast, z_mupm]) (ih (size + 1) (place + 1) (ku stk size (M v W.toNat)) (steps + 1) (by omega) (by omega) (by omega) (by omega) ?_ hE))
                                      intro i hi2; simp only [ku]; split
                                      · omega
                                      · have := hb i (by omega); omega
                                    | have e9 : Y % 16 = 11 := by omega
                                      simp (disch := omega) only [if_pos, if_neg] at hE
                                      rw [show n = nc - (steps + 1) by omega] at hE
                                      refine z_wk (ls' := [some (zn a), some (zn c), some (zi f), some (zn v), some (zi ((size : Nat) : Int)), some (zi ((place + 1 : Nat) : Int)), some (zi ((steps + 1 : Nat) : Int)), none, none]) ⟨rfl, rfl, rfl, rfl, z_e (by omega), z_e (by omega), z_e (by omega), trivial⟩ (z_mem (M' := z_mup M (a + 1) (ku stk (size - 1) (1 - stk (size - 1)))) (by simp only [show ((size : Int) - 1).toNat = size - 1 by omega, z_mupm]) (ih (size) (place + 1) (ku stk (size - 1) (1 - stk (size - 1))) (steps + 1) (by omega) (by omega) (by omega) (by omega) ?_ hE))
                                      intro i hi2; simp only [ku]; split
                                      · omega
                                      · have := hb i (by omega); omega
                                    | have e9 : Y % 16 = 12 ∨ Y % 16 = 13 := by omega
                                      simp (disch := omega) only [if_pos, if_neg] at hE
                                      rw [show n = nc - (steps + 1) by omega] at hE
                                      rw [show Y / 16 = W by omega] at hE
                                      refine z_wk (ls' := [some (zn a), some (zn c), some (zi f), some (zn v), some (zi ((size : Nat) : Int)), some (zi ((W.toNat : Nat) : Int)), some (zi ((steps + 1 : Nat) : Int)), none, none]) ⟨rfl, rfl, rfl, rfl, z_e (by omega), z_e (by omega), z_e (by omega), trivial⟩ (z_mem (M' := z_mup M (a + 1) (stk)) rfl (ih (size) (W.toNat) (stk) (steps + 1) (by omega) (by omega) (by omega) (by omega) ?_ hE))
                                      exact fun i hi2 => by have := hb i hi2; omega
                                    | have e9 : Y % 16 = 12 ∨ Y % 16 = 13 := by omega
                                      simp (disch := omega) only [if_pos, if_neg] at hE
                                      rw [show n = nc - (steps + 1) by omega] at hE
                                      refine z_wk (ls' := [some (zn a), some (zn c), some (zi f), some (zn v), some (zi ((size - 1 : Nat) : Int)), some (zi ((place + 1 : Nat) : Int)), some (zi ((steps + 1 : Nat) : Int)), none, none]) ⟨rfl, rfl, rfl, rfl, z_e (by omega), z_e (by omega), z_e (by omega), trivial⟩ (z_mem (M' := z_mup M (a + 1) (stk)) rfl (ih (size - 1) (place + 1) (stk) (steps + 1) (by omega) (by omega) (by omega) (by omega) ?_ hE))
                                      exact fun i hi2 => by have := hb i (by omega); omega
                                    | simp (disch := omega) only [if_pos, if_neg] at hE
                                      rw [show n = nc - (steps + 1) by omega] at hE
                                      refine z_wk (ls' := [some (zn a), some (zn c), some (zi f), some (zn v), some (zi ((size - 1 : Nat) : Int)), some (zi ((place + 1 : Nat) : Int)), some (zi ((steps + 1 : Nat) : Int)), none, none]) ⟨rfl, rfl, rfl, rfl, z_e (by omega), z_e (by omega), z_e (by omega), trivial⟩ (z_mem (M' := z_mup M (a + 1) (ku stk (size - 2) (zjoin (Y % 16) (stk (size - 2)) (stk (size - 1))))) (by first | rfl | simp only [show ((size : Int) + -1 - 1).toNat = size - 2 by omega, z_mupm]) (ih (size - 1) (place + 1) (ku stk (size - 2) (zjoin (Y % 16) (stk (size - 2)) (stk (size - 1)))) (steps + 1) (by omega) (by omega) (by omega) (by omega) ?_ hE))
                                      intro i hi2; simp only [ku]; split
                                      · have := zjoin_in (Y % 16) (stk (size - 2)) (stk (size - 1)); simp only [zBK] at this; omega
                                      · have := hb i (by omega); omega
                              · exfalso; omega
                        · replace hF : Y % 16 = 11 := by omega
                          refine x_aload_n 140 rfl dX3_value_139 0 rfl rfl ?_
                          refine x_getr 143 rfl fX3_9 dX3_value_140 (mcl0 h) (mcs0 h) (by decide) (a + 1) rfl ?_
                          refine x_iload 145 rfl dX3_value_143 rfl ?_
                          refine x_iconst 146 rfl dX3_value_145 (by decide) ?_
                          refine y_isub 147 rfl dX3_value_146 (by omega) ?_
                          refine x_iconst 148 rfl dX3_value_147 (by decide) ?_
                          refine x_aload_n 149 rfl dX3_value_148 0 rfl rfl ?_
                          refine x_getr 152 rfl fX3_9 dX3_value_149 (mcl0 h) (mcs0 h) (by decide) (a + 1) rfl ?_
                          refine x_iload 154 rfl dX3_value_152 rfl ?_
                          refine x_iconst 155 rfl dX3_value_154 (by decide) ?_
                          refine y_isub 156 rfl dX3_value_155 (by omega) ?_
                          refine x_iald 157 rfl dX3_value_156 (mcl1 h) (mcs1 h) (by omega) (by omega) ?_
                          try simp (disch := omega) only [z_up_ne, z_up_nk, z_up_eq, z_mup_ne, z_mup_eq, Int.reduceToNat, Int.toNat_natCast]
                          rw [show ((size : Int) - 1).toNat = size - 1 by omega]
                          refine y_isub 158 rfl dX3_value_157 (by omega) ?_
                          refine x_iast 159 rfl dX3_value_158 (mcl1 h) (mcs1 h) (by omega) (by omega) ?_
                          refine x_goto 274 dX3_value_159 (by decide) ?_
                          refine w_iinc 277 rfl dX3_value_274 rfl (by decide) (by omega) rfl (ls' := [_, _, _, _, _, _, _, _, _]) rfl (by decide) ?_
                          refine x_goto 9 dX3_value_277 (by decide) ?_
                          first
                            | (exfalso; omega)
                            | have e9 : Y % 16 = 1 := by omega
                              simp (disch := omega) only [if_pos, if_neg] at hE
                              rw [show n = nc - (steps + 1) by omega] at hE
                              rw [show Y / 16 = W by omega] at hE
                              refine z_wk (ls' := [some (zn a), some (zn c), some (zi f), some (zn v), some (zi ((size + 1 : Nat) : Int)), some (zi ((place + 1 : Nat) : Int)), some (zi ((steps + 1 : Nat) : Int)), none, none]) ⟨rfl, rfl, rfl, rfl, z_e (by omega), z_e (by omega), z_e (by omega), trivial⟩ (z_mem (M' := z_mup M (a + 1) (ku stk size W)) (by simp only [Int.toNat_natCast, z_mupm]) (ih (size + 1) (place + 1) (ku stk size W) (steps + 1) (by omega) (by omega) (by omega) (by omega) ?_ hE))
                              intro i hi2; simp only [ku]; split
                              · omega
                              · have := hb i (by omega); omega
                            | have e9 : Y % 16 = 2 := by omega
                              simp (disch := omega) only [if_pos, if_neg] at hE
                              rw [show n = nc - (steps + 1) by omega] at hE
                              rw [show Y / 16 = W by omega] at hE
                              refine z_wk (ls' := [some (zn a), some (zn c), some (zi f), some (zn v), some (zi ((size + 1 : Nat) : Int)), some (zi ((place + 1 : Nat) : Int)), some (zi ((steps + 1 : Nat) : Int)), none, none]) ⟨rfl, rfl, rfl, rfl, z_e (by omega), z_e (by omega), z_e (by omega), trivial⟩ (z_mem (M' := z_mup M (a + 1) (ku stk size (M v W.toNat))) (by simp only [Int.toNat_natCast, z_mupm]) (ih (size + 1) (place + 1) (ku stk size (M v W.toNat)) (steps + 1) (by omega) (by omega) (by omega) (by omega) ?_ hE))
                              intro i hi2; simp only [ku]; split
                              · omega
                              · have := hb i (by omega); omega
                            | have e9 : Y % 16 = 11 := by omega
                              simp (disch := omega) only [if_pos, if_neg] at hE
                              rw [show n = nc - (steps + 1) by omega] at hE
                              refine z_wk (ls' := [some (zn a), some (zn c), some (zi f), some (zn v), some (zi ((size : Nat) : Int)), some (zi ((place + 1 : Nat) : Int)), some (zi ((steps + 1 : Nat) : Int)), none, none]) ⟨rfl, rfl, rfl, rfl, z_e (by omega), z_e (by omega), z_e (by omega), trivial⟩ (z_mem (M' := z_mup M (a + 1) (ku stk (size - 1) (1 - stk (size - 1)))) (by simp only [show ((size : Int) - 1).toNat = size - 1 by omega, z_mupm]) (ih (size) (place + 1) (ku stk (size - 1) (1 - stk (size - 1))) (steps + 1) (by omega) (by omega) (by omega) (by omega) ?_ hE))
                              intro i hi2; simp only [ku]; split
                              · omega
                              · have := hb i (by omega); omega
                            | have e9 : Y % 16 = 12 ∨ Y % 16 = 13 := by omega
                              simp (disch := omega) only [if_pos, if_neg] at hE
                              rw [show n = nc - (steps + 1) by omega] at hE
                              rw [show Y / 16 = W by omega] at hE
                              refine z_wk (ls' := [some (zn a), some (zn c), some (zi f), some (zn v), some (zi ((size : Nat) : Int)), some (zi ((W.toNat : Nat) : Int)), some (zi ((steps + 1 : Nat) : Int)), none, none]) ⟨rfl, rfl, rfl, rfl, z_e (by omega), z_e (by omega), z_e (by omega), trivial⟩ (z_mem (M' := z_mup M (a + 1) (stk)) rfl (ih (size) (W.toNat) (stk) (steps + 1) (by omega) (by omega) (by omega) (by omega) ?_ hE))
                              exact fun i hi2 => by have := hb i hi2; omega
                            | have e9 : Y % 16 = 12 ∨ Y % 16 = 13 := by omega
                              simp (disch := omega) only [if_pos, if_neg] at hE
                              rw [show n = nc - (steps + 1) by omega] at hE
                              refine z_wk (ls' := [some (zn a), some (zn c), some (zi f), some (zn v), some (zi ((size - 1 : Nat) : Int)), some (zi ((place + 1 : Nat) : Int)), some (zi ((steps + 1 : Nat) : Int)), none, none]) ⟨rfl, rfl, rfl, rfl, z_e (by omega), z_e (by omega), z_e (by omega), trivial⟩ (z_mem (M' := z_mup M (a + 1) (stk)) rfl (ih (size - 1) (place + 1) (stk) (steps + 1) (by omega) (by omega) (by omega) (by omega) ?_ hE))
                              exact fun i hi2 => by have := hb i (by omega); omega
                            | simp (disch := omega) only [if_pos, if_neg] at hE
                              rw [show n = nc - (steps + 1) by omega] at hE
                              refine z_wk (ls' := [some (zn a), some (zn c), some (zi f), some (zn v), some (zi ((size - 1 : Nat) : Int)), some (zi ((place + 1 : Nat) : Int)), some (zi ((steps + 1 : Nat) : Int)), none, none]) ⟨rfl, rfl, rfl, rfl, z_e (by omega), z_e (by omega), z_e (by omega), trivial⟩ (z_mem (M' := z_mup M (a + 1) (ku stk (size - 2) (zjoin (Y % 16) (stk (size - 2)) (stk (size - 1))))) (by first | rfl | simp only [show ((size : Int) + -1 - 1).toNat = size - 2 by omega, z_mupm]) (ih (size - 1) (place + 1) (ku stk (size - 2) (zjoin (Y % 16) (stk (size - 2)) (stk (size - 1)))) (steps + 1) (by omega) (by omega) (by omega) (by omega) ?_ hE))
                              intro i hi2; simp only [ku]; split
                              · have := zjoin_in (Y % 16) (stk (size - 2)) (stk (size - 1)); simp only [zBK] at this; omega
                              · have := hb i (by omega); omega
                      · refine x_ldc (x := -2000000000) 131 rfl kX3_15 (by decide) dX3_value_129 ?_
                        refine x_reti dX3_value_131 rfl ?_
                        first
                          | (simp (disch := omega) only [if_pos, if_neg] at hE; exact ⟨by rw [hR, ← hE]; rfl, _, rfl⟩)
                          | (simp (disch := omega) only [if_pos, if_neg] at hE; rw [if_pos (by exact c268)] at hE; exact ⟨by rw [hR, ← hE]; rfl, _, rfl⟩)
                          | (simp (disch := omega) only [if_pos, if_neg] at hE; exact ⟨by rw [hR, ← hE], _, rfl⟩)
                          | (exfalso; omega)
                          | refine ⟨?_, _, rfl⟩
                            rw [hR, ← hE]
                            simp only [zBK]
                            repeat' split
                            all_goals first | rfl | omega | (exfalso; omega)
                    · exfalso; omega
                · replace hF : Y % 16 = 2 ∧ Y / 16 = W ∧ 0 ≤ W := by omega
                  refine x_iload 75 rfl dX3_value_73 rfl ?_
                  refine x_aload_n 76 rfl dX3_value_75 3 rfl rfl ?_
                  refine x_alen (t := 0) 77 rfl dX3_value_76 hv hSv (Or.inl rfl) (by decide) ?_
                  refine x_icmp_lt 80 83 rfl dX3_value_77 (by decide) (fun c77 => ?_) (fun c77 => ?_)
                  · refine x_iload 85 rfl dX3_value_83 rfl ?_
                    refine x_iconst 86 rfl dX3_value_85 (by decide) ?_
                    refine x_icmp_eq 89 95 rfl dX3_value_86 (by decide) (fun c86 => ?_) (fun c86 => ?_)
                    · exfalso; omega
                    · refine x_iload 91 rfl dX3_value_89 rfl ?_
                      refine x_iconst 92 rfl dX3_value_91 (by decide) ?_
                      refine x_icmp_ne 95 123 rfl dX3_value_92 (by decide) (fun c92 => ?_) (fun c92 => ?_)
                      · exfalso; omega
                      · refine x_aload_n 96 rfl dX3_value_95 0 rfl rfl ?_
                        refine x_getr 99 rfl fX3_9 dX3_value_96 (mcl0 h) (mcs0 h) (by decide) (a + 1) rfl ?_
                        refine x_iload 101 rfl dX3_value_99 rfl ?_
                        refine x_iload 103 rfl dX3_value_101 rfl ?_
                        refine x_iconst 104 rfl dX3_value_103 (by decide) ?_
                        refine x_icmp_ne 107 112 rfl dX3_value_104 (by decide) (fun c104 => ?_) (fun c104 => ?_)
                        · refine x_aload_n 113 rfl dX3_value_112 3 rfl rfl ?_
                          refine x_iload 115 rfl dX3_value_113 rfl ?_
                          refine x_iald 116 rfl dX3_value_115 hv hSv (by omega) (by omega) ?_
                          try simp (disch := omega) only [z_up_ne, z_up_nk, z_up_eq, z_mup_ne, z_mup_eq, Int.reduceToNat, Int.toNat_natCast]
                          have hv1 := hV W.toNat (by omega)
                          refine x_iast 117 rfl dX3_value_116 (mcl1 h) (mcs1 h) (by omega) (by omega) ?_
                          refine w_iinc 120 rfl dX3_value_117 rfl (by decide) (by omega) rfl (ls' := [_, _, _, _, _, _, _, _, _]) rfl (by decide) ?_
                          refine x_goto 274 dX3_value_120 (by decide) ?_
                          refine w_iinc 277 rfl dX3_value_274 rfl (by decide) (by omega) rfl (ls' := [_, _, _, _, _, _, _, _, _]) rfl (by decide) ?_
                          refine x_goto 9 dX3_value_277 (by decide) ?_
                          first
                            | (exfalso; omega)
                            | have e9 : Y % 16 = 1 := by omega
                              simp (disch := omega) only [if_pos, if_neg] at hE
                              rw [show n = nc - (steps + 1) by omega] at hE
                              rw [show Y / 16 = W by omega] at hE
                              refine z_wk (ls' := [some (zn a), some (zn c), some (zi f), some (zn v), some (zi ((size + 1 : Nat) : Int)), some (zi ((place + 1 : Nat) : Int)), some (zi ((steps + 1 : Nat) : Int)), none, none]) ⟨rfl, rfl, rfl, rfl, z_e (by omega), z_e (by omega), z_e (by omega), trivial⟩ (z_mem (M' := z_mup M (a + 1) (ku stk size W)) (by simp only [Int.toNat_natCast, z_mupm]) (ih (size + 1) (place + 1) (ku stk size W) (steps + 1) (by omega) (by omega) (by omega) (by omega) ?_ hE))
                              intro i hi2; simp only [ku]; split
                              · omega
                              · have := hb i (by omega); omega
                            | have e9 : Y % 16 = 2 := by omega
                              simp (disch := omega) only [if_pos, if_neg] at hE
                              rw [show n = nc - (steps + 1) by omega] at hE
                              rw [show Y / 16 = W by omega] at hE
                              refine z_wk (ls' := [some (zn a), some (zn c), some (zi f), some (zn v), some (zi ((size + 1 : Nat) : Int)), some (zi ((place + 1 : Nat) : Int)), some (zi ((steps + 1 : Nat) : Int)), none, none]) ⟨rfl, rfl, rfl, rfl, z_e (by omega), z_e (by omega), z_e (by omega), trivial⟩ (z_mem (M' := z_mup M (a + 1) (ku stk size (M v W.toNat))) (by simp only [Int.toNat_natCast, z_mupm]) (ih (size + 1) (place + 1) (ku stk size (M v W.toNat)) (steps + 1) (by omega) (by omega) (by omega) (by omega) ?_ hE))
                              intro i hi2; simp only [ku]; split
                              · omega
                              · have := hb i (by omega); omega
                            | have e9 : Y % 16 = 11 := by omega
                              simp (disch := omega) only [if_pos, if_neg] at hE
                              rw [show n = nc - (steps + 1) by omega] at hE
                              refine z_wk (ls' := [some (zn a), some (zn c), some (zi f), some (zn v), some (zi ((size : Nat) : Int)), some (zi ((place + 1 : Nat) : Int)), some (zi ((steps + 1 : Nat) : Int)), none, none]) ⟨rfl, rfl, rfl, rfl, z_e (by omega), z_e (by omega), z_e (by omega), trivial⟩ (z_mem (M' := z_mup M (a + 1) (ku stk (size - 1) (1 - stk (size - 1)))) (by simp only [show ((size : Int) - 1).toNat = size - 1 by omega, z_mupm]) (ih (size) (place + 1) (ku stk (size - 1) (1 - stk (size - 1))) (steps + 1) (by omega) (by omega) (by omega) (by omega) ?_ hE))
                              intro i hi2; simp only [ku]; split
                              · omega
                              · have := hb i (by omega); omega
                            | have e9 : Y % 16 = 12 ∨ Y % 16 = 13 := by omega
                              simp (disch := omega) only [if_pos, if_neg] at hE
                              rw [show n = nc - (steps + 1) by omega] at hE
                              rw [show Y / 16 = W by omega] at hE
                              refine z_wk (ls' := [some (zn a), some (zn c), some (zi f), some (zn v), some (zi ((size : Nat) : Int)), some (zi ((W.toNat : Nat) : Int)), some (zi ((steps + 1 : Nat) : Int)), none, none]) ⟨rfl, rfl, rfl, rfl, z_e (by omega), z_e (by omega), z_e (by omega), trivial⟩ (z_mem (M' := z_mup M (a + 1) (stk)) rfl (ih (size) (W.toNat) (stk) (steps + 1) (by omega) (by omega) (by omega) (by omega) ?_ hE))
                              exact fun i hi2 => by have := hb i hi2; omega
                            | have e9 : Y % 16 = 12 ∨ Y % 16 = 13 := by omega
                              simp (disch := omega) only [if_pos, if_neg] at hE
                              rw [show n = nc - (steps + 1) by omega] at hE
                              refine z_wk (ls' := [some (zn a), some (zn c), some (zi f), some (zn v), some (zi ((size - 1 : Nat) : Int)), some (zi ((place + 1 : Nat) : Int)), some (zi ((steps + 1 : Nat) : Int)), none, none]) ⟨rfl, rfl, rfl, rfl, z_e (by omega), z_e (by omega), z_e (by omega), trivial⟩ (z_mem (M' := z_mup M (a + 1) (stk)) rfl (ih (size - 1) (place + 1) (stk) (steps + 1) (by omega) (by omega) (by omega) (by omega) ?_ hE))
                              exact fun i hi2 => by have := hb i (by omega); omega
                            | simp (disch := omega) only [if_pos, if_neg] at hE
                              rw [show n = nc - (steps + 1) by omega] at hE
                              refine z_wk (ls' := [some (zn a), some (zn c), some (zi f), some (zn v), some (zi ((size - 1 : Nat) : Int)), some (zi ((place + 1 : Nat) : Int)), some (zi ((steps + 1 : Nat) : Int)), none, none]) ⟨rfl, rfl, rfl, rfl, z_e (by omega), z_e (by omega), z_e (by omega), trivial⟩ (z_mem (M' := z_mup M (a + 1) (ku stk (size - 2) (zjoin (Y % 16) (stk (size - 2)) (stk (size - 1))))) (by first | rfl | simp only [show ((size : Int) + -1 - 1).toNat = size - 2 by omega, z_mupm]) (ih (size - 1) (place + 1) (ku stk (size - 2) (zjoin (Y % 16) (stk (size - 2)) (stk (size - 1)))) (steps + 1) (by omega) (by omega) (by omega) (by omega) ?_ hE))
                              intro i hi2; simp only [ku]; split
                              · have := zjoin_in (Y % 16) (stk (size - 2)) (stk (size - 1)); simp only [zBK] at this; omega
                              · have := hb i (by omega); omega
                        · exfalso; omega
                  · refine x_ldc (x := -2000000000) 82 rfl kX3_15 (by decide) dX3_value_80 ?_
                    refine x_reti dX3_value_82 rfl ?_
                    first
                      | (simp (disch := omega) only [if_pos, if_neg] at hE; exact ⟨by rw [hR, ← hE]; rfl, _, rfl⟩)
                      | (simp (disch := omega) only [if_pos, if_neg] at hE; rw [if_pos (by exact c268)] at hE; exact ⟨by rw [hR, ← hE]; rfl, _, rfl⟩)
                      | (simp (disch := omega) only [if_pos, if_neg] at hE; exact ⟨by rw [hR, ← hE], _, rfl⟩)
                      | (exfalso; omega)
                      | refine ⟨?_, _, rfl⟩
                        rw [hR, ← hE]
                        simp only [zBK]
                        repeat' split
                        all_goals first | rfl | omega | (exfalso; omega)
            · replace hF : Y % 16 = 0 := by omega
              refine x_goto 280 dX3_value_54 (by decide) ?_
              refine x_iload 282 rfl dX3_value_280 rfl ?_
              refine x_iconst 283 rfl dX3_value_282 (by decide) ?_
              refine x_icmp_ne 286 295 rfl dX3_value_283 (by decide) (fun c283 => ?_) (fun c283 => ?_)
              · refine x_ldc (x := -2000000000) 297 rfl kX3_15 (by decide) dX3_value_295 ?_
                refine x_reti dX3_value_297 rfl ?_
                first
                  | (simp (disch := omega) only [if_pos, if_neg] at hE; exact ⟨by rw [hR, ← hE]; rfl, _, rfl⟩)
                  | (simp (disch := omega) only [if_pos, if_neg] at hE; rw [if_pos (by exact c268)] at hE; exact ⟨by rw [hR, ← hE]; rfl, _, rfl⟩)
                  | (simp (disch := omega) only [if_pos, if_neg] at hE; exact ⟨by rw [hR, ← hE], _, rfl⟩)
                  | (exfalso; omega)
                  | refine ⟨?_, _, rfl⟩
                    rw [hR, ← hE]
                    simp only [zBK]
                    repeat' split
                    all_goals first | rfl | omega | (exfalso; omega)
              · refine x_aload_n 287 rfl dX3_value_286 0 rfl rfl ?_
                refine x_getr 290 rfl fX3_9 dX3_value_287 (mcl0 h) (mcs0 h) (by decide) (a + 1) rfl ?_
                refine x_iconst 291 rfl dX3_value_290 (by decide) ?_
                refine x_ialk 292 rfl dX3_value_291 (mcl1 h) (mcs1 h) 0 rfl (by decide) ?_
                try simp (disch := omega) only [z_up_ne, z_up_nk, z_up_eq, z_mup_ne, z_mup_eq, Int.reduceToNat, Int.toNat_natCast]
                refine x_goto 297 dX3_value_292 (by decide) ?_
                refine x_reti dX3_value_297 rfl ?_
                first
                  | (simp (disch := omega) only [if_pos, if_neg] at hE; exact ⟨by rw [hR, ← hE]; rfl, _, rfl⟩)
                  | (simp (disch := omega) only [if_pos, if_neg] at hE; rw [if_pos (by exact c268)] at hE; exact ⟨by rw [hR, ← hE]; rfl, _, rfl⟩)
                  | (simp (disch := omega) only [if_pos, if_neg] at hE; exact ⟨by rw [hR, ← hE], _, rfl⟩)
                  | (exfalso; omega)
                  | refine ⟨?_, _, rfl⟩
                    rw [hR, ← hE]
                    simp only [zBK]
                    repeat' split
                    all_goals first | rfl | omega | (exfalso; omega)
  refine zX_of pl_RX3 [some (zn a), some (zn c), some (zi f), some (zn v), none, none, none, none, none] 5 rfl rfl ?_
  refine x_iconst 1 rfl dX3_value_0 (by decide) ?_
  refine y_istore 3 rfl dX3_value_1 rfl (ls' := [_, _, _, _, _, _, _, _, _]) rfl (by decide) ?_
  refine x_iload_n 4 rfl dX3_value_3 2 rfl rfl ?_
  refine y_istore 6 rfl dX3_value_4 rfl (ls' := [_, _, _, _, _, _, _, _, _]) rfl (by decide) ?_
  refine x_iconst 7 rfl dX3_value_6 (by decide) ?_
  refine y_istore 9 rfl dX3_value_7 rfl (ls' := [_, _, _, _, _, _, _, _, _]) rfl (by decide) ?_
  refine z_mem (M' := z_mup M (a + 1) (M (a + 1))) z_mup_self.symm (z_locs (ls' := [some (zn a), some (zn c), some (zi f), some (zn v), some (zi ((0 : Nat) : Int)), some (zi ((f.toNat : Nat) : Int)), some (zi ((0 : Nat) : Int)), none, none]) (by rw [Int.toNat_of_nonneg hf.1]; rfl) (loop (nc + 1) 0 f.toNat (M (a + 1)) 0 (by omega) (by omega) (by omega) (by omega) (fun i hi => by omega) hR))
