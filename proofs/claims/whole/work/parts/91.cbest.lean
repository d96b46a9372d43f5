/-! best, on the class's side -/
theorem zas_cg {k C f f' : Nat → Int} {g o : Nat} (h : ∀ w, 1 ≤ w → w ≤ 3 → f (zthen k C g o w) = f' (zthen k C g o w)) : ∀ n, n ≤ 3 → zas k C f g o n = zas k C f' g o n
  | 0, _ => rfl
  | n + 1, hn => by
    show zas k C f g o n + _ = zas k C f' g o n + _
    rw [zas_cg h n (by omega), h (n + 1) (by omega) hn]
theorem zcs_cg {k C f f' : Nat → Int} {o : Nat} {h0 : Int} (ho : f o = f' o) : ∀ n, (∀ g w, g < n → 1 ≤ w → w ≤ 3 → f (zthen k C g o w) = f' (zthen k C g o w)) → zcs k C f o h0 n = zcs k C f' o h0 n
  | 0, _ => rfl
  | n + 1, h => by
    have ih := zcs_cg (h0 := h0) ho n (fun g w a b c => h g w (by omega) b c)
    have ea : zav k C f n o = zav k C f' n o := by unfold zav; rw [zas_cg (fun w b c => h n w (by omega) b c) 3 (Nat.le_refl _), ho]
    have e2 : zcs k C f o h0 (n + 1) = if (zcs k C f o h0 n).2 < zav k C f n o then ((n : Int), zav k C f n o) else zcs k C f o h0 n := rfl
    rw [e2, ih, ea]
    rfl
theorem zcs_max {k C f : Nat → Int} {o g : Nat} {h0 a b : Int} (e : zcs k C f o h0 g = (a, b)) : (zcs k C f o h0 (g + 1)).2 = max b (zav k C f g o) := by
  rcases Classical.em (b < zav k C f g o) with h | h
  · rw [zcs_y e h]; show zav k C f g o = _; omega
  · rw [zcs_n e h]; show b = _; omega

set_option maxRecDepth 100000 in
set_option maxHeartbeats 4000000 in
theorem c_X5_homeFor {d sz : Nat} {S : zSh} {M : zMem} (hL : LY S sz) {k : Nat → Int} (hs : SR M 1 k) (hi : KI k) {n : Nat} (hn : (n : Int) ≤ k 73) {m : Int} (hm : 0 ≤ k 2 + m ∧ k 2 + m < 72) (hm2 : 0 ≤ m ∧ m ≤ 100) : zX (d + 1) 0 0 mX5_homeFor [zn 1, zi (n : Int), zi m] sz S M (zJ sz S (fun r M' => r = zhm k n (k 2 + m) ∧ M' = M)) := by
  have i1 := hi.1
  have e70 := hs.2.1.1
  have hz := zhm_in hi hn hm
  have hp := zprice_in hi hm
  have e : 1000000 * (n : Int) * zprice k (k 2 + m) = zhm k n (k 2 + m) := by unfold zhm; rw [Int.mul_assoc, Int.mul_comm]
  refine zX_of pl_RX5 [some (zn 1), some (zi (n : Int)), some (zi m)] 0 rfl rfl ?_
  refine x_ldc2 (x := 1000000) 3 rfl klX5_76 (by decide) dX5_homeFor_0 ?_
  refine x_iload_n 4 rfl dX5_homeFor_3 1 rfl rfl ?_
  refine x_i2l 5 rfl dX5_homeFor_4 ?_
  refine y_lmul 6 rfl dX5_homeFor_5 (by omega) ?_
  refine x_aload_n 7 rfl dX5_homeFor_6 0 rfl rfl ?_
  refine x_aload_n 8 rfl dX5_homeFor_7 0 rfl rfl ?_
  refine x_getr 11 rfl fX5_29 dX5_homeFor_8 (lyl1 hL) (lys1 hL) (by decide) (8) rfl ?_
  refine x_iconst 12 rfl dX5_homeFor_11 (by decide) ?_
  refine x_ialk 13 rfl dX5_homeFor_12 (lyl8 hL) (lys8 hL) 0 rfl (by decide) ?_
  rw [e70]
  refine x_iload_n 14 rfl dX5_homeFor_13 2 rfl rfl ?_
  refine y_iadd 15 rfl dX5_homeFor_14 (by omega) ?_
  refine x_cVi 18 rfl lX5_78 dX5_homeFor_15 (lyl1 hL) (lys1 hL) (c_X7_priceIn (ly_sh1 hL) hs hi hm) rfl rfl (Nat.le_of_ble_eq_true rfl) (fun r1 M1 hr1 => ?_)
  obtain ⟨hr2, hM1⟩ := hr1
  rw [hM1]
  subst hr2
  refine x_i2l 19 rfl dX5_homeFor_18 ?_
  refine y_lmul 20 rfl dX5_homeFor_19 (by omega) ?_
  refine x_retj dX5_homeFor_20 rfl ?_
  exact ⟨e, rfl⟩

set_option maxRecDepth 100000 in
set_option maxHeartbeats 4000000 in
theorem c_X5_averageOf {d sz : Nat} {S : zSh} {M : zMem} (hL : LY S sz) {k : Nat → Int} (hs : SR M 1 k) (hi : KI k) {C : Nat → Int} (h52 : M 52 = C) (hC : ∀ g, g < 4 → 0 ≤ C g ∧ C g ≤ 99) (hf : zfB (M 50) (k 73)) {n : Nat} (hn : (n : Int) ≤ k 73) {g : Nat} (hg : g < 4) : zX (d + 1) 0 0 mX5_averageOf [zn 49, zn 1, zi (g : Int), zi (n : Int)] sz S M (zJ sz S (fun r M' => r = zav k C (M 50) g n ∧ M' = M)) := by
  have i1 := hi.1
  have i2 := hi.2.2.1 g hg
  have e71 := hs.2.1.2.1
  have hcg := hC g hg
  have hz := zav_in (C := C) hi hf hg hcg.1 hn
  have hf0 := hf n hn
  have h3 := hz.1 3 (Nat.le_refl _)
  have hm0 := zmb h3.2.2.1 hf0
  have hz0 : zthen k C g n 0 = n := by unfold zthen; rw [show ((0 : Nat) : Int) * C g = 0 by omega]; omega
  have hn3 : znn k g 3 = 10 - k (39 + 3 * g) - k (39 + 3 * g + 1) - k (39 + 3 * g + 2) := rfl
  have loop : ∀ (q t : Nat) (s : Int), 4 < q + t → t ≤ 4 → s = (if t = 0 then 0 else znn k g 3 * M 50 n + zas k C (M 50) g n (t - 1)) → zW mX5_averageOf (d + 1) 0 0 [] (zJ sz S (fun r M' => r = zav k C (M 50) g n ∧ M' = M)) 6 [some (zn 49), some (zn 1), some (zi (g : Int)), some (zi (n : Int)), some (zl s), none, some (zi t), none] [] sz S M := by
    intro q
    induction q with
    | zero => intro t s hq ht; omega
    | succ q ih =>
      intro t s hq ht hs9
      have htc : 0 ≤ (t : Int) * C g ∧ (t : Int) * C g ≤ 400 := by
        have : t = 0 ∨ t = 1 ∨ t = 2 ∨ t = 3 ∨ t = 4 := by omega
        rcases this with rfl | rfl | rfl | rfl | rfl <;> omega
      have hth := zthen_in (C := C) hi (g := g) (o := n) (w := t) hcg.1
      have hft := hf _ hth.1
      have hsb : 0 ≤ s ∧ s ≤ 989010000000 := by
        rw [hs9]
        by_cases e : t = 0
        · rw [if_pos e]; omega
        · rw [if_neg e]; have := hz.1 (t - 1) (by omega); have hmn : znn k g 3 ≤ znn k g (t - 1) := by
            have e1 : znn k g 0 = 10 := rfl
            have e2 : znn k g 1 = 10 - k (39 + 3 * g) := rfl
            have e3 : znn k g 2 = 10 - k (39 + 3 * g) - k (39 + 3 * g + 1) := rfl
            have : t - 1 = 0 ∨ t - 1 = 1 ∨ t - 1 = 2 ∨ t - 1 = 3 := by omega
            rcases this with e9 | e9 | e9 | e9 <;> rw [e9] <;> omega
          omega
      refine x_iload 8 rfl dX5_averageOf_6 rfl ?_
      refine x_iconst 9 rfl dX5_averageOf_8 (by decide) ?_
      refine x_icmp_gt 12 61 rfl dX5_averageOf_9 (by decide) (fun c9 => ?_) (fun c9 => ?_)
      · have et : t = 4 := by omega
        subst et
        rw [if_neg (by decide)] at hs9
        refine x_lload 63 rfl dX5_averageOf_61 rfl ?_
        refine x_ldc2 (x := 10) 66 rfl klX5_85 (by decide) dX5_averageOf_63 ?_
        refine x_ldiv 67 rfl dX5_averageOf_66 (by omega) ?_
        refine x_retj dX5_averageOf_67 rfl ?_
        refine ⟨?_, rfl⟩
        rw [z_ltdiv (by omega) (by omega) (by decide)]
        unfold zav
        rw [hs9, Int.add_comm]
      · refine x_aload_n 13 rfl dX5_averageOf_12 1 rfl rfl ?_
        refine x_getr 16 rfl fX5_29 dX5_averageOf_13 (lyl1 hL) (lys1 hL) (by decide) (8) rfl ?_
        refine x_iconst 17 rfl dX5_averageOf_16 (by decide) ?_
        refine x_ialk 18 rfl dX5_averageOf_17 (lyl8 hL) (lys8 hL) 1 rfl (by decide) ?_
        rw [e71]
        refine x_iload_n 19 rfl dX5_averageOf_18 3 rfl rfl ?_
        refine x_iload 21 rfl dX5_averageOf_19 rfl ?_
        refine x_aload_n 22 rfl dX5_averageOf_21 0 rfl rfl ?_
        refine x_getr 25 rfl fX5_19 dX5_averageOf_22 (lyl49 hL) (lys49 hL) (by decide) (52) rfl ?_
        refine x_iload_n 26 rfl dX5_averageOf_25 2 rfl rfl ?_
        refine x_iald 27 rfl dX5_averageOf_26 (lyl52 hL) (lys52 hL) (by omega) (by omega) ?_
        rw [show ((g : Int)).toNat = g by omega, h52]
        refine y_imul 28 rfl dX5_averageOf_27 (by omega) ?_
        refine y_iadd 29 rfl dX5_averageOf_28 (by omega) ?_
        refine x_cSi 32 rfl lX5_34 dX5_averageOf_29 c_min rfl rfl (Nat.le_of_ble_eq_true rfl) (fun r1 M1 hr1 => ?_)
        obtain ⟨hr2, hM1⟩ := hr1
        rw [hM1]
        subst hr2
        refine y_istore 34 rfl dX5_averageOf_32 rfl (ls' := [_, _, _, _, _, _, _, _]) rfl (by decide) ?_
        refine x_lload 36 rfl dX5_averageOf_34 rfl ?_
        refine x_aload_n 37 rfl dX5_averageOf_36 1 rfl rfl ?_
        refine x_iload_n 38 rfl dX5_averageOf_37 2 rfl rfl ?_
        refine x_iload 40 rfl dX5_averageOf_38 rfl ?_
        refine x_cVi 43 rfl lX5_82 dX5_averageOf_40 (lyl1 hL) (lys1 hL) (c_X7_chanceOf (ly_sh1 hL) hs hi (by omega) (by omega)) rfl rfl (Nat.le_of_ble_eq_true rfl) (fun r3 M3 hr3 => ?_)
        obtain ⟨hr4, hM3⟩ := hr3
        rw [hM3]
        rw [show ((g : Int)).toNat = g by omega, show ((t : Int)).toNat = t by omega] at hr4
        have hch : (t = 0 ∧ r3 = znn k g 3) ∨ (1 ≤ t ∧ r3 = k (39 + 3 * g + (t - 1))) := by
          rw [hr4]
          unfold zch
          by_cases e : t = 0
          · rw [if_pos e, hn3]; exact Or.inl ⟨e, rfl⟩
          · rw [if_neg e, show 39 + 3 * g + t - 1 = 39 + 3 * g + (t - 1) by omega]; exact Or.inr ⟨by omega, rfl⟩
        have hcb : 0 ≤ r3 ∧ r3 ≤ 10 := by
          rcases hch with h | h
          · omega
          · have : t - 1 = 0 ∨ t - 1 = 1 ∨ t - 1 = 2 := by omega
            rcases this with e9 | e9 | e9 <;> rw [h.2, e9] <;> first | omega | (rw [Nat.add_zero]; omega)
        have hmm := zmb hcb.1 hft
        refine x_i2l 44 rfl dX5_averageOf_43 ?_
        refine x_aload_n 45 rfl dX5_averageOf_44 0 rfl rfl ?_
        refine x_getr 48 rfl fX5_9 dX5_averageOf_45 (lyl49 hL) (lys49 hL) (by decide) (50) rfl ?_
        refine x_iload 50 rfl dX5_averageOf_48 rfl ?_
        refine x_lald 51 rfl dX5_averageOf_50 (lyl50 hL) (lys50 hL) (by omega) (by omega) ?_
        rw [show (min (k 73) ((n : Int) + (t : Int) * C g)).toNat = zthen k C g n t from rfl]
        refine y_lmul 52 rfl dX5_averageOf_51 (by omega) ?_
        refine y_ladd 53 rfl dX5_averageOf_52 (by omega) ?_
        refine y_lstore 55 rfl dX5_averageOf_53 rfl (ls' := [_, _, _, _, _, _, _, _]) rfl (by decide) ?_
        refine w_iinc 58 rfl dX5_averageOf_55 rfl (by decide) (by omega) rfl (ls' := [_, _, _, _, _, _, _, _]) rfl (by decide) ?_
        refine x_goto 6 dX5_averageOf_58 (by decide) ?_
        refine z_wk (ls' := [some (zn 49), some (zn 1), some (zi (g : Int)), some (zi (n : Int)), some (zl _), none, some (zi ((t + 1 : Nat) : Int)), none]) ⟨rfl, rfl, rfl, rfl, rfl, rfl, trivial⟩ (ih (t + 1) _ (by omega) (by omega) ?_)
        rw [if_neg (by omega), Nat.add_sub_cancel, hs9]
        rcases hch with h | h
        · rw [if_pos h.1, h.2, h.1, hz0]; show 0 + znn k g 3 * M 50 n = znn k g 3 * M 50 n + 0; omega
        · rw [if_neg (by omega), h.2]
          have ezs : zas k C (M 50) g n (t - 1 + 1) = zas k C (M 50) g n (t - 1) + k (39 + 3 * g + (t - 1)) * M 50 (zthen k C g n (t - 1 + 1)) := rfl
          rw [show t - 1 + 1 = t by omega] at ezs
          rw [ezs]; omega
  refine zX_of pl_RX5 [some (zn 49), some (zn 1), some (zi (g : Int)), some (zi (n : Int)), none, none, none, none] 4 rfl rfl ?_
  refine x_lconst (x := 0) 1 rfl dX5_averageOf_0 rfl ?_
  refine y_lstore 3 rfl dX5_averageOf_1 rfl (ls' := [_, _, _, _, _, _, _, _]) rfl (by decide) ?_
  refine x_iconst 4 rfl dX5_averageOf_3 (by decide) ?_
  refine y_istore 6 rfl dX5_averageOf_4 rfl (ls' := [_, _, _, _, _, _, _, _]) rfl (by decide) ?_
  exact loop 5 0 0 (by omega) (by omega) rfl

set_option maxRecDepth 100000 in
set_option maxHeartbeats 4000000 in
theorem c_X5_fillMonth {d sz : Nat} {S : zSh} {M : zMem} (hL : LY S sz) {k : Nat → Int} (hs : SR M 1 k) (hi : KI k) {C : Nat → Int} (h52 : M 52 = C) (hC : ∀ g, g < 4 → 0 ≤ C g ∧ C g ≤ 99) (hf : zfB (M 50) (k 73)) (hR : ∀ i : Nat, k 0 ≤ (i : Int) → (i : Int) ≤ k 73 → 0 ≤ M 51 i ∧ M 51 i ≤ 1000) {m lst : Int} (hm : 1 ≤ m ∧ m ≤ 12 ∧ k 2 + m < 72) (hl : lst = 0 ∨ lst = 1) : zX (d + 2) 0 0 mX5_fillMonth [zn 49, zn 1, zi m, zi lst] sz S M (zU sz S (fun M' => (∀ i : Nat, k 0 ≤ (i : Int) → (i : Int) ≤ k 73 → M 51 i ≤ m → M' 50 i = (if lst = 1 then zhm k i (k 2 + m) else (zcs k C (M 50) i (zhm k i (k 2 + m)) (k 76).toNat).2)) ∧ zfB (M' 50) (k 73) ∧ (∀ i : Nat, k 73 < (i : Int) → M' 50 i = M 50 i) ∧ (∀ i, i ≠ 50 → M' i = M i))) := by
  have i1 := hi.1
  have hC0 : ∀ g, g < 4 → 0 ≤ C g := fun g hg => (hC g hg).1
  have loop : ∀ (p n : Nat) (M1 : zMem), 1001 < p + n → k 0 ≤ (n : Int) → (n : Int) ≤ k 73 + 1 → (∀ i : Nat, n ≤ i → M1 50 i = M 50 i) → (∀ i : Nat, k 0 ≤ (i : Int) → i < n → M 51 i ≤ m → M1 50 i = (if lst = 1 then zhm k i (k 2 + m) else (zcs k C (M 50) i (zhm k i (k 2 + m)) (k 76).toNat).2)) → zfB (M1 50) (k 73) → (∀ i, i ≠ 50 → M1 i = M i) → zW mX5_fillMonth (d + 2) 0 0 [] (zU sz S (fun M' => (∀ i : Nat, k 0 ≤ (i : Int) → (i : Int) ≤ k 73 → M 51 i ≤ m → M' 50 i = (if lst = 1 then zhm k i (k 2 + m) else (zcs k C (M 50) i (zhm k i (k 2 + m)) (k 76).toNat).2)) ∧ zfB (M' 50) (k 73) ∧ (∀ i : Nat, k 73 < (i : Int) → M' 50 i = M 50 i) ∧ (∀ i, i ≠ 50 → M' i = M i))) 6 [some (zn 49), some (zn 1), some (zi m), some (zi lst), some (zi n), none, none, none] [] sz S M1 := by
    intro p
    induction p with
    | zero => intro n M1 hp h0 hn; omega
    | succ p ih =>
      intro n M1 hp h0 hn h1 h2 hf1 hF
      have hs1 : SR M1 1 k := SR_frame hs (fun i a b => hF i (by omega))
      have e71 := hs1.2.1.2.1
      have e5 := hs1.1.2.2.1
      have e511 : M1 51 = M 51 := hF 51 (by decide)
      have e52 : M1 52 = C := by rw [hF 52 (by decide)]; exact h52
      have inner : (n : Int) ≤ k 73 → M 51 n ≤ m → ∀ (q g : Nat) (a v : Int), 5 < q + g → (g : Int) ≤ k 76 → zcs k C (M1 50) n (zhm k n (k 2 + m)) g = (a, v) → (lst = 1 → g = 0) → zW mX5_fillMonth (d + 2) 0 0 [] (zU sz S (fun M' => (∀ i : Nat, k 0 ≤ (i : Int) → (i : Int) ≤ k 73 → M 51 i ≤ m → M' 50 i = (if lst = 1 then zhm k i (k 2 + m) else (zcs k C (M 50) i (zhm k i (k 2 + m)) (k 76).toNat).2)) ∧ zfB (M' 50) (k 73) ∧ (∀ i : Nat, k 73 < (i : Int) → M' 50 i = M 50 i) ∧ (∀ i, i ≠ 50 → M' i = M i))) 40 [some (zn 49), some (zn 1), some (zi m), some (zi lst), some (zi n), some (zl v), none, some (zi g)] [] sz S M1 := by
        intro hn2 hrm q
        induction q with
        | zero => intro g a v hq hg; omega
        | succ q ih2 =>
          intro g a v hq hg hz hl1
          have hin := zcs_in hi hf1 hC0 hn2 (zhm_in hi hn2 (m := k 2 + m) (by omega)).2.2 g (by omega)
          rw [hz] at hin
          have hin : _ ∧ 0 ≤ v ∧ v ≤ 98901000000 := hin
          have fin : (lst = 1 ∨ (g : Int) = k 76) → v = (if lst = 1 then zhm k n (k 2 + m) else (zcs k C (M 50) n (zhm k n (k 2 + m)) (k 76).toNat).2) := by
            intro hh
            by_cases e : lst = 1
            · rw [if_pos e]; rw [hl1 e] at hz; have hz : (100, zhm k n (k 2 + m)) = (a, v) := hz; exact (Prod.mk.inj hz).2.symm
            · rw [if_neg e, zcs_cg (f' := M1 50) (h1 n (Nat.le_refl _)).symm _ (fun g2 w a1 b1 c1 => (h1 _ (zthen_ge hi (hC0 g2 (by omega)) hn2)).symm), show (k 76).toNat = g by omega, hz]
          refine x_iload_n 41 rfl dX5_fillMonth_40 3 rfl rfl ?_
          refine x_if_ne 44 75 rfl dX5_fillMonth_41 (by decide) (fun c41 => ?_) (fun c41 => ?_)
          · refine x_aload_n 76 rfl dX5_fillMonth_75 0 rfl rfl ?_
            refine x_getr 79 rfl fX5_9 dX5_fillMonth_76 (lyl49 hL) (lys49 hL) (by decide) (50) rfl ?_
            refine x_iload 81 rfl dX5_fillMonth_79 rfl ?_
            refine x_lload 83 rfl dX5_fillMonth_81 rfl ?_
            refine x_last 84 rfl dX5_fillMonth_83 (lyl50 hL) (lys50 hL) (by omega) (by omega) ?_
            refine w_iinc 87 rfl dX5_fillMonth_84 rfl (by decide) (by omega) rfl (ls' := [_, _, _, _, _, _, _, _]) rfl (by decide) ?_
            refine x_goto 6 dX5_fillMonth_87 (by decide) ?_
            rw [show ((n : Int)).toNat = n by omega]
            refine z_wk (ls' := [some (zn 49), some (zn 1), some (zi m), some (zi lst), some (zi ((n + 1 : Nat) : Int)), none, none, none]) ⟨rfl, rfl, rfl, rfl, rfl, trivial⟩ (ih (n + 1) _ (by omega) (by omega) (by omega) (fun i a => by rw [z_up_nk (by omega)]; exact h1 i (by omega)) (fun i a b c => ?_) (fun i a => ?_) (fun i a => by rw [z_up_ne a]; exact hF i a))
            · by_cases e : i = n
              · rw [e, z_up_eq]; exact fin (by omega)
              · rw [z_up_nk e]; exact h2 i a (by omega) c
            · by_cases e : i = n
              · rw [e, z_up_eq]; exact hin.2
              · rw [z_up_nk e]; exact hf1 i a
          · refine x_iload 46 rfl dX5_fillMonth_44 rfl ?_
            refine x_aload_n 47 rfl dX5_fillMonth_46 1 rfl rfl ?_
            refine x_geti 50 rfl fX5_40 dX5_fillMonth_47 (lyl1 hL) (lys1 hL) (by decide) ?_
            rw [e5]
            refine x_icmp_ge 53 75 rfl dX5_fillMonth_50 (by decide) (fun c50 => ?_) (fun c50 => ?_)
            · refine x_aload_n 76 rfl dX5_fillMonth_75 0 rfl rfl ?_
              refine x_getr 79 rfl fX5_9 dX5_fillMonth_76 (lyl49 hL) (lys49 hL) (by decide) (50) rfl ?_
              refine x_iload 81 rfl dX5_fillMonth_79 rfl ?_
              refine x_lload 83 rfl dX5_fillMonth_81 rfl ?_
              refine x_last 84 rfl dX5_fillMonth_83 (lyl50 hL) (lys50 hL) (by omega) (by omega) ?_
              refine w_iinc 87 rfl dX5_fillMonth_84 rfl (by decide) (by omega) rfl (ls' := [_, _, _, _, _, _, _, _]) rfl (by decide) ?_
              refine x_goto 6 dX5_fillMonth_87 (by decide) ?_
              rw [show ((n : Int)).toNat = n by omega]
              refine z_wk (ls' := [some (zn 49), some (zn 1), some (zi m), some (zi lst), some (zi ((n + 1 : Nat) : Int)), none, none, none]) ⟨rfl, rfl, rfl, rfl, rfl, trivial⟩ (ih (n + 1) _ (by omega) (by omega) (by omega) (fun i a => by rw [z_up_nk (by omega)]; exact h1 i (by omega)) (fun i a b c => ?_) (fun i a => ?_) (fun i a => by rw [z_up_ne a]; exact hF i a))
              · by_cases e : i = n
                · rw [e, z_up_eq]; exact fin (by omega)
                · rw [z_up_nk e]; exact h2 i a (by omega) c
              · by_cases e : i = n
                · rw [e, z_up_eq]; exact hin.2
                · rw [z_up_nk e]; exact hf1 i a
            · refine x_lload 55 rfl dX5_fillMonth_53 rfl ?_
              refine x_aload_n 56 rfl dX5_fillMonth_55 0 rfl rfl ?_
              refine x_aload_n 57 rfl dX5_fillMonth_56 1 rfl rfl ?_
              refine x_iload 59 rfl dX5_fillMonth_57 rfl ?_
              refine x_iload 61 rfl dX5_fillMonth_59 rfl ?_
              refine x_cVj 64 rfl lX5_69 dX5_fillMonth_61 (lyl49 hL) (lys49 hL) (c_X5_averageOf hL hs1 hi e52 hC hf1 hn2 (g := g) (by omega)) rfl rfl (Nat.le_of_ble_eq_true rfl) (fun r1 M2 hr1 => ?_)
              obtain ⟨hr2, hM2⟩ := hr1
              rw [hM2]
              subst hr2
              refine x_cSj 67 rfl lX5_72 dX5_fillMonth_64 c_lmax rfl rfl (Nat.le_of_ble_eq_true rfl) (fun r3 M3 hr3 => ?_)
              obtain ⟨hr4, hM3⟩ := hr3
              rw [hM3]
              rw [← zcs_max hz] at hr4
              refine y_lstore 69 rfl dX5_fillMonth_67 rfl (ls' := [_, _, _, _, _, _, _, _]) rfl (by decide) ?_
              refine w_iinc 72 rfl dX5_fillMonth_69 rfl (by decide) (by omega) rfl (ls' := [_, _, _, _, _, _, _, _]) rfl (by decide) ?_
              refine x_goto 40 dX5_fillMonth_72 (by decide) ?_
              refine ih2 (g + 1) (zcs k C (M1 50) n (zhm k n (k 2 + m)) (g + 1)).1 _ (by omega) (by omega) ?_ (fun e => by omega)
              rw [hr4]
      refine x_iload 8 rfl dX5_fillMonth_6 rfl ?_
      refine x_aload_n 9 rfl dX5_fillMonth_8 1 rfl rfl ?_
      refine x_getr 12 rfl fX5_29 dX5_fillMonth_9 (lyl1 hL) (lys1 hL) (by decide) (8) rfl ?_
      refine x_iconst 13 rfl dX5_fillMonth_12 (by decide) ?_
      refine x_ialk 14 rfl dX5_fillMonth_13 (lyl8 hL) (lys8 hL) 1 rfl (by decide) ?_
      rw [e71]
      refine x_icmp_gt 17 90 rfl dX5_fillMonth_14 (by decide) (fun c14 => ?_) (fun c14 => ?_)
      · refine x_retu dX5_fillMonth_90 rfl ?_
        exact ⟨fun i a b c => h2 i a (by omega) c, hf1, fun i a => h1 i (by omega), hF⟩
      · refine x_aload_n 18 rfl dX5_fillMonth_17 0 rfl rfl ?_
        refine x_getr 21 rfl fX5_15 dX5_fillMonth_18 (lyl49 hL) (lys49 hL) (by decide) (51) rfl ?_
        refine x_iload 23 rfl dX5_fillMonth_21 rfl ?_
        refine x_iald 24 rfl dX5_fillMonth_23 (lyl51 hL) (lys51 hL) (by omega) (by omega) ?_
        rw [show ((n : Int)).toNat = n by omega, e511]
        refine x_iload_n 25 rfl dX5_fillMonth_24 2 rfl rfl ?_
        refine x_icmp_gt 28 84 rfl dX5_fillMonth_25 (by decide) (fun c25 => ?_) (fun c25 => ?_)
        · refine w_iinc 87 rfl dX5_fillMonth_84 rfl (by decide) (by omega) rfl (ls' := [_, _, _, _, _, _, _, _]) rfl (by decide) ?_
          refine x_goto 6 dX5_fillMonth_87 (by decide) ?_
          refine z_wk (ls' := [some (zn 49), some (zn 1), some (zi m), some (zi lst), some (zi ((n + 1 : Nat) : Int)), none, none, none]) ⟨rfl, rfl, rfl, rfl, rfl, trivial⟩ (ih (n + 1) M1 (by omega) (by omega) (by omega) (fun i a => h1 i (by omega)) (fun i a b c => ?_) hf1 hF)
          rcases Classical.em (i = n) with e | e
          · exfalso; rw [e] at c; omega
          · exact h2 i a (by omega) c
        · refine x_aload_n 29 rfl dX5_fillMonth_28 1 rfl rfl ?_
          refine x_iload 31 rfl dX5_fillMonth_29 rfl ?_
          refine x_iload_n 32 rfl dX5_fillMonth_31 2 rfl rfl ?_
          refine x_cSj 35 rfl lX5_65 dX5_fillMonth_32 (c_X5_homeFor hL hs1 hi (n := n) (by omega) (by omega) (by omega)) rfl rfl (Nat.le_of_ble_eq_true rfl) (fun r5 M5 hr5 => ?_)
          obtain ⟨hr6, hM5⟩ := hr5
          rw [hM5]
          subst hr6
          refine y_lstore 37 rfl dX5_fillMonth_35 rfl (ls' := [_, _, _, _, _, _, _, _]) rfl (by decide) ?_
          refine x_iconst 38 rfl dX5_fillMonth_37 (by decide) ?_
          refine y_istore 40 rfl dX5_fillMonth_38 rfl (ls' := [_, _, _, _, _, _, _, _]) rfl (by decide) ?_
          exact inner (by omega) (by omega) 6 0 100 _ (by omega) (by omega) rfl (fun _ => rfl)
  refine zX_of pl_RX5 [some (zn 49), some (zn 1), some (zi m), some (zi lst), none, none, none, none] 4 rfl rfl ?_
  refine x_aload_n 1 rfl dX5_fillMonth_0 1 rfl rfl ?_
  refine x_geti 4 rfl fX5_62 dX5_fillMonth_1 (lyl1 hL) (lys1 hL) (by decide) ?_
  rw [hs.1.2.2.2.1]
  refine y_istore 6 rfl dX5_fillMonth_4 rfl (ls' := [_, _, _, _, _, _, _, _]) rfl (by decide) ?_
  rw [show zi (k 0) = zi (((k 0).toNat : Nat) : Int) by rw [show (((k 0).toNat : Nat) : Int) = k 0 by omega]]
  exact loop 1002 (k 0).toNat M (by omega) (by omega) (by omega) (fun _ _ => rfl) (fun i a b => by omega) hf (fun _ _ => rfl)
