/-! best, on the class's side: how soon so much oil can be reached -/
theorem zthen_ge {k C : Nat → Int} (hi : KI k) {g o w : Nat} (hC : 0 ≤ C g) (ho : (o : Int) ≤ k 73) : o ≤ zthen k C g o w := by
  have h1 : 0 ≤ (w : Int) * C g := Int.mul_nonneg (by omega) hC
  unfold zthen
  omega
def zRJ (k C R : Nat → Int) (n g t : Nat) : Prop := (∀ i : Nat, k 0 ≤ (i : Int) → (i : Int) ≤ k 73 → 0 ≤ R i ∧ R i ≤ 1000) ∧ R (k 0).toNat = 0 ∧ (∀ i : Nat, k 0 ≤ (i : Int) → i < n → R i < 1000 → ∀ g' w : Nat, (g' : Int) < k 76 → 1 ≤ w → w ≤ 3 → R (zthen k C g' i w) ≤ R i + 1) ∧ (∀ g' w : Nat, g' < g → 1 ≤ w → w ≤ 3 → R (zthen k C g' n w) ≤ R n + 1) ∧ (∀ w : Nat, 1 ≤ w → w < t → R (zthen k C g n w) ≤ R n + 1)
theorem zRJ_up {k C R : Nat → Int} (hi : KI k) {n g t : Nat} (hC : 0 ≤ C g) (h : zRJ k C R n g t) (hn0 : k 0 ≤ (n : Int)) (hn : (n : Int) ≤ k 73) (hR : R n < 1000) : zRJ k C (ku R (zthen k C g n t) (min (R (zthen k C g n t)) (R n + 1))) n g (t + 1) := by
  have i1 := hi.1
  obtain ⟨h1, h2, h3, h4, h5⟩ := h
  have hth := zthen_ge (w := t) hi hC hn
  have hth2 := (zthen_in (w := t) (o := n) hi hC).1
  generalize hth9 : zthen k C g n t = th at hth hth2
  have hb := h1 th (by omega) hth2
  have hbn := h1 n hn0 hn
  have le : ∀ x, ku R th (min (R th) (R n + 1)) x ≤ R x := fun x => by
    unfold ku
    by_cases e : x = th
    · rw [if_pos e, e]; omega
    · rw [if_neg e]; exact Int.le_refl _
  have eq : ∀ x, x ≤ n → ku R th (min (R th) (R n + 1)) x = R x := fun x hx => by
    unfold ku
    by_cases e : x = th
    · have : th = n := by omega
      rw [if_pos e, e, this]; omega
    · rw [if_neg e]
  have en := eq n (Nat.le_refl _)
  refine ⟨fun i a b => ?_, ?_, fun i a b c g' w d e f => ?_, fun g' w a b c => ?_, fun w a b => ?_⟩
  · have := h1 i a b
    unfold ku
    by_cases e : i = th
    · rw [if_pos e]; omega
    · rw [if_neg e]; omega
  · rw [eq _ (by omega)]; exact h2
  · rw [eq i (by omega)] at c ⊢
    exact Int.le_trans (le _) (h3 i a b c g' w d e f)
  · rw [en]; exact Int.le_trans (le _) (h4 g' w a b c)
  · rw [en]
    rcases Classical.em (w = t) with e | e
    · subst e
      rw [hth9]
      unfold ku
      rw [if_pos rfl]
      omega
    · exact Int.le_trans (le _) (h5 w a (by omega))

theorem zRJ_g {k C R : Nat → Int} {n g : Nat} (h : zRJ k C R n g 4) : zRJ k C R n (g + 1) 1 := by
  obtain ⟨h1, h2, h3, h4, h5⟩ := h
  refine ⟨h1, h2, h3, fun g' w a b c => ?_, fun w a b => by omega⟩
  rcases Classical.em (g' = g) with e | e
  · subst e; exact h5 w b (by omega)
  · exact h4 g' w (by omega) b c
theorem zRJ_n {k C R : Nat → Int} {n g : Nat} (h : zRJ k C R n g 1) (hg : R n < 1000 → k 76 ≤ (g : Int)) : zRJ k C R (n + 1) 0 1 := by
  obtain ⟨h1, h2, h3, h4, h5⟩ := h
  refine ⟨h1, h2, fun i a b c g' w d e f => ?_, fun g' w a b c => by omega, fun w a b => by omega⟩
  rcases Classical.em (i = n) with e9 | e9
  · subst e9
    have := hg c
    exact h4 g' w (by omega) e f
  · exact h3 i a (by omega) c g' w d e f

set_option maxRecDepth 100000 in
set_option maxHeartbeats 4000000 in
theorem c_X5_reach {d sz : Nat} {S : zSh} {M : zMem} (hL : LY S sz) {k : Nat → Int} (hs : SR M 1 k) (hi : KI k) {C : Nat → Int} (h52 : M 52 = C) (hC : ∀ g, g < 4 → 0 ≤ C g ∧ C g ≤ 99) : zX (d + 1) 0 0 mX5_reach [zn 49, zn 1] sz S M (zU sz S (fun M' => zRJ k C (M' 51) (k 73).toNat 0 1 ∧ (∀ i, i ≠ 51 → M' i = M i))) := by
  have i1 := hi.1
  have e71 := hs.2.1.2.1
  have e8 := hs.1.2.2.2.1
  have lp3 : ∀ (p t g n : Nat) (M1 : zMem), 4 < p + t → 1 ≤ t → t ≤ 4 → (g : Int) < k 76 → k 0 ≤ (n : Int) → (n : Int) < k 73 → M1 51 n < 1000 → (∀ M2 : zMem, M2 51 n < 1000 → zRJ k C (M2 51) n g 4 → (∀ i, i ≠ 51 → M2 i = M i) → zW mX5_reach (d + 1) 0 0 [] (zU sz S (fun M' => zRJ k C (M' 51) (k 73).toNat 0 1 ∧ (∀ i, i ≠ 51 → M' i = M i))) 136 [some (zn 49), some (zn 1), some (zi (k 73)), some (zi n), some (zi g), none, none] [] sz S M2) → zRJ k C (M1 51) n g t → (∀ i, i ≠ 51 → M1 i = M i) → zW mX5_reach (d + 1) 0 0 [] (zU sz S (fun M' => zRJ k C (M' 51) (k 73).toNat 0 1 ∧ (∀ i, i ≠ 51 → M' i = M i))) 81 [some (zn 49), some (zn 1), some (zi (k 73)), some (zi n), some (zi g), some (zi t), none] [] sz S M1 := by
    intro p
    induction p with
    | zero => intro t g n M1 hp ht1 ht; intros; omega
    | succ p ih =>
      intro t g n M1 hp ht1 ht hg hn0 hn hR kk hJ hF
      have hcg := hC g (by omega)
      have e52 : M1 52 = C := by rw [hF 52 (by decide)]; exact h52
      have htc : 0 ≤ (t : Int) * C g ∧ (t : Int) * C g ≤ 400 := by
        have : t = 1 ∨ t = 2 ∨ t = 3 ∨ t = 4 := by omega
        rcases this with rfl | rfl | rfl | rfl <;> omega
      have hth := zthen_in (C := C) hi (g := g) (o := n) (w := t) hcg.1
      have hge := zthen_ge (C := C) hi (g := g) (o := n) (w := t) hcg.1 (by omega)
      have hb := hJ.1 _ (by omega) hth.1
      have hbn := hJ.1 n hn0 (by omega)
      refine x_iload 83 rfl dX5_reach_81 rfl ?_
      refine x_iconst 84 rfl dX5_reach_83 (by decide) ?_
      refine x_icmp_gt 87 136 rfl dX5_reach_84 (by decide) (fun c84 => ?_) (fun c84 => ?_)
      · have et : t = 4 := by omega
        subst et
        refine z_wk (ls' := [some (zn 49), some (zn 1), some (zi (k 73)), some (zi (n : Int)), some (zi (g : Int)), none, none]) ⟨rfl, rfl, rfl, rfl, rfl, trivial⟩ (kk M1 hR hJ hF)
      · refine x_iload_n 88 rfl dX5_reach_87 2 rfl rfl ?_
        refine x_iload_n 89 rfl dX5_reach_88 3 rfl rfl ?_
        refine x_iload 91 rfl dX5_reach_89 rfl ?_
        refine x_aload_n 92 rfl dX5_reach_91 0 rfl rfl ?_
        refine x_getr 95 rfl fX5_19 dX5_reach_92 (lyl49 hL) (lys49 hL) (by decide) (52) rfl ?_
        refine x_iload 97 rfl dX5_reach_95 rfl ?_
        refine x_iald 98 rfl dX5_reach_97 (lyl52 hL) (lys52 hL) (by omega) (by omega) ?_
        rw [show ((g : Int)).toNat = g by omega, e52]
        refine y_imul 99 rfl dX5_reach_98 (by omega) ?_
        refine y_iadd 100 rfl dX5_reach_99 (by omega) ?_
        refine x_cSi 103 rfl lX5_34 dX5_reach_100 c_min rfl rfl (Nat.le_of_ble_eq_true rfl) (fun r1 M2 hr1 => ?_)
        obtain ⟨hr2, hM2⟩ := hr1
        rw [hM2]
        subst hr2
        refine y_istore 105 rfl dX5_reach_103 rfl (ls' := [_, _, _, _, _, _, _]) rfl (by decide) ?_
        refine x_aload_n 106 rfl dX5_reach_105 0 rfl rfl ?_
        refine x_getr 109 rfl fX5_15 dX5_reach_106 (lyl49 hL) (lys49 hL) (by decide) (51) rfl ?_
        refine x_iload 111 rfl dX5_reach_109 rfl ?_
        refine x_aload_n 112 rfl dX5_reach_111 0 rfl rfl ?_
        refine x_getr 115 rfl fX5_15 dX5_reach_112 (lyl49 hL) (lys49 hL) (by decide) (51) rfl ?_
        refine x_iload 117 rfl dX5_reach_115 rfl ?_
        refine x_iald 118 rfl dX5_reach_117 (lyl51 hL) (lys51 hL) (by omega) (by omega) ?_
        rw [show (min (k 73) ((n : Int) + (t : Int) * C g)).toNat = zthen k C g n t from rfl]
        refine x_aload_n 119 rfl dX5_reach_118 0 rfl rfl ?_
        refine x_getr 122 rfl fX5_15 dX5_reach_119 (lyl49 hL) (lys49 hL) (by decide) (51) rfl ?_
        refine x_iload_n 123 rfl dX5_reach_122 3 rfl rfl ?_
        refine x_iald 124 rfl dX5_reach_123 (lyl51 hL) (lys51 hL) (by omega) (by omega) ?_
        rw [show ((n : Int)).toNat = n by omega]
        refine x_iconst 125 rfl dX5_reach_124 (by decide) ?_
        refine y_iadd 126 rfl dX5_reach_125 (by omega) ?_
        refine x_cSi 129 rfl lX5_34 dX5_reach_126 c_min rfl rfl (Nat.le_of_ble_eq_true rfl) (fun r3 M3 hr3 => ?_)
        obtain ⟨hr4, hM3⟩ := hr3
        rw [hM3]
        subst hr4
        refine x_iast 130 rfl dX5_reach_129 (lyl51 hL) (lys51 hL) (by omega) (by omega) ?_
        rw [show (min (k 73) ((n : Int) + (t : Int) * C g)).toNat = zthen k C g n t from rfl]
        refine w_iinc 133 rfl dX5_reach_130 rfl (by decide) (by omega) rfl (ls' := [_, _, _, _, _, _, _]) rfl (by decide) ?_
        refine x_goto 81 dX5_reach_133 (by decide) ?_
        have hJ2 := zRJ_up hi hcg.1 hJ hn0 (by omega) hR
        refine z_wk (ls' := [some (zn 49), some (zn 1), some (zi (k 73)), some (zi (n : Int)), some (zi (g : Int)), some (zi ((t + 1 : Nat) : Int)), none]) ⟨rfl, rfl, rfl, rfl, rfl, rfl, trivial⟩ (ih (t + 1) g n _ (by omega) (by omega) (by omega) hg hn0 hn ?_ kk ?_ (fun i a => by rw [z_up_ne a]; exact hF i a))
        · rw [z_upm, z_mup_eq]; unfold ku; split
          · rename_i e; rw [← e]; omega
          · exact hR
        · rw [z_upm, z_mup_eq]; exact hJ2
  have lp2 : ∀ (p g n : Nat) (M1 : zMem), 4 < p + g → (g : Int) ≤ k 76 → k 0 ≤ (n : Int) → (n : Int) < k 73 → (∀ M2 : zMem, zRJ k C (M2 51) (n + 1) 0 1 → (∀ i, i ≠ 51 → M2 i = M i) → zW mX5_reach (d + 1) 0 0 [] (zU sz S (fun M' => zRJ k C (M' 51) (k 73).toNat 0 1 ∧ (∀ i, i ≠ 51 → M' i = M i))) 142 [some (zn 49), some (zn 1), some (zi (k 73)), some (zi n), none, none, none] [] sz S M2) → zRJ k C (M1 51) n g 1 → (∀ i, i ≠ 51 → M1 i = M i) → zW mX5_reach (d + 1) 0 0 [] (zU sz S (fun M' => zRJ k C (M' 51) (k 73).toNat 0 1 ∧ (∀ i, i ≠ 51 → M' i = M i))) 57 [some (zn 49), some (zn 1), some (zi (k 73)), some (zi n), some (zi g), none, none] [] sz S M1 := by
    intro p
    induction p with
    | zero => intro g n M1 hp hg; omega
    | succ p ih =>
      intro g n M1 hp hg hn0 hn kk hJ hF
      have e5 : M1 1 5 = k 76 := by rw [hF 1 (by decide)]; exact hs.1.2.2.1
      refine x_aload_n 58 rfl dX5_reach_57 0 rfl rfl ?_
      refine x_getr 61 rfl fX5_15 dX5_reach_58 (lyl49 hL) (lys49 hL) (by decide) (51) rfl ?_
      refine x_iload_n 62 rfl dX5_reach_61 3 rfl rfl ?_
      refine x_iald 63 rfl dX5_reach_62 (lyl51 hL) (lys51 hL) (by omega) (by omega) ?_
      rw [show ((n : Int)).toNat = n by omega]
      refine x_sipush 66 rfl dX5_reach_63 (by decide) ?_
      refine x_icmp_ge 69 142 rfl dX5_reach_66 (by decide) (fun c66 => ?_) (fun c66 => ?_)
      · refine z_wk (ls' := [some (zn 49), some (zn 1), some (zi (k 73)), some (zi (n : Int)), none, none, none]) ⟨rfl, rfl, rfl, rfl, trivial⟩ (kk M1 (zRJ_n hJ (fun h9 => by omega)) hF)
      · refine x_iload 71 rfl dX5_reach_69 rfl ?_
        refine x_aload_n 72 rfl dX5_reach_71 1 rfl rfl ?_
        refine x_geti 75 rfl fX5_40 dX5_reach_72 (lyl1 hL) (lys1 hL) (by decide) ?_
        rw [e5]
        refine x_icmp_ge 78 142 rfl dX5_reach_75 (by decide) (fun c75 => ?_) (fun c75 => ?_)
        · refine z_wk (ls' := [some (zn 49), some (zn 1), some (zi (k 73)), some (zi (n : Int)), none, none, none]) ⟨rfl, rfl, rfl, rfl, trivial⟩ (kk M1 (zRJ_n hJ (fun h9 => by omega)) hF)
        · refine x_iconst 79 rfl dX5_reach_78 (by decide) ?_
          refine y_istore 81 rfl dX5_reach_79 rfl (ls' := [_, _, _, _, _, _, _]) rfl (by decide) ?_
          refine lp3 4 1 g n M1 (by omega) (by omega) (by omega) (by omega) hn0 hn (by omega) (fun M2 hR2 hJ2 hF2 => ?_) hJ hF
          refine w_iinc 139 rfl dX5_reach_136 rfl (by decide) (by omega) rfl (ls' := [_, _, _, _, _, _, _]) rfl (by decide) ?_
          refine x_goto 57 dX5_reach_139 (by decide) ?_
          exact ih (g + 1) n M2 (by omega) (by omega) hn0 hn kk (zRJ_g hJ2) hF2
  have lp1 : ∀ (p n : Nat) (M1 : zMem), 1000 < p + n → k 0 ≤ (n : Int) → (n : Int) ≤ k 73 → zRJ k C (M1 51) n 0 1 → (∀ i, i ≠ 51 → M1 i = M i) → zW mX5_reach (d + 1) 0 0 [] (zU sz S (fun M' => zRJ k C (M' 51) (k 73).toNat 0 1 ∧ (∀ i, i ≠ 51 → M' i = M i))) 49 [some (zn 49), some (zn 1), some (zi (k 73)), some (zi n), none, none, none] [] sz S M1 := by
    intro p
    induction p with
    | zero => intro n M1 hp h0 hn; omega
    | succ p ih =>
      intro n M1 hp h0 hn hJ hF
      refine x_iload_n 50 rfl dX5_reach_49 3 rfl rfl ?_
      refine x_iload_n 51 rfl dX5_reach_50 2 rfl rfl ?_
      refine x_icmp_ge 54 148 rfl dX5_reach_51 (by decide) (fun c51 => ?_) (fun c51 => ?_)
      · refine x_retu dX5_reach_148 rfl ?_
        rw [show (k 73).toNat = n by omega]
        exact ⟨hJ, hF⟩
      · refine x_iconst 55 rfl dX5_reach_54 (by decide) ?_
        refine y_istore 57 rfl dX5_reach_55 rfl (ls' := [_, _, _, _, _, _, _]) rfl (by decide) ?_
        refine lp2 5 0 n M1 (by omega) (by omega) h0 (by omega) (fun M2 hJ2 hF2 => ?_) hJ hF
        refine w_iinc 145 rfl dX5_reach_142 rfl (by decide) (by omega) rfl (ls' := [_, _, _, _, _, _, _]) rfl (by decide) ?_
        refine x_goto 49 dX5_reach_145 (by decide) ?_
        exact ih (n + 1) M2 (by omega) (by omega) (by omega) hJ2 hF2
  have lp0 : ∀ (p n : Nat) (M1 : zMem), 1001 < p + n → k 0 ≤ (n : Int) → (n : Int) ≤ k 73 + 1 → (∀ i : Nat, k 0 ≤ (i : Int) → i < n → M1 51 i = if (i : Int) = k 0 then 0 else 1000) → (∀ i, i ≠ 51 → M1 i = M i) → zW mX5_reach (d + 1) 0 0 [] (zU sz S (fun M' => zRJ k C (M' 51) (k 73).toNat 0 1 ∧ (∀ i, i ≠ 51 → M' i = M i))) 12 [some (zn 49), some (zn 1), some (zi (k 73)), some (zi n), none, none, none] [] sz S M1 := by
    intro p
    induction p with
    | zero => intro n M1 hp h0 hn; omega
    | succ p ih =>
      intro n M1 hp h0 hn h1 hF
      have e81 : M1 1 8 = k 0 := by rw [hF 1 (by decide)]; exact e8
      refine x_iload_n 13 rfl dX5_reach_12 3 rfl rfl ?_
      refine x_iload_n 14 rfl dX5_reach_13 2 rfl rfl ?_
      refine x_icmp_gt 17 44 rfl dX5_reach_14 (by decide) (fun c14 => ?_) (fun c14 => ?_)
      · refine x_aload_n 45 rfl dX5_reach_44 1 rfl rfl ?_
        refine x_geti 48 rfl fX5_62 dX5_reach_45 (lyl1 hL) (lys1 hL) (by decide) ?_
        rw [e81]
        refine y_istore_n 49 rfl dX5_reach_48 rfl rfl (ls' := [_, _, _, _, _, _, _]) rfl (by decide) ?_
        rw [show zi (k 0) = zi (((k 0).toNat : Nat) : Int) by rw [show (((k 0).toNat : Nat) : Int) = k 0 by omega]]
        refine lp1 1001 (k 0).toNat M1 (by omega) (by omega) (by omega) ⟨fun i a b => ?_, ?_, fun i a b => by omega, fun g w a => by omega, fun w a b => by omega⟩ hF
        · rw [h1 i a (by omega)]; split <;> omega
        · rw [h1 _ (by omega) (by omega), if_pos (by omega)]
      · refine x_aload_n 18 rfl dX5_reach_17 0 rfl rfl ?_
        refine x_getr 21 rfl fX5_15 dX5_reach_18 (lyl49 hL) (lys49 hL) (by decide) (51) rfl ?_
        refine x_iload_n 22 rfl dX5_reach_21 3 rfl rfl ?_
        refine x_iload_n 23 rfl dX5_reach_22 3 rfl rfl ?_
        refine x_aload_n 24 rfl dX5_reach_23 1 rfl rfl ?_
        refine x_geti 27 rfl fX5_62 dX5_reach_24 (lyl1 hL) (lys1 hL) (by decide) ?_
        rw [e81]
        refine x_icmp_ne 30 34 rfl dX5_reach_27 (by decide) (fun c27 => ?_) (fun c27 => ?_)
        · refine x_sipush 37 rfl dX5_reach_34 (by decide) ?_
          refine x_iast 38 rfl dX5_reach_37 (lyl51 hL) (lys51 hL) (by omega) (by omega) ?_
          refine w_iinc 41 rfl dX5_reach_38 rfl (by decide) (by omega) rfl (ls' := [_, _, _, _, _, _, _]) rfl (by decide) ?_
          refine x_goto 12 dX5_reach_41 (by decide) ?_
          rw [show ((n : Int)).toNat = n by omega]
          refine ih (n + 1) _ (by omega) (by omega) (by omega) (fun i a b => ?_) (fun i a => by rw [z_up_ne a]; exact hF i a)
          by_cases e : i = n
          · rw [e, z_up_eq, if_neg c27]
          · rw [z_up_nk e]; exact h1 i a (by omega)
        · refine x_iconst 31 rfl dX5_reach_30 (by decide) ?_
          refine x_goto 37 dX5_reach_31 (by decide) ?_
          refine x_iast 38 rfl dX5_reach_37 (lyl51 hL) (lys51 hL) (by omega) (by omega) ?_
          refine w_iinc 41 rfl dX5_reach_38 rfl (by decide) (by omega) rfl (ls' := [_, _, _, _, _, _, _]) rfl (by decide) ?_
          refine x_goto 12 dX5_reach_41 (by decide) ?_
          rw [show ((n : Int)).toNat = n by omega]
          refine ih (n + 1) _ (by omega) (by omega) (by omega) (fun i a b => ?_) (fun i a => by rw [z_up_ne a]; exact hF i a)
          by_cases e : i = n
          · rw [e, z_up_eq, if_pos c27]
          · rw [z_up_nk e]; exact h1 i a (by omega)
  refine zX_of pl_RX5 [some (zn 49), some (zn 1), none, none, none, none, none] 5 rfl rfl ?_
  refine x_aload_n 1 rfl dX5_reach_0 1 rfl rfl ?_
  refine x_getr 4 rfl fX5_29 dX5_reach_1 (lyl1 hL) (lys1 hL) (by decide) (8) rfl ?_
  refine x_iconst 5 rfl dX5_reach_4 (by decide) ?_
  refine x_ialk 6 rfl dX5_reach_5 (lyl8 hL) (lys8 hL) 1 rfl (by decide) ?_
  rw [e71]
  refine y_istore_n 7 rfl dX5_reach_6 rfl rfl (ls' := [_, _, _, _, _, _, _]) rfl (by decide) ?_
  refine x_aload_n 8 rfl dX5_reach_7 1 rfl rfl ?_
  refine x_geti 11 rfl fX5_62 dX5_reach_8 (lyl1 hL) (lys1 hL) (by decide) ?_
  rw [e8]
  refine y_istore_n 12 rfl dX5_reach_11 rfl rfl (ls' := [_, _, _, _, _, _, _]) rfl (by decide) ?_
  rw [show zi (k 0) = zi (((k 0).toNat : Nat) : Int) by rw [show (((k 0).toNat : Nat) : Int) = k 0 by omega]]
  exact lp0 1002 (k 0).toNat M (by omega) (by omega) (by omega) (fun i a b => by omega) (fun _ _ => rfl)
