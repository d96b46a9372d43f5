/-! best: the law in force tells the casks -/
theorem zas_C {k C C' f : Nat → Int} {g o : Nat} (h : C g = C' g) : ∀ n, zas k C f g o n = zas k C' f g o n
  | 0 => rfl
  | n + 1 => by
    show zas k C f g o n + _ * f (min (k 73) ((o : Int) + ((n + 1 : Nat) : Int) * C g)).toNat = zas k C' f g o n + _ * f (min (k 73) ((o : Int) + ((n + 1 : Nat) : Int) * C' g)).toNat
    rw [zas_C h n, h]
theorem zcs_C {k C C' f : Nat → Int} {o : Nat} {h0 : Int} : ∀ n, (∀ g, g < n → C g = C' g) → zcs k C f o h0 n = zcs k C' f o h0 n
  | 0, _ => rfl
  | n + 1, h => by
    have ih := zcs_C (k := k) (f := f) (o := o) (h0 := h0) n (fun g hg => h g (by omega))
    have ea : zav k C f n o = zav k C' f n o := by unfold zav; rw [zas_C (h n (by omega))]
    have e2 : zcs k C f o h0 (n + 1) = if (zcs k C f o h0 n).2 < zav k C f n o then ((n : Int), zav k C f n o) else zcs k C f o h0 n := rfl
    rw [e2, ih, ea]
    rfl
theorem zWr_C {k C C' : Nat → Int} {last : Int} (h : ∀ g, g < (k 76).toNat → C g = C' g) : ∀ j, zWr k C last j = zWr k C' last j
  | 0 => rfl
  | j + 1 => by
    funext o
    show (zcs k C (zWr k C last j) o _ _).2 = (zcs k C' (zWr k C' last j) o _ _).2
    rw [zWr_C h j, zcs_C _ h]
def zbst (k C : Nat → Int) (n w : Int) : Int := if (0 ≤ n ∧ n ≤ 12) ∧ (0 ≤ w ∧ w ≤ 1) then (if w = 0 then zWr k C (min 71 (k 2 + n)) (min 71 (k 2 + n) - k 2).toNat (k 0).toNat else if min 71 (k 2 + n) = k 2 then 100 else (zcs k C (zWr k C (min 71 (k 2 + n)) ((min 71 (k 2 + n) - k 2).toNat - 1)) (k 0).toNat (zhm k (k 0).toNat (k 2)) (k 76).toNat).1) else -1
theorem zbst_C {k C C' : Nat → Int} {n w : Int} (h : ∀ g, g < (k 76).toNat → C g = C' g) : zbst k C n w = zbst k C' n w := by
  unfold zbst
  rw [zWr_C h, zWr_C h, zcs_C _ h]

set_option maxRecDepth 100000 in
set_option maxHeartbeats 4000000 in
theorem c_X11_best {d sz : Nat} {S : zSh} {M : zMem} (hL : LY S sz) (hi : KI (M 57)) {Lw : List gC} (hLw : LwI (M 57) Lw) (h72 : ∀ g, g < 4 → 0 ≤ M 72 g ∧ M 72 g ≤ 99) {x y : Int} : zX (d + 45) 0 0 mX11_best [zn 55, zi x, zi y] sz S M (zJ sz S (fun r M' => r = zbst (M 57) (zCk Lw (M 57)) x y ∧ bF M M' ∧ ∀ g, g < 4 → 0 ≤ M' 72 g ∧ M' 72 g ≤ 99)) := by
  have i1 := hi.1
  have body : ((0 ≤ x ∧ x ≤ 12) ∧ (0 ≤ y ∧ y ≤ 1)) → ∀ (C9 : Nat → Int) (last : Int), last = min 71 (M 57 2 + x) → (∀ g, g < 4 → 0 ≤ C9 g ∧ C9 g ≤ 99) → (∀ g, g < (M 57 76).toNat → C9 g = zCk Lw (M 57) g) → ∀ M9 : zMem, M9 72 = C9 → bF M M9 → zW mX11_best (d + 45) 0 0 [] (zJ sz S (fun r M' => r = zbst (M 57) (zCk Lw (M 57)) x y ∧ bF M M' ∧ ∀ g, g < 4 → 0 ≤ M' 72 g ∧ M' 72 g ≤ 99)) 44 [some (zn 55), some (zi x), some (zi y), some (zi last), some (zi 0), none, none, none] [] sz S M9 := by
    intro hxy C9 last hlast hC hCk M9 h729 hF9
    have hC0 : ∀ g, g < 4 → 0 ≤ C9 g := fun g hg => (hC g hg).1
    have hWb := zWr_in (C := C9) hi hC0 (last := last) (by omega)
    have fin : ∀ (M1 : zMem) (b : Nat) (first : Int) (mo : Int), b ≤ 1 → mo < M 57 2 → (∀ i : Nat, (i : Int) ≤ M 57 73 → M1 71 (1000 * b + i) = zWr (M 57) C9 last (last - M 57 2).toNat i) → first = (if last = M 57 2 then 100 else (zcs (M 57) C9 (zWr (M 57) C9 last ((last - M 57 2).toNat - 1)) (M 57 0).toNat (zhm (M 57) (M 57 0).toNat (M 57 2)) (M 57 76).toNat).1) → M1 72 = C9 → bF M M1 → zW mX11_best (d + 45) 0 0 [] (zJ sz S (fun r M' => r = zbst (M 57) (zCk Lw (M 57)) x y ∧ bF M M' ∧ ∀ g, g < 4 → 0 ≤ M' 72 g ∧ M' 72 g ≤ 99)) 88 [some (zn 55), some (zi x), some (zi y), some (zi last), some (zi (b : Int)), some (zi first), some (zi mo), none] [] sz S M1 := by
      intro M1 b first mo hb hmo hrow hfst h721 hF1
      have e57 := bF_57 hF1
      refine x_iload 90 rfl dX11_best_88 rfl ?_
      refine x_aload_n 91 rfl dX11_best_90 0 rfl rfl ?_
      refine x_getr 94 rfl fX11_24 dX11_best_91 (lyl55 hL) (lys55 hL) (by decide) (57) rfl ?_
      refine x_iconst 95 rfl dX11_best_94 (by decide) ?_
      refine x_ialk 96 rfl dX11_best_95 (lyl57 hL) (lys57 hL) 2 rfl (by decide) ?_
      rw [e57]
      refine x_icmp_lt 99 174 rfl dX11_best_96 (by decide) (fun c96 => ?_) (fun c96 => ?_)
      · refine x_iload_n 175 rfl dX11_best_174 2 rfl rfl ?_
        refine x_if_ne 178 199 rfl dX11_best_175 (by decide) (fun c175 => ?_) (fun c175 => ?_)
        · refine x_iload 201 rfl dX11_best_199 rfl ?_
          refine x_i2l 202 rfl dX11_best_201 ?_
          refine x_retj dX11_best_202 rfl ?_
          refine ⟨?_, hF1, by rw [h721]; exact hC⟩
          rw [← zbst_C hCk]
          unfold zbst
          rw [if_pos hxy, ← hlast]
          first | (rw [if_pos (by omega)]; done) | (rw [if_neg (by omega)]; exact hfst)
        · refine x_aload_n 179 rfl dX11_best_178 0 rfl rfl ?_
          refine x_getr 182 rfl fX11_71 dX11_best_179 (lyl55 hL) (lys55 hL) (by decide) (71) rfl ?_
          refine x_sipush 185 rfl dX11_best_182 (by decide) ?_
          refine x_iload 187 rfl dX11_best_185 rfl ?_
          refine y_imul 188 rfl dX11_best_187 (by omega) ?_
          refine x_aload_n 189 rfl dX11_best_188 0 rfl rfl ?_
          refine x_getr 192 rfl fX11_24 dX11_best_189 (lyl55 hL) (lys55 hL) (by decide) (57) rfl ?_
          refine x_iconst 193 rfl dX11_best_192 (by decide) ?_
          refine x_ialk 194 rfl dX11_best_193 (lyl57 hL) (lys57 hL) 0 rfl (by decide) ?_
          rw [e57]
          refine y_iadd 195 rfl dX11_best_194 (by omega) ?_
          refine x_lald 196 rfl dX11_best_195 (lyl71 hL) (lys71 hL) (by omega) (by omega) ?_
          rw [show ((1000 : Int) * (b : Int) + M 57 0).toNat = 1000 * b + (M 57 0).toNat by omega, hrow _ (by omega)]
          refine x_goto 202 dX11_best_196 (by decide) ?_
          refine x_retj dX11_best_202 rfl ?_
          refine ⟨?_, hF1, by rw [h721]; exact hC⟩
          rw [← zbst_C hCk]
          unfold zbst
          rw [if_pos hxy, ← hlast]
          first | (rw [if_pos (by omega)]; done) | (rw [if_neg (by omega)]; exact hfst)
      · exfalso; omega
    have main : ∀ (q j : Nat) (M1 : zMem) (b : Nat) (first : Int), (last - M 57 2).toNat < q + j → j ≤ (last - M 57 2).toNat → b ≤ 1 → (∀ i : Nat, (i : Int) ≤ M 57 73 → M1 71 (1000 * b + i) = zWr (M 57) C9 last j i) → first = (if j = 0 then 100 else (zcs (M 57) C9 (zWr (M 57) C9 last (j - 1)) (M 57 0).toNat (zhm (M 57) (M 57 0).toNat (last - (j : Int))) (M 57 76).toNat).1) → M1 72 = C9 → bF M M1 → zW mX11_best (d + 45) 0 0 [] (zJ sz S (fun r M' => r = zbst (M 57) (zCk Lw (M 57)) x y ∧ bF M M' ∧ ∀ g, g < 4 → 0 ≤ M' 72 g ∧ M' 72 g ≤ 99)) 88 [some (zn 55), some (zi x), some (zi y), some (zi last), some (zi (b : Int)), some (zi first), some (zi (last - 1 - (j : Int))), none] [] sz S M1 := by
      intro q
      induction q with
      | zero => intro j M1 b first hq hj; omega
      | succ q ih =>
        intro j M1 b first hq hj hb hrow hfst h721 hF1
        rcases Classical.em (j = (last - M 57 2).toNat) with ej | ej
        · refine fin M1 b first _ hb (by omega) (by rw [← ej]; exact hrow) ?_ h721 hF1
          rw [hfst]
          by_cases e0 : j = 0
          · rw [if_pos e0, if_pos (by omega)]
          · rw [if_neg e0, if_neg (by omega), ← ej, show last - (j : Int) = M 57 2 by omega]
        have e57 := bF_57 hF1
        have hro : ∀ (b : Nat) (N : zMem), (∀ i : Nat, (i : Int) ≤ M 57 73 → N 71 (1000 * b + i) = zWr (M 57) C9 last j i) → zfB (fun i => N 71 (1000 * b + i)) (M 57 73) := fun b N h i hi2 => by show 0 ≤ N 71 (1000 * b + i) ∧ N 71 (1000 * b + i) ≤ 98901000000; rw [h i hi2]; exact hWb j (by omega) i hi2
        have inner : ∀ (p n : Nat) (M2 : zMem) (f1 : Int), 1000 < p + n → (n : Int) ≤ M 57 73 + 1 → (∀ i : Nat, (i : Int) ≤ M 57 73 → M2 71 (1000 * b + i) = zWr (M 57) C9 last j i) → (∀ i : Nat, i < n → M2 71 (1000 * (1 - b) + i) = zWr (M 57) C9 last (j + 1) i) → f1 = (zcs (M 57) C9 (zWr (M 57) C9 last j) (M 57 0).toNat (zhm (M 57) (M 57 0).toNat (last - ((j + 1 : Nat) : Int))) (M 57 76).toNat).1 → M2 72 = C9 → bF M M2 → zW mX11_best (d + 45) 0 0 [] (zJ sz S (fun r M' => r = zbst (M 57) (zCk Lw (M 57)) x y ∧ bF M M' ∧ ∀ g, g < 4 → 0 ≤ M' 72 g ∧ M' 72 g ≤ 99)) 118 [some (zn 55), some (zi x), some (zi y), some (zi last), some (zi (b : Int)), some (zi f1), some (zi (last - 1 - (j : Int))), some (zi n)] [] sz S M2 := by
          intro p
          induction p with
          | zero => intro n M2 f1 hp hn; omega
          | succ p ih2 =>
            intro n M2 f1 hp hn hr1 hr2 hf1 h722 hF2
            have e572 := bF_57 hF2
            refine x_iload 120 rfl dX11_best_118 rfl ?_
            refine x_aload_n 121 rfl dX11_best_120 0 rfl rfl ?_
            refine x_getr 124 rfl fX11_24 dX11_best_121 (lyl55 hL) (lys55 hL) (by decide) (57) rfl ?_
            refine x_bipush 126 rfl dX11_best_124 (by decide) ?_
            refine x_ialk 127 rfl dX11_best_126 (lyl57 hL) (lys57 hL) 73 rfl (by decide) ?_
            rw [e572]
            refine x_icmp_gt 130 162 rfl dX11_best_127 (by decide) (fun c127 => ?_) (fun c127 => ?_)
            · refine x_iconst 163 rfl dX11_best_162 (by decide) ?_
              refine x_iload 165 rfl dX11_best_163 rfl ?_
              refine y_isub 166 rfl dX11_best_165 (by omega) ?_
              refine y_istore 168 rfl dX11_best_166 rfl (ls' := [_, _, _, _, _, _, _, _]) rfl (by decide) ?_
              refine w_iinc 171 rfl dX11_best_168 rfl (by decide) (by omega) rfl (ls' := [_, _, _, _, _, _, _, _]) rfl (by decide) ?_
              refine x_goto 88 dX11_best_171 (by decide) ?_
              refine z_wk (ls' := [some (zn 55), some (zi x), some (zi y), some (zi last), some (zi ((1 - b : Nat) : Int)), some (zi f1), some (zi (last - 1 - ((j + 1 : Nat) : Int))), none]) ⟨rfl, rfl, rfl, rfl, z_e (by omega), rfl, z_e (by omega), trivial⟩ (ih (j + 1) M2 (1 - b) f1 (by omega) (by omega) (by omega) (fun i h => hr2 i (by omega)) (by rw [if_neg (by omega), hf1, Nat.add_sub_cancel]) h722 hF2)
            · refine x_aload_n 131 rfl dX11_best_130 0 rfl rfl ?_
              refine x_getr 134 rfl fX11_71 dX11_best_131 (lyl55 hL) (lys55 hL) (by decide) (71) rfl ?_
              refine x_sipush 137 rfl dX11_best_134 (by decide) ?_
              refine x_iconst 138 rfl dX11_best_137 (by decide) ?_
              refine x_iload 140 rfl dX11_best_138 rfl ?_
              refine y_isub 141 rfl dX11_best_140 (by omega) ?_
              refine y_imul 142 rfl dX11_best_141 (by omega) ?_
              refine x_iload 144 rfl dX11_best_142 rfl ?_
              refine y_iadd 145 rfl dX11_best_144 (by omega) ?_
              refine x_aload_n 146 rfl dX11_best_145 0 rfl rfl ?_
              refine x_iload 148 rfl dX11_best_146 rfl ?_
              refine x_iload 150 rfl dX11_best_148 rfl ?_
              refine x_iload 152 rfl dX11_best_150 rfl ?_
              refine x_cVj 155 rfl lX11_397 dX11_best_152 (lyl55 hL) (lys55 hL) (c_X11_bestWorth hL (by rw [e572]; exact hi) hb (by rw [e572]; exact hro b M2 hr1) (by rw [h722]; exact hC) (n := n) (by rw [e572]; omega) (by omega)) rfl rfl (Nat.le_of_ble_eq_true rfl) (fun r1 M3 hr3 => ?_)
              obtain ⟨hr4, hM3⟩ := hr3
              rw [hM3]
              rw [e572, h722, zcs_congr hi (f' := zWr (M 57) C9 last j) (fun i h => hr1 i h) hC0 (by omega) _ (by omega)] at hr4
              have hr4 : r1 = zWr (M 57) C9 last (j + 1) n := hr4
              refine x_last 156 rfl dX11_best_155 (lyl71 hL) (lys71 hL) (by omega) (by omega) ?_
              refine w_iinc 159 rfl dX11_best_156 rfl (by decide) (by omega) rfl (ls' := [_, _, _, _, _, _, _, _]) rfl (by decide) ?_
              refine x_goto 118 dX11_best_159 (by decide) ?_
              rw [show ((1000 : Int) * (1 - (b : Int)) + (n : Int)).toNat = 1000 * (1 - b) + n by omega]
              refine z_wk (ls' := [some (zn 55), some (zi x), some (zi y), some (zi last), some (zi (b : Int)), some (zi f1), some (zi (last - 1 - (j : Int))), some (zi ((n + 1 : Nat) : Int))]) ⟨rfl, rfl, rfl, rfl, rfl, rfl, rfl, rfl, trivial⟩ (ih2 (n + 1) _ f1 (by omega) (by omega) (fun i h => by rw [z_up_nk (by omega)]; exact hr1 i h) (fun i h => ?_) hf1 (by rw [z_up_ne (by decide)]; exact h722) (bF_up hF2 (by omega)))
              by_cases e : i = n
              · rw [e, z_up_eq]; exact hr4
              · rw [z_up_nk (by omega)]; exact hr2 i (by omega)
        refine x_iload 90 rfl dX11_best_88 rfl ?_
        refine x_aload_n 91 rfl dX11_best_90 0 rfl rfl ?_
        refine x_getr 94 rfl fX11_24 dX11_best_91 (lyl55 hL) (lys55 hL) (by decide) (57) rfl ?_
        refine x_iconst 95 rfl dX11_best_94 (by decide) ?_
        refine x_ialk 96 rfl dX11_best_95 (lyl57 hL) (lys57 hL) 2 rfl (by decide) ?_
        rw [e57]
        refine x_icmp_lt 99 174 rfl dX11_best_96 (by decide) (fun c96 => ?_) (fun c96 => ?_)
        · exfalso; omega
        · refine x_aload_n 100 rfl dX11_best_99 0 rfl rfl ?_
          refine x_aload_n 101 rfl dX11_best_100 0 rfl rfl ?_
          refine x_getr 104 rfl fX11_24 dX11_best_101 (lyl55 hL) (lys55 hL) (by decide) (57) rfl ?_
          refine x_iconst 105 rfl dX11_best_104 (by decide) ?_
          refine x_ialk 106 rfl dX11_best_105 (lyl57 hL) (lys57 hL) 0 rfl (by decide) ?_
          rw [e57]
          rw [show zi (M 57 0) = zi (((M 57 0).toNat : Nat) : Int) by rw [show (((M 57 0).toNat : Nat) : Int) = M 57 0 by omega]]
          refine x_iload 108 rfl dX11_best_106 rfl ?_
          refine x_iload 110 rfl dX11_best_108 rfl ?_
          refine x_cVi 113 rfl lX11_389 dX11_best_110 (lyl55 hL) (lys55 hL) (c_X11_choice hL (by rw [e57]; exact hi) hb (by rw [e57]; exact hro b M1 hrow) (by rw [h721]; exact hC) (n := (M 57 0).toNat) (by rw [e57]; omega) (by omega)) rfl rfl (Nat.le_of_ble_eq_true rfl) (fun r1 M2 hr1 => ?_)
          obtain ⟨hr2, hM2⟩ := hr1
          rw [hM2]
          rw [e57, h721, zcs_congr hi (f' := zWr (M 57) C9 last j) (fun i h => hrow i h) hC0 (by omega) _ (by omega)] at hr2
          refine y_istore 115 rfl dX11_best_113 rfl (ls' := [_, _, _, _, _, _, _, _]) rfl (by decide) ?_
          refine x_iconst 116 rfl dX11_best_115 (by decide) ?_
          refine y_istore 118 rfl dX11_best_116 rfl (ls' := [_, _, _, _, _, _, _, _]) rfl (by decide) ?_
          refine z_wk (ls' := [some (zn 55), some (zi x), some (zi y), some (zi last), some (zi (b : Int)), some (zi r1), some (zi (last - 1 - (j : Int))), some (zi ((0 : Nat) : Int))]) ⟨rfl, rfl, rfl, rfl, rfl, rfl, rfl, rfl, trivial⟩ (inner 1001 0 M1 r1 (by omega) (by omega) hrow (fun i h => by omega) (by rw [hr2, show last - ((j + 1 : Nat) : Int) = last - 1 - (j : Int) by omega]) h721 hF1)
    have fill : ∀ (p n : Nat) (M1 : zMem), 1000 < p + n → (n : Int) ≤ M 57 73 + 1 → (∀ i : Nat, i < n → M1 71 i = zhm (M 57) i last) → M1 72 = C9 → bF M M1 → zW mX11_best (d + 45) 0 0 [] (zJ sz S (fun r M' => r = zbst (M 57) (zCk Lw (M 57)) x y ∧ bF M M' ∧ ∀ g, g < 4 → 0 ≤ M' 72 g ∧ M' 72 g ≤ 99)) 47 [some (zn 55), some (zi x), some (zi y), some (zi last), some (zi 0), some (zi n), none, none] [] sz S M1 := by
      intro p
      induction p with
      | zero => intro n M1 hp hn; omega
      | succ p ih =>
        intro n M1 hp hn h1 h721 hF1
        have e57 := bF_57 hF1
        refine x_iload 49 rfl dX11_best_47 rfl ?_
        refine x_aload_n 50 rfl dX11_best_49 0 rfl rfl ?_
        refine x_getr 53 rfl fX11_24 dX11_best_50 (lyl55 hL) (lys55 hL) (by decide) (57) rfl ?_
        refine x_bipush 55 rfl dX11_best_53 (by decide) ?_
        refine x_ialk 56 rfl dX11_best_55 (lyl57 hL) (lys57 hL) 73 rfl (by decide) ?_
        rw [e57]
        refine x_icmp_gt 59 79 rfl dX11_best_56 (by decide) (fun c56 => ?_) (fun c56 => ?_)
        · refine x_bipush 81 rfl dX11_best_79 (by decide) ?_
          refine y_istore 83 rfl dX11_best_81 rfl (ls' := [_, _, _, _, _, _, _, _]) rfl (by decide) ?_
          refine x_iload_n 84 rfl dX11_best_83 3 rfl rfl ?_
          refine x_iconst 85 rfl dX11_best_84 (by decide) ?_
          refine y_isub 86 rfl dX11_best_85 (by omega) ?_
          refine y_istore 88 rfl dX11_best_86 rfl (ls' := [_, _, _, _, _, _, _, _]) rfl (by decide) ?_
          refine z_wk (ls' := [some (zn 55), some (zi x), some (zi y), some (zi last), some (zi ((0 : Nat) : Int)), some (zi 100), some (zi (last - 1 - ((0 : Nat) : Int))), none]) ⟨rfl, rfl, rfl, rfl, rfl, rfl, z_e (by omega), trivial⟩ (main ((last - M 57 2).toNat + 1) 0 M1 0 100 (by omega) (by omega) (by omega) (fun i h => by rw [show 1000 * 0 + i = i by omega]; exact h1 i (by omega)) (by rw [if_pos rfl]) h721 hF1)
        · refine x_aload_n 60 rfl dX11_best_59 0 rfl rfl ?_
          refine x_getr 63 rfl fX11_71 dX11_best_60 (lyl55 hL) (lys55 hL) (by decide) (71) rfl ?_
          refine x_iload 65 rfl dX11_best_63 rfl ?_
          refine x_aload_n 66 rfl dX11_best_65 0 rfl rfl ?_
          refine x_iload 68 rfl dX11_best_66 rfl ?_
          refine x_iload_n 69 rfl dX11_best_68 3 rfl rfl ?_
          refine x_cVj 72 rfl lX11_381 dX11_best_69 (lyl55 hL) (lys55 hL) (c_X11_homeWorth hL (by rw [e57]; exact hi) (n := n) (by rw [e57]; omega) (by omega)) rfl rfl (Nat.le_of_ble_eq_true rfl) (fun r1 M3 hr3 => ?_)
          obtain ⟨hr4, hM3⟩ := hr3
          rw [hM3]
          rw [e57] at hr4
          refine x_last 73 rfl dX11_best_72 (lyl71 hL) (lys71 hL) (by omega) (by omega) ?_
          refine w_iinc 76 rfl dX11_best_73 rfl (by decide) (by omega) rfl (ls' := [_, _, _, _, _, _, _, _]) rfl (by decide) ?_
          refine x_goto 47 dX11_best_76 (by decide) ?_
          rw [show ((n : Int)).toNat = n by omega]
          refine z_wk (ls' := [some (zn 55), some (zi x), some (zi y), some (zi last), some (zi 0), some (zi ((n + 1 : Nat) : Int)), none, none]) ⟨rfl, rfl, rfl, rfl, rfl, rfl, trivial⟩ (ih (n + 1) _ (by omega) (by omega) (fun i h => ?_) (by rw [z_up_ne (by decide)]; exact h721) (bF_up hF1 (by omega)))
          by_cases e : i = n
          · rw [e, z_up_eq]; exact hr4
          · rw [z_up_nk e]; exact h1 i (by omega)
    refine x_iconst 45 rfl dX11_best_44 (by decide) ?_
    refine y_istore 47 rfl dX11_best_45 rfl (ls' := [_, _, _, _, _, _, _, _]) rfl (by decide) ?_
    exact fill 1001 0 M9 (by omega) (by omega) (fun i h => by omega) h729 hF9
  refine zX_of pl_RX11 [some (zn 55), some (zi x), some (zi y), none, none, none, none, none] 5 rfl rfl ?_
  refine x_iload_n 1 rfl dX11_best_0 1 rfl rfl ?_
  refine x_iconst 2 rfl dX11_best_1 (by decide) ?_
  refine x_bipush 4 rfl dX11_best_2 (by decide) ?_
  refine x_cSi 7 rfl lX11_90 dX11_best_4 c_X11_lies rfl rfl (Nat.le_of_ble_eq_true rfl) (fun a1 M8 ha1 => ?_)
  obtain ⟨ha2, hM8⟩ := ha1
  rw [hM8]
  refine x_if_eq 10 19 rfl dX11_best_7 (by decide) (fun c7 => ?_) (fun c7 => ?_)
  · have hx : ¬ (0 ≤ x ∧ x ≤ 12) := fun h9 => by rw [if_pos h9] at ha2; omega
    refine x_ldc2 (x := -1) 22 rfl klX11_392 (by decide) dX11_best_19 ?_
    refine x_retj dX11_best_22 rfl ?_
    exact ⟨by unfold zbst; rw [if_neg (fun h9 => hx h9.1)], bF_refl, h72⟩
  · have hx : 0 ≤ x ∧ x ≤ 12 := Decidable.byContradiction (fun h9 => by rw [if_neg h9] at ha2; omega)
    refine x_iload_n 11 rfl dX11_best_10 2 rfl rfl ?_
    refine x_iconst 12 rfl dX11_best_11 (by decide) ?_
    refine x_iconst 13 rfl dX11_best_12 (by decide) ?_
    refine x_cSi 16 rfl lX11_90 dX11_best_13 c_X11_lies rfl rfl (Nat.le_of_ble_eq_true rfl) (fun a3 M7 ha3 => ?_)
    obtain ⟨ha4, hM7⟩ := ha3
    rw [hM7]
    refine x_if_ne 19 23 rfl dX11_best_16 (by decide) (fun c16 => ?_) (fun c16 => ?_)
    · have hy : 0 ≤ y ∧ y ≤ 1 := Decidable.byContradiction (fun h9 => by rw [if_neg h9] at ha4; omega)
      refine x_bipush 25 rfl dX11_best_23 (by decide) ?_
      refine x_aload_n 26 rfl dX11_best_25 0 rfl rfl ?_
      refine x_getr 29 rfl fX11_24 dX11_best_26 (lyl55 hL) (lys55 hL) (by decide) (57) rfl ?_
      refine x_iconst 30 rfl dX11_best_29 (by decide) ?_
      refine x_ialk 31 rfl dX11_best_30 (lyl57 hL) (lys57 hL) 2 rfl (by decide) ?_
      refine x_iload_n 32 rfl dX11_best_31 1 rfl rfl ?_
      refine y_iadd 33 rfl dX11_best_32 (by omega) ?_
      refine x_cSi 36 rfl lX11_325 dX11_best_33 c_X11_lesser rfl rfl (Nat.le_of_ble_eq_true rfl) (fun a5 M6 ha5 => ?_)
      obtain ⟨ha6, hM6⟩ := ha5
      rw [hM6]
      refine y_istore_n 37 rfl dX11_best_36 rfl rfl (ls' := [_, _, _, _, _, _, _, _]) rfl (by decide) ?_
      refine x_iconst 38 rfl dX11_best_37 (by decide) ?_
      refine y_istore 40 rfl dX11_best_38 rfl (ls' := [_, _, _, _, _, _, _, _]) rfl (by decide) ?_
      refine x_aload_n 41 rfl dX11_best_40 0 rfl rfl ?_
      refine x_cVu 44 rfl lX11_394 dX11_best_41 (lyl55 hL) (lys55 hL) (c_X11_laysCasks (Lw := Lw) hL hi hLw) rfl rfl (Nat.le_of_ble_eq_true rfl) (fun M5 ha7 => ?_)
      obtain ⟨hk1, hk2, hk3, hk4⟩ := ha7
      refine body ⟨hx, hy⟩ (M5 72) a5 ha6 (fun g hg => ?_) (fun g hg => ?_) M5 rfl hk4
      · rcases Classical.em ((g : Int) < M 57 76) with h | h
        · rw [hk1 g h]; have := zcasks_in (Lw := Lw) (k := M 57) (g := g) (crew := zcrew (M 57)); omega
        · rw [hk2 g (by omega)]; exact h72 g hg
      · rw [hk1 g (by omega)]; unfold zCk; rw [if_pos (by omega)]
    · have hy : ¬ (0 ≤ y ∧ y ≤ 1) := fun h9 => by rw [if_pos h9] at ha4; omega
      refine x_ldc2 (x := -1) 22 rfl klX11_392 (by decide) dX11_best_19 ?_
      refine x_retj dX11_best_22 rfl ?_
      exact ⟨by unfold zbst; rw [if_neg (fun h9 => hy h9.2)], bF_refl, h72⟩
