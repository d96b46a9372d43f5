/-! best, as the class calls it -/
/-- the class's scratch apart, nothing has changed -/
def qF (M M' : zMem) : Prop := (∀ i, i ≠ 41 → i ≠ 42 → i ≠ 50 → i ≠ 51 → i ≠ 52 → M' i = M i) ∧ v42 M'
theorem qF_refl {M : zMem} (h : v42 M) : qF M M := ⟨fun _ _ _ _ _ _ => rfl, h⟩
theorem qF_jF {M M1 M2 : zMem} (h : qF M M1) (h1 : jF M1 M2) : qF M M2 := ⟨fun i a b c d e => (h1.1 i a b).trans (h.1 i a b c d e), h1.2⟩
theorem qF_one {M M1 M2 : zMem} {a : Nat} (ha : a = 50 ∨ a = 51 ∨ a = 52) (h : qF M M1) (h1 : ∀ i, i ≠ a → M2 i = M1 i) : qF M M2 := ⟨fun i b c d e f => (h1 i (by omega)).trans (h.1 i b c d e f), fun j hj => by rw [h1 42 (by omega)]; exact h.2 j hj⟩
theorem qF_SR {M M1 : zMem} {k : Nat → Int} (hs : SR M 1 k) (h : qF M M1) : SR M1 1 k := SR_frame hs (fun i a b => h.1 i (by omega) (by omega) (by omega) (by omega) (by omega))
theorem qF_Lw {S : zSh} {sz : Nat} {M M1 : zMem} {k : Nat → Int} {Lw : List gC} (hL : LwC S sz M 1 k Lw) (h : qF M M1) : LwC S sz M1 1 k Lw := LwC_frame hL rfl (h.1 11 (by decide) (by decide) (by decide) (by decide) (by decide)) (fun i hh => h.1 i (by omega) (by omega) (by omega) (by omega) (by omega))

set_option maxRecDepth 100000 in
set_option maxHeartbeats 4000000 in
theorem c_X5_bestOf {d sz : Nat} {S : zSh} {M : zMem} (hL : LY S sz) {k : Nat → Int} (hs : SR M 1 k) (hi : KI k) {Lw : List gC} (hLw : LwC S sz M 1 k Lw) (hv : v42 M) (h52 : ∀ g, g < 4 → 0 ≤ M 52 g ∧ M 52 g ≤ 99) (h50 : zfB (M 50) 999) {x t : Int} (hx : 0 ≤ x ∧ x ≤ 12) (ht : t = 0 ∨ t = 1) : zX (d + 4) 0 0 mX5_bestOf [zn 49, zn 1, zi x, zi t] sz S M (zJ sz S (fun r M' => r = zbst k (zCk Lw k) x t ∧ qF M M' ∧ (∀ g, g < 4 → 0 ≤ M' 52 g ∧ M' 52 g ≤ 99) ∧ zfB (M' 50) 999)) := by
  have i1 := hi.1
  have e70 := hs.2.1.1
  have hcr := zcrew_in hi
  obtain ⟨nn, hnn⟩ : ∃ nn : Nat, (nn : Int) = min x (71 - k 2) := ⟨(min x (71 - k 2)).toNat, by omega⟩
  have body : ∀ (C9 : Nat → Int), (∀ g, g < 4 → 0 ≤ C9 g ∧ C9 g ≤ 99) → (∀ g, g < (k 76).toNat → C9 g = zCk Lw k g) → ∀ M9 : zMem, M9 52 = C9 → zRJ k C9 (M9 51) (k 73).toNat 0 1 → zfB (M9 50) 999 → qF M M9 → zW mX5_bestOf (d + 4) 0 0 [] (zJ sz S (fun r M' => r = zbst k (zCk Lw k) x t ∧ qF M M' ∧ (∀ g, g < 4 → 0 ≤ M' 52 g ∧ M' 52 g ≤ 99) ∧ zfB (M' 50) 999)) 59 [some (zn 49), some (zn 1), some (zi x), some (zi t), some (zi (nn : Int)), none, none, none, none, none, none] [] sz S M9 := by
    intro C9 hC hCk M9 h529 hJ h509 hF9
    have hC0 : ∀ g, g < 4 → 0 ≤ C9 g := fun g hg => (hC g hg).1
    have hrow : ∀ (M1 : zMem) (j : Nat) (m : Int) (i : Nat) (h0 : Int), M1 51 = M9 51 → k 0 ≤ (i : Int) → (i : Int) ≤ k 73 → M9 51 i ≤ m → m ≤ 12 → (∀ i : Nat, k 0 ≤ (i : Int) → (i : Int) ≤ k 73 → M9 51 i ≤ m + 1 → M1 50 i = zWr k C9 (k 2 + (nn : Int)) j i) → zcs k C9 (M1 50) i h0 (k 76).toNat = zcs k C9 (zWr k C9 (k 2 + (nn : Int)) j) i h0 (k 76).toNat := by
      intro M1 j m i h0 e51 a b c d hr
      refine zcs_cg (hr i a b (by omega)) _ (fun g w a1 b1 c1 => ?_)
      have hcg := hC0 g (by omega)
      have hth := zthen_in (C := C9) hi (g := g) (o := i) (w := w) hcg
      have hge := zthen_ge (C := C9) hi (g := g) (o := i) (w := w) hcg b
      rcases Classical.em (i < (k 73).toNat) with h | h
      · have h5 := hJ.2.2.1 i a h (by omega) g w (by omega) b1 c1
        exact hr _ (by omega) hth.1 (by omega)
      · have e9 : zthen k C9 g i w = i := by omega
        rw [e9]; exact hr i a b (by omega)
    have last : ∀ M1 : zMem, M1 52 = C9 → M1 51 = M9 51 → zfB (M1 50) 999 → qF M M1 → (0 < nn → ∀ i : Nat, k 0 ≤ (i : Int) → (i : Int) ≤ k 73 → M9 51 i ≤ 1 → M1 50 i = zWr k C9 (k 2 + (nn : Int)) (nn - 1) i) → ∀ (q g : Nat) (a v : Int), 5 < q + g → (g : Int) ≤ k 76 → zcs k C9 (M1 50) (k 0).toNat (zhm k (k 0).toNat (k 2)) g = (a, v) → (nn = 0 → g = 0) → zW mX5_bestOf (d + 4) 0 0 [] (zJ sz S (fun r M' => r = zbst k (zCk Lw k) x t ∧ qF M M' ∧ (∀ g, g < 4 → 0 ≤ M' 52 g ∧ M' 52 g ≤ 99) ∧ zfB (M' 50) 999)) 111 [some (zn 49), some (zn 1), some (zi x), some (zi t), some (zi (nn : Int)), some (zl v), none, some (zi a), some (zi g), none, none] [] sz S M1 := by
      intro M1 h521 e51 h501 hF1 hr q
      have hs1 := qF_SR hs hF1
      have e5 := hs1.1.2.2.1
      have e8 := hs1.1.2.2.2.1
      have hfk : zfB (M1 50) (k 73) := fun i hh => h501 i (by omega)
      induction q with
      | zero => intro g a v hq hg; omega
      | succ q ih =>
        intro g a v hq hg hz hn0
        have fin : (nn = 0 ∨ (g : Int) = k 76) → (t = 0 → v = zbst k (zCk Lw k) x t) ∧ (t = 1 → a = zbst k (zCk Lw k) x t) := by
          intro hh
          rw [← zbst_C hCk]
          have el : min 71 (k 2 + x) = k 2 + (nn : Int) := by omega
          unfold zbst
          rw [if_pos ⟨hx, by omega⟩, el, show (k 2 + (nn : Int) - k 2).toNat = nn by omega]
          rcases Classical.em (nn = 0) with en | en
          · rw [hn0 en] at hz
            have hz : ((100 : Int), zhm k (k 0).toNat (k 2)) = (a, v) := hz
            obtain ⟨h1, h2⟩ := Prod.mk.inj hz
            subst h1; subst h2; subst en
            refine ⟨fun e => ?_, fun e => ?_⟩
            · rw [if_pos e]; show _ = zhm k (k 0).toNat (k 2 + ((0 : Nat) : Int)); rw [show k 2 + ((0 : Nat) : Int) = k 2 by omega]
            · rw [if_neg (by omega), if_pos (by omega)]
          · have hz2 : zcs k C9 (zWr k C9 (k 2 + (nn : Int)) (nn - 1)) (k 0).toNat (zhm k (k 0).toNat (k 2)) (k 76).toNat = (a, v) := by
              rw [← hrow M1 (nn - 1) 0 (k 0).toNat _ e51 (by omega) (by omega) (by rw [hJ.2.1]; omega) (by omega) (fun i b c d => hr (by omega) i b c (by omega)), show (k 76).toNat = g by omega]
              exact hz
            refine ⟨fun e => ?_, fun e => ?_⟩
            · rw [if_pos e]
              have ew : zWr k C9 (k 2 + (nn : Int)) (nn - 1 + 1) (k 0).toNat = (zcs k C9 (zWr k C9 (k 2 + (nn : Int)) (nn - 1)) (k 0).toNat (zhm k (k 0).toNat (k 2 + (nn : Int) - 1 - ((nn - 1 : Nat) : Int))) (k 76).toNat).2 := rfl
              rw [show nn - 1 + 1 = nn by omega, show k 2 + (nn : Int) - 1 - ((nn - 1 : Nat) : Int) = k 2 by omega, hz2] at ew
              exact ew.symm
            · rw [if_neg (by omega), if_neg (by omega), hz2]
        refine x_iload 113 rfl dX5_bestOf_111 rfl ?_
        refine x_if_le 116 160 rfl dX5_bestOf_113 (by decide) (fun c113 => ?_) (fun c113 => ?_)
        · refine x_iload_n 161 rfl dX5_bestOf_160 3 rfl rfl ?_
          refine x_if_eq 164 170 rfl dX5_bestOf_161 (by decide) (fun c161 => ?_) (fun c161 => ?_)
          · refine x_lload 172 rfl dX5_bestOf_170 rfl ?_
            refine x_retj dX5_bestOf_172 rfl ?_
            have hfin := fin (by omega)
            refine ⟨?_, hF1, by rw [h521]; exact hC, h501⟩
            first | exact hfin.1 (by omega) | exact hfin.2 (by omega)
          · refine x_iload 166 rfl dX5_bestOf_164 rfl ?_
            refine x_i2l 167 rfl dX5_bestOf_166 ?_
            refine x_goto 172 dX5_bestOf_167 (by decide) ?_
            refine x_retj dX5_bestOf_172 rfl ?_
            have hfin := fin (by omega)
            refine ⟨?_, hF1, by rw [h521]; exact hC, h501⟩
            first | exact hfin.1 (by omega) | exact hfin.2 (by omega)
        · refine x_iload 118 rfl dX5_bestOf_116 rfl ?_
          refine x_aload_n 119 rfl dX5_bestOf_118 1 rfl rfl ?_
          refine x_geti 122 rfl fX5_40 dX5_bestOf_119 (lyl1 hL) (lys1 hL) (by decide) ?_
          rw [e5]
          refine x_icmp_ge 125 160 rfl dX5_bestOf_122 (by decide) (fun c122 => ?_) (fun c122 => ?_)
          · refine x_iload_n 161 rfl dX5_bestOf_160 3 rfl rfl ?_
            refine x_if_eq 164 170 rfl dX5_bestOf_161 (by decide) (fun c161 => ?_) (fun c161 => ?_)
            · refine x_lload 172 rfl dX5_bestOf_170 rfl ?_
              refine x_retj dX5_bestOf_172 rfl ?_
              have hfin := fin (by omega)
              refine ⟨?_, hF1, by rw [h521]; exact hC, h501⟩
              first | exact hfin.1 (by omega) | exact hfin.2 (by omega)
            · refine x_iload 166 rfl dX5_bestOf_164 rfl ?_
              refine x_i2l 167 rfl dX5_bestOf_166 ?_
              refine x_goto 172 dX5_bestOf_167 (by decide) ?_
              refine x_retj dX5_bestOf_172 rfl ?_
              have hfin := fin (by omega)
              refine ⟨?_, hF1, by rw [h521]; exact hC, h501⟩
              first | exact hfin.1 (by omega) | exact hfin.2 (by omega)
          · refine x_aload_n 126 rfl dX5_bestOf_125 0 rfl rfl ?_
            refine x_aload_n 127 rfl dX5_bestOf_126 1 rfl rfl ?_
            refine x_iload 129 rfl dX5_bestOf_127 rfl ?_
            refine x_aload_n 130 rfl dX5_bestOf_129 1 rfl rfl ?_
            refine x_geti 133 rfl fX5_62 dX5_bestOf_130 (lyl1 hL) (lys1 hL) (by decide) ?_
            rw [e8]
            rw [show zi (k 0) = zi (((k 0).toNat : Nat) : Int) by rw [show (((k 0).toNat : Nat) : Int) = k 0 by omega]]
            refine x_cVj 136 rfl lX5_69 dX5_bestOf_133 (lyl49 hL) (lys49 hL) (c_X5_averageOf hL hs1 hi h521 hC hfk (n := (k 0).toNat) (by omega) (g := g) (by omega)) rfl rfl (Nat.le_of_ble_eq_true rfl) (fun r1 M2 hr1 => ?_)
            obtain ⟨hr2, hM2⟩ := hr1
            rw [hM2]
            subst hr2
            refine y_lstore 138 rfl dX5_bestOf_136 rfl (ls' := [_, _, _, _, _, _, _, _, _, _, _]) rfl (by decide) ?_
            refine x_lload 140 rfl dX5_bestOf_138 rfl ?_
            refine x_lload 142 rfl dX5_bestOf_140 rfl ?_
            refine x_lcmp 143 rfl dX5_bestOf_142 ?_
            refine x_if_le 146 154 rfl dX5_bestOf_143 (by decide) (fun c143 => ?_) (fun c143 => ?_)
            · have c143 := zcmp_le.1 c143
              refine w_iinc 157 rfl dX5_bestOf_154 rfl (by decide) (by omega) rfl (ls' := [_, _, _, _, _, _, _, _, _, _, _]) rfl (by decide) ?_
              refine x_goto 111 dX5_bestOf_157 (by decide) ?_
              refine z_wk (ls' := [some (zn 49), some (zn 1), some (zi x), some (zi t), some (zi (nn : Int)), some (zl _), none, some (zi a), some (zi ((g + 1 : Nat) : Int)), none, none]) ⟨rfl, rfl, rfl, rfl, rfl, rfl, rfl, rfl, trivial⟩ (ih (g + 1) a _ (by omega) (by omega) (zcs_n hz (by omega)) (fun e => by omega))
            · have c143 : v < zav k C9 (M1 50) g (k 0).toNat := Int.not_le.1 (fun h => c143 (zcmp_le.2 h))
              refine x_lload 148 rfl dX5_bestOf_146 rfl ?_
              refine y_lstore 150 rfl dX5_bestOf_148 rfl (ls' := [_, _, _, _, _, _, _, _, _, _, _]) rfl (by decide) ?_
              refine x_iload 152 rfl dX5_bestOf_150 rfl ?_
              refine y_istore 154 rfl dX5_bestOf_152 rfl (ls' := [_, _, _, _, _, _, _, _, _, _, _]) rfl (by decide) ?_
              refine w_iinc 157 rfl dX5_bestOf_154 rfl (by decide) (by omega) rfl (ls' := [_, _, _, _, _, _, _, _, _, _, _]) rfl (by decide) ?_
              refine x_goto 111 dX5_bestOf_157 (by decide) ?_
              refine z_wk (ls' := [some (zn 49), some (zn 1), some (zi x), some (zi t), some (zi (nn : Int)), some (zl _), none, some (zi (g : Int)), some (zi ((g + 1 : Nat) : Int)), none, none]) ⟨rfl, rfl, rfl, rfl, rfl, rfl, rfl, rfl, trivial⟩ (ih (g + 1) _ _ (by omega) (by omega) (zcs_y hz c143) (fun e => by omega))
    have months : ∀ (q j : Nat) (M1 : zMem), nn < q + j → j ≤ nn → M1 52 = C9 → M1 51 = M9 51 → zfB (M1 50) 999 → qF M M1 → (0 < j → ∀ i : Nat, k 0 ≤ (i : Int) → (i : Int) ≤ k 73 → M9 51 i ≤ (nn : Int) - (j : Int) + 1 → M1 50 i = zWr k C9 (k 2 + (nn : Int)) (j - 1) i) → zW mX5_bestOf (d + 4) 0 0 [] (zJ sz S (fun r M' => r = zbst k (zCk Lw k) x t ∧ qF M M' ∧ (∀ g, g < 4 → 0 ≤ M' 52 g ∧ M' 52 g ≤ 99) ∧ zfB (M' 50) 999)) 63 [some (zn 49), some (zn 1), some (zi x), some (zi t), some (zi (nn : Int)), some (zi ((nn : Int) - (j : Int))), none, none, none, none, none] [] sz S M1 := by
      intro q
      induction q with
      | zero => intro j M1 hq hj; omega
      | succ q ih =>
        intro j M1 hq hj h521 e51 h501 hF1 hr
        have hs1 := qF_SR hs hF1
        have e8 := hs1.1.2.2.2.1
        have hfk : zfB (M1 50) (k 73) := fun i hh => h501 i (by omega)
        have nxt : ∀ (lst : Int) (M2 : zMem), (lst = 0 ∨ lst = 1) → (lst = 1 ↔ j = 0) → 0 < (nn : Int) - (j : Int) → (∀ i : Nat, k 0 ≤ (i : Int) → (i : Int) ≤ k 73 → M1 51 i ≤ (nn : Int) - (j : Int) → M2 50 i = (if lst = 1 then zhm k i (k 2 + ((nn : Int) - (j : Int))) else (zcs k C9 (M1 50) i (zhm k i (k 2 + ((nn : Int) - (j : Int)))) (k 76).toNat).2)) → zfB (M2 50) (k 73) → (∀ i : Nat, k 73 < (i : Int) → M2 50 i = M1 50 i) → (∀ i, i ≠ 50 → M2 i = M1 i) → zW mX5_bestOf (d + 4) 0 0 [] (zJ sz S (fun r M' => r = zbst k (zCk Lw k) x t ∧ qF M M' ∧ (∀ g, g < 4 → 0 ≤ M' 52 g ∧ M' 52 g ≤ 99) ∧ zfB (M' 50) 999)) 63 [some (zn 49), some (zn 1), some (zi x), some (zi t), some (zi (nn : Int)), some (zi ((nn : Int) - ((j + 1 : Nat) : Int))), none, none, none, none, none] [] sz S M2 := by
          intro lst M2 hl hlj hm h1 h2 h3 h4
          refine ih (j + 1) M2 (by omega) (by omega) (by rw [h4 52 (by decide)]; exact h521) (by rw [h4 51 (by decide)]; exact e51) (fun i hh => ?_) (qF_one (Or.inl rfl) hF1 h4) (fun _ i a b c => ?_)
          · rcases Classical.em ((i : Int) ≤ k 73) with h | h
            · exact h2 i h
            · rw [h3 i (by omega)]; exact h501 i hh
          · rw [h1 i a b (by rw [e51]; omega), Nat.add_sub_cancel]
            rcases Classical.em (j = 0) with e | e
            · rw [if_pos (hlj.2 e), e]; show _ = zhm k i (k 2 + (nn : Int)); rw [show (nn : Int) - ((0 : Nat) : Int) = (nn : Int) by omega]
            · rw [if_neg (fun h => e (hlj.1 h)), hrow M1 (j - 1) ((nn : Int) - (j : Int)) i _ e51 a b (by omega) (by omega) (fun i2 a2 b2 c2 => hr (by omega) i2 a2 b2 (by omega))]
              have ew : zWr k C9 (k 2 + (nn : Int)) (j - 1 + 1) i = (zcs k C9 (zWr k C9 (k 2 + (nn : Int)) (j - 1)) i (zhm k i (k 2 + (nn : Int) - 1 - ((j - 1 : Nat) : Int))) (k 76).toNat).2 := rfl
              rw [show j - 1 + 1 = j by omega, show k 2 + (nn : Int) - 1 - ((j - 1 : Nat) : Int) = k 2 + ((nn : Int) - (j : Int)) by omega] at ew
              exact ew.symm
        refine x_iload 65 rfl dX5_bestOf_63 rfl ?_
        refine x_if_le 68 93 rfl dX5_bestOf_65 (by decide) (fun c65 => ?_) (fun c65 => ?_)
        · have ej : j = nn := by omega
          subst ej
          refine x_aload_n 94 rfl dX5_bestOf_93 1 rfl rfl ?_
          refine x_aload_n 95 rfl dX5_bestOf_94 1 rfl rfl ?_
          refine x_geti 98 rfl fX5_62 dX5_bestOf_95 (lyl1 hL) (lys1 hL) (by decide) ?_
          rw [e8]
          rw [show zi (k 0) = zi (((k 0).toNat : Nat) : Int) by rw [show (((k 0).toNat : Nat) : Int) = k 0 by omega]]
          refine x_iconst 99 rfl dX5_bestOf_98 (by decide) ?_
          refine x_cSj 102 rfl lX5_65 dX5_bestOf_99 (c_X5_homeFor hL hs1 hi (n := (k 0).toNat) (by omega) (by omega) (by omega)) rfl rfl (Nat.le_of_ble_eq_true rfl) (fun r5 M5 hr5 => ?_)
          obtain ⟨hr6, hM5⟩ := hr5
          rw [hM5]
          rw [show k 2 + 0 = k 2 by omega] at hr6
          subst hr6
          refine y_lstore 104 rfl dX5_bestOf_102 rfl (ls' := [_, _, _, _, _, _, _, _, _, _, _]) rfl (by decide) ?_
          refine x_bipush 106 rfl dX5_bestOf_104 (by decide) ?_
          refine y_istore 108 rfl dX5_bestOf_106 rfl (ls' := [_, _, _, _, _, _, _, _, _, _, _]) rfl (by decide) ?_
          refine x_iconst 109 rfl dX5_bestOf_108 (by decide) ?_
          refine y_istore 111 rfl dX5_bestOf_109 rfl (ls' := [_, _, _, _, _, _, _, _, _, _, _]) rfl (by decide) ?_
          refine z_wk (ls' := [some (zn 49), some (zn 1), some (zi x), some (zi t), some (zi (j : Int)), some (zl _), none, some (zi 100), some (zi ((0 : Nat) : Int)), none, none]) ⟨rfl, rfl, rfl, rfl, rfl, rfl, rfl, rfl, trivial⟩ (last M1 h521 e51 h501 hF1 (fun h i a b c => hr h i a b (by omega)) 6 0 100 _ (by omega) (by omega) rfl (fun _ => rfl))
        · refine x_aload_n 69 rfl dX5_bestOf_68 0 rfl rfl ?_
          refine x_aload_n 70 rfl dX5_bestOf_69 1 rfl rfl ?_
          refine x_iload 72 rfl dX5_bestOf_70 rfl ?_
          refine x_iload 74 rfl dX5_bestOf_72 rfl ?_
          refine x_iload 76 rfl dX5_bestOf_74 rfl ?_
          refine x_icmp_ne 79 83 rfl dX5_bestOf_76 (by decide) (fun c76 => ?_) (fun c76 => ?_)
          · refine x_iconst 84 rfl dX5_bestOf_83 (by decide) ?_
            refine x_cVu 87 rfl lX5_58 dX5_bestOf_84 (lyl49 hL) (lys49 hL) (c_X5_fillMonth hL hs1 hi h521 hC hfk (by rw [e51]; exact hJ.1) (by omega) (by omega)) rfl rfl (Nat.le_of_ble_eq_true rfl) (fun M7 hr7 => ?_)
            obtain ⟨g1, g2, g3, g4⟩ := hr7
            refine w_iinc 90 rfl dX5_bestOf_87 rfl (by decide) (by omega) rfl (ls' := [_, _, _, _, _, _, _, _, _, _, _]) rfl (by decide) ?_
            refine x_goto 63 dX5_bestOf_90 (by decide) ?_
            refine z_wk (ls' := [some (zn 49), some (zn 1), some (zi x), some (zi t), some (zi (nn : Int)), some (zi ((nn : Int) - ((j + 1 : Nat) : Int))), none, none, none, none, none]) ⟨rfl, rfl, rfl, rfl, rfl, z_e (by omega), trivial⟩ (nxt _ M7 (by omega) (by omega) (by omega) g1 g2 g3 g4)
          · refine x_iconst 80 rfl dX5_bestOf_79 (by decide) ?_
            refine x_goto 84 dX5_bestOf_80 (by decide) ?_
            refine x_cVu 87 rfl lX5_58 dX5_bestOf_84 (lyl49 hL) (lys49 hL) (c_X5_fillMonth hL hs1 hi h521 hC hfk (by rw [e51]; exact hJ.1) (by omega) (by omega)) rfl rfl (Nat.le_of_ble_eq_true rfl) (fun M7 hr7 => ?_)
            obtain ⟨g1, g2, g3, g4⟩ := hr7
            refine w_iinc 90 rfl dX5_bestOf_87 rfl (by decide) (by omega) rfl (ls' := [_, _, _, _, _, _, _, _, _, _, _]) rfl (by decide) ?_
            refine x_goto 63 dX5_bestOf_90 (by decide) ?_
            refine z_wk (ls' := [some (zn 49), some (zn 1), some (zi x), some (zi t), some (zi (nn : Int)), some (zi ((nn : Int) - ((j + 1 : Nat) : Int))), none, none, none, none, none]) ⟨rfl, rfl, rfl, rfl, rfl, z_e (by omega), trivial⟩ (nxt _ M7 (by omega) (by omega) (by omega) g1 g2 g3 g4)
    refine x_iload 61 rfl dX5_bestOf_59 rfl ?_
    refine y_istore 63 rfl dX5_bestOf_61 rfl (ls' := [_, _, _, _, _, _, _, _, _, _, _]) rfl (by decide) ?_
    refine z_wk (ls' := [some (zn 49), some (zn 1), some (zi x), some (zi t), some (zi (nn : Int)), some (zi ((nn : Int) - ((0 : Nat) : Int))), none, none, none, none, none]) ⟨rfl, rfl, rfl, rfl, rfl, z_e (by omega), trivial⟩ (months (nn + 1) 0 M9 (by omega) (by omega) h529 rfl h509 hF9 (fun h => by omega))
  have casks : ∀ (q n : Nat) (M1 : zMem), (k 76).toNat < q + n → n ≤ (k 76).toNat → (∀ g : Nat, g < n → M1 52 g = zcasks Lw k g (zcrew k)) → (∀ g : Nat, n ≤ g → M1 52 g = M 52 g) → M1 50 = M 50 → qF M M1 → zW mX5_bestOf (d + 4) 0 0 [] (zJ sz S (fun r M' => r = zbst k (zCk Lw k) x t ∧ qF M M' ∧ (∀ g, g < 4 → 0 ≤ M' 52 g ∧ M' 52 g ≤ 99) ∧ zfB (M' 50) 999)) 18 [some (zn 49), some (zn 1), some (zi x), some (zi t), some (zi (nn : Int)), some (zi n), none, none, none, none, none] [] sz S M1 := by
    intro q
    induction q with
    | zero => intro n M1 hq hn; omega
    | succ q ih =>
      intro n M1 hq hn h1 h2 h3 hF1
      have hs1 := qF_SR hs hF1
      have e5 := hs1.1.2.2.1
      refine x_iload 20 rfl dX5_bestOf_18 rfl ?_
      refine x_aload_n 21 rfl dX5_bestOf_20 1 rfl rfl ?_
      refine x_geti 24 rfl fX5_40 dX5_bestOf_21 (lyl1 hL) (lys1 hL) (by decide) ?_
      rw [e5]
      refine x_icmp_ge 27 54 rfl dX5_bestOf_24 (by decide) (fun c24 => ?_) (fun c24 => ?_)
      · have hCb : ∀ g, g < 4 → 0 ≤ M1 52 g ∧ M1 52 g ≤ 99 := fun g hg => by
          rcases Nat.lt_or_ge g n with h | h
          · rw [h1 g h]; have := zcasks_in (Lw := Lw) (k := k) (g := g) (crew := zcrew k); omega
          · rw [h2 g h]; exact h52 g hg
        refine x_aload_n 55 rfl dX5_bestOf_54 0 rfl rfl ?_
        refine x_aload_n 56 rfl dX5_bestOf_55 1 rfl rfl ?_
        refine x_cVu 59 rfl lX5_54 dX5_bestOf_56 (lyl49 hL) (lys49 hL) (c_X5_reach hL hs1 hi (C := M1 52) rfl hCb) rfl rfl (Nat.le_of_ble_eq_true rfl) (fun M5 hr5 => ?_)
        obtain ⟨hJ5, hF5⟩ := hr5
        refine z_wk (ls' := [some (zn 49), some (zn 1), some (zi x), some (zi t), some (zi (nn : Int)), none, none, none, none, none, none]) ⟨rfl, rfl, rfl, rfl, rfl, trivial⟩ (body (M1 52) hCb (fun g hg => by rw [h1 g (by omega)]; unfold zCk; rw [if_pos (by omega)]) M5 (hF5 52 (by decide)) hJ5 (by rw [hF5 50 (by decide), h3]; exact h50) (qF_one (Or.inr (Or.inl rfl)) hF1 hF5))
      · refine x_aload_n 28 rfl dX5_bestOf_27 0 rfl rfl ?_
        refine x_getr 31 rfl fX5_19 dX5_bestOf_28 (lyl49 hL) (lys49 hL) (by decide) (52) rfl ?_
        refine x_iload 33 rfl dX5_bestOf_31 rfl ?_
        refine x_aload_n 34 rfl dX5_bestOf_33 0 rfl rfl ?_
        refine x_getr 37 rfl fX5_25 dX5_bestOf_34 (lyl49 hL) (lys49 hL) (by decide) (39) rfl ?_
        refine x_aload_n 38 rfl dX5_bestOf_37 1 rfl rfl ?_
        refine x_iload 40 rfl dX5_bestOf_38 rfl ?_
        refine x_aload_n 41 rfl dX5_bestOf_40 1 rfl rfl ?_
        refine x_cVi5 44 rfl lX5_44 dX5_bestOf_41 (lyl1 hL) (lys1 hL) (c_X7_crewSize (ly_sh1 hL) hs1 hi) rfl rfl (fun _ => Nat.le_of_ble_eq_true rfl) (fun r1 M2 hr1 => ?_)
        obtain ⟨hr2, hM2⟩ := hr1
        rw [hM2]
        subst hr2
        refine x_cVi 47 rfl lX5_48 dX5_bestOf_44 (lyl39 hL) (lys39 hL) (c_X1_casksOf (Lw := Lw) hL (ly_sh1 hL) (by decide) hs1 hi (qF_Lw hLw hF1) hF1.2 (by omega) (by omega)) rfl rfl (Nat.le_of_ble_eq_true rfl) (fun r3 M3 hr3 => ?_)
        obtain ⟨hr4, hF3⟩ := hr3
        rw [show ((n : Int)).toNat = n by omega] at hr4
        subst hr4
        refine x_iast 48 rfl dX5_bestOf_47 (lyl52 hL) (lys52 hL) (by omega) (by omega) ?_
        refine w_iinc 51 rfl dX5_bestOf_48 rfl (by decide) (by omega) rfl (ls' := [_, _, _, _, _, _, _, _, _, _, _]) rfl (by decide) ?_
        refine x_goto 18 dX5_bestOf_51 (by decide) ?_
        rw [show ((n : Int)).toNat = n by omega]
        refine ih (n + 1) _ (by omega) (by omega) (fun g hg => ?_) (fun g hg => by rw [z_up_nk (by omega), hF3.1 52 (by decide) (by decide)]; exact h2 g (by omega)) (by rw [z_up_ne (by decide), hF3.1 50 (by decide) (by decide)]; exact h3) (qF_one (Or.inr (Or.inr rfl)) (qF_jF hF1 hF3) (fun i a => z_up_ne a))
        by_cases e : g = n
        · rw [e, z_up_eq]
        · rw [z_up_nk e, hF3.1 52 (by decide) (by decide)]; exact h1 g (by omega)
  refine zX_of pl_RX5 [some (zn 49), some (zn 1), some (zi x), some (zi t), none, none, none, none, none, none, none] 7 rfl rfl ?_
  refine x_iload_n 1 rfl dX5_bestOf_0 2 rfl rfl ?_
  refine x_bipush 3 rfl dX5_bestOf_1 (by decide) ?_
  refine x_aload_n 4 rfl dX5_bestOf_3 1 rfl rfl ?_
  refine x_getr 7 rfl fX5_29 dX5_bestOf_4 (lyl1 hL) (lys1 hL) (by decide) (8) rfl ?_
  refine x_iconst 8 rfl dX5_bestOf_7 (by decide) ?_
  refine x_ialk 9 rfl dX5_bestOf_8 (lyl8 hL) (lys8 hL) 0 rfl (by decide) ?_
  rw [e70]
  refine y_isub 10 rfl dX5_bestOf_9 (by omega) ?_
  refine x_cSi 13 rfl lX5_34 dX5_bestOf_10 c_min rfl rfl (Nat.le_of_ble_eq_true rfl) (fun a1 M8 ha1 => ?_)
  obtain ⟨ha2, hM8⟩ := ha1
  rw [hM8]
  rw [← hnn] at ha2
  subst ha2
  refine y_istore 15 rfl dX5_bestOf_13 rfl (ls' := [_, _, _, _, _, _, _, _, _, _, _]) rfl (by decide) ?_
  refine x_iconst 16 rfl dX5_bestOf_15 (by decide) ?_
  refine y_istore 18 rfl dX5_bestOf_16 rfl (ls' := [_, _, _, _, _, _, _, _, _, _, _]) rfl (by decide) ?_
  exact casks ((k 76).toNat + 1) 0 M (by omega) (by omega) (fun g hg => by omega) (fun _ _ => rfl) rfl (qF_refl hv)

set_option maxRecDepth 100000 in
set_option maxHeartbeats 4000000 in
theorem c_X10_best {d sz : Nat} {S : zSh} {M : zMem} (hL : LY S sz) {k : Nat → Int} (hs : SR M 1 k) (hi : KI k) {Lw : List gC} (hLw : LwC S sz M 1 k Lw) (hv : v42 M) (h52 : ∀ g, g < 4 → 0 ≤ M 52 g ∧ M 52 g ≤ 99) (h50 : zfB (M 50) 999) {x y : Int} : zX (d + 5) 0 0 mX10_best [zn 0, zi x, zi y] sz S M (zJ sz S (fun r M' => r = zbst k (zCk Lw k) x y ∧ qF M M' ∧ (∀ g, g < 4 → 0 ≤ M' 52 g ∧ M' 52 g ≤ 99) ∧ zfB (M' 50) 999)) := by
  refine zX_of pl_RX10 [some (zn 0), some (zi x), some (zi y)] 0 rfl rfl ?_
  refine x_iload_n 1 rfl dX10_best_0 1 rfl rfl ?_
  refine x_if_lt 4 19 rfl dX10_best_1 (by decide) (fun c1 => ?_) (fun c1 => ?_)
  · refine x_ldc2 (x := -1) 22 rfl klX10_246 (by decide) dX10_best_19 ?_
    refine x_retj dX10_best_22 rfl ?_
    exact ⟨by unfold zbst; rw [if_neg (fun h9 => by omega)], qF_refl hv, h52, h50⟩
  · refine x_iload_n 5 rfl dX10_best_4 1 rfl rfl ?_
    refine x_bipush 7 rfl dX10_best_5 (by decide) ?_
    refine x_icmp_gt 10 19 rfl dX10_best_7 (by decide) (fun c7 => ?_) (fun c7 => ?_)
    · refine x_ldc2 (x := -1) 22 rfl klX10_246 (by decide) dX10_best_19 ?_
      refine x_retj dX10_best_22 rfl ?_
      exact ⟨by unfold zbst; rw [if_neg (fun h9 => by omega)], qF_refl hv, h52, h50⟩
    · refine x_iload_n 11 rfl dX10_best_10 2 rfl rfl ?_
      refine x_if_lt 14 19 rfl dX10_best_11 (by decide) (fun c11 => ?_) (fun c11 => ?_)
      · refine x_ldc2 (x := -1) 22 rfl klX10_246 (by decide) dX10_best_19 ?_
        refine x_retj dX10_best_22 rfl ?_
        exact ⟨by unfold zbst; rw [if_neg (fun h9 => by omega)], qF_refl hv, h52, h50⟩
      · refine x_iload_n 15 rfl dX10_best_14 2 rfl rfl ?_
        refine x_iconst 16 rfl dX10_best_15 (by decide) ?_
        refine x_icmp_le 19 23 rfl dX10_best_16 (by decide) (fun c16 => ?_) (fun c16 => ?_)
        · refine x_aload_n 24 rfl dX10_best_23 0 rfl rfl ?_
          refine x_getr 27 rfl fX10_75 dX10_best_24 (lyl0 hL) (lys0 hL) (by decide) (49) rfl ?_
          refine x_aload_n 28 rfl dX10_best_27 0 rfl rfl ?_
          refine x_getr 31 rfl fX10_10 dX10_best_28 (lyl0 hL) (lys0 hL) (by decide) (1) rfl ?_
          refine x_iload_n 32 rfl dX10_best_31 1 rfl rfl ?_
          refine x_iload_n 33 rfl dX10_best_32 2 rfl rfl ?_
          refine x_iconst 34 rfl dX10_best_33 (by decide) ?_
          refine x_icmp_ne 37 41 rfl dX10_best_34 (by decide) (fun c34 => ?_) (fun c34 => ?_)
          · refine x_iconst 42 rfl dX10_best_41 (by decide) ?_
            refine x_cVj 45 rfl lX10_248 dX10_best_42 (lyl49 hL) (lys49 hL) (c_X5_bestOf (Lw := Lw) hL hs hi hLw hv h52 h50 (by omega) (by omega)) rfl rfl (Nat.le_of_ble_eq_true rfl) (fun r1 M1 hr1 => ?_)
            obtain ⟨hr2, hF1⟩ := hr1
            refine x_retj dX10_best_45 rfl ?_
            refine ⟨?_, hF1⟩
            rw [hr2]
            first | (rw [show y = 1 by omega]; done) | (rw [show y = 0 by omega]; done)
          · refine x_iconst 38 rfl dX10_best_37 (by decide) ?_
            refine x_goto 42 dX10_best_38 (by decide) ?_
            refine x_cVj 45 rfl lX10_248 dX10_best_42 (lyl49 hL) (lys49 hL) (c_X5_bestOf (Lw := Lw) hL hs hi hLw hv h52 h50 (by omega) (by omega)) rfl rfl (Nat.le_of_ble_eq_true rfl) (fun r1 M1 hr1 => ?_)
            obtain ⟨hr2, hF1⟩ := hr1
            refine x_retj dX10_best_45 rfl ?_
            refine ⟨?_, hF1⟩
            rw [hr2]
            first | (rw [show y = 1 by omega]; done) | (rw [show y = 0 by omega]; done)
        · refine x_ldc2 (x := -1) 22 rfl klX10_246 (by decide) dX10_best_19 ?_
          refine x_retj dX10_best_22 rfl ?_
          exact ⟨by unfold zbst; rw [if_neg (fun h9 => by omega)], qF_refl hv, h52, h50⟩
