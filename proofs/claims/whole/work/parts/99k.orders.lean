/-! reference: orders, as they are called -/

set_option maxRecDepth 100000 in
set_option maxHeartbeats 4000000 in
theorem c_X11_orders {d sz : Nat} {S : zSh} {M : zMem} (hL : LY S sz) {M0 : zMem} (hM0 : z_up M 55 35 (-1) = M0) {size : Nat} (h13 : M0 55 13 = (size : Int)) (hs : size ≤ 400) (hW : wdI M0) (hB : tbI M0) {T : tS} (hT : tkG (mC (tb M0)) (mV (tb M0)) (tb M0) size 401 0 (0, M0 64, M0 65, M0 66) = T) {cd0 : Nat → Int} {R : Nat ⊕ (gS × List gC)} (hq : g_text true (ku T.2.1 T.1 0) (ku T.2.2.1 T.1 0) T.1 12 (gz cd0) [] = R) (hTK : TK (ku T.2.1 T.1 0) (ku T.2.2.1 T.1 0) T.1) (hi : KI (M 57)) (hr : ∀ i, i < 7 → 0 ≤ M 56 i ∧ M 56 i ≤ 1000000) {Lw : List gC} (hLw : LwI (M 57) Lw) {l : Nat → Nat → Int} {n0 : Nat} (hl : lR (M 69) l n0) (h32 : M 55 32 = (n0 : Int))  : zX (d + 49) 0 0 mX11_orders [zn 55] sz S M (zI sz S (fun r M' => (∃ (t : Nat) (x y : Int), R = .inl t ∧ r = -6 ∧ M' = zRef (lwN M0 true (T.1 : Int) (ku T.2.1 T.1 0) (ku T.2.2.1 T.1 0) (ku T.2.2.2 T.1 (size : Int)) (ku T.2.2.2 T.1 (size : Int) t) x y) (-6)) ∨ ∃ q, R = .inr q ∧ rorQ Lw M (k6 (M 57) (ku T.2.1 T.1 0) (ku T.2.2.1 T.1 0) T.1) l n0 q.2 r M')) := by
  have hn4 := hTK.1
  have hl1 := hl.1
  have fl : ∀ (M5 N N1 : zMem) (ii kk : Int) (j : Nat) (q : gS × List gC), R = .inr q → orB M (k6 (M 57) (ku T.2.1 T.1 0) (ku T.2.2.1 T.1 0) T.1) M5 → ruF M5 N → (j : Int) = ii → zoL Lw q.2 0 ((k6 (M 57) (ku T.2.1 T.1 0) (ku T.2.2.1 T.1 0) T.1), l, n0, 0, -1) = .inl j → N1 = z_mup N 57 (zblk (N 57) (fun i => N 60 (23 * (0 : Int).toNat + i)) 0 23) → zW mX11_orders (d + 49) 0 0 [] (zI sz S (fun r M' => (∃ (t : Nat) (x y : Int), R = .inl t ∧ r = -6 ∧ M' = zRef (lwN M0 true (T.1 : Int) (ku T.2.1 T.1 0) (ku T.2.2.1 T.1 0) (ku T.2.2.2 T.1 (size : Int)) (ku T.2.2.2 T.1 (size : Int) t) x y) (-6)) ∨ ∃ q, R = .inr q ∧ rorQ Lw M (k6 (M 57) (ku T.2.1 T.1 0) (ku T.2.2.1 T.1 0) T.1) l n0 q.2 r M')) 150 [some (zn 55), some (zi (n0 : Int)), some (zi ((2400 + T.1 : Nat) : Int)), some (zi ii), some (zi kk)] [] sz S (z_mup N1 69 (zblk (N1 69) (N1 70) 0 384)) := by
    intro M5 N N1 ii kk j q hR hO hF hj hz hN1
    subst hj
    have hq9 := or_no rfl hO hF hl hz hN1 rfl
    have hr1 : ∀ i, i < 7 → 0 ≤ N 56 i ∧ N 56 i ≤ 1000000 := by rw [(orK_of hO hF).1 56 (by omega)]; exact hr
    refine x_aload_n 151 rfl dX11_orders_150 0 rfl rfl ?_
    refine x_iload_n 152 rfl dX11_orders_151 1 rfl rfl ?_
    refine x_puti 155 rfl fX11_11 dX11_orders_152 (lyl55 hL) (lys55 hL) (by decide) ?_
    refine x_aload_n 156 rfl dX11_orders_155 0 rfl rfl ?_
    refine x_iload_n 157 rfl dX11_orders_156 3 rfl rfl ?_
    refine x_puti 160 rfl fX11_78 dX11_orders_157 (lyl55 hL) (lys55 hL) (by decide) ?_
    refine x_aload_n 161 rfl dX11_orders_160 0 rfl rfl ?_
    refine x_bipush 163 rfl dX11_orders_161 (by decide) ?_
    refine x_cVi 166 rfl lX11_94 dX11_orders_163 (lyl55 hL) (lys55 hL) (c_X11_refuses hL (by rw [z_up_ne (by decide), z_up_ne (by decide), z_mup_ne (by decide), hN1, z_mup_ne (by decide)]; exact hr1) (by decide)) rfl rfl (Nat.le_of_ble_eq_true rfl) (fun r9 M9 hr9 => ?_)
    obtain ⟨hr9, hM9⟩ := hr9
    refine x_reti dX11_orders_166 rfl ?_
    rw [hr9, hM9]
    exact Or.inr ⟨q, hR, hq9⟩
  have cp2 : ∀ (M5 N N1 : zMem) (ii : Int) (j : Nat) (q : gS × List gC), R = .inr q → orB M (k6 (M 57) (ku T.2.1 T.1 0) (ku T.2.2.1 T.1 0) T.1) M5 → ruF M5 N → (j : Int) = ii → zoL Lw q.2 0 ((k6 (M 57) (ku T.2.1 T.1 0) (ku T.2.2.1 T.1 0) T.1), l, n0, 0, -1) = .inl j → N1 = z_mup N 57 (zblk (N 57) (fun i => N 60 (23 * (0 : Int).toNat + i)) 0 23) → ∀ (f i : Nat), 384 < f + i → i ≤ 384 → zW mX11_orders (d + 49) 0 0 [] (zI sz S (fun r M' => (∃ (t : Nat) (x y : Int), R = .inl t ∧ r = -6 ∧ M' = zRef (lwN M0 true (T.1 : Int) (ku T.2.1 T.1 0) (ku T.2.2.1 T.1 0) (ku T.2.2.2 T.1 (size : Int)) (ku T.2.2.2 T.1 (size : Int) t) x y) (-6)) ∨ ∃ q, R = .inr q ∧ rorQ Lw M (k6 (M 57) (ku T.2.1 T.1 0) (ku T.2.2.1 T.1 0) T.1) l n0 q.2 r M')) 122 [some (zn 55), some (zi (n0 : Int)), some (zi ((2400 + T.1 : Nat) : Int)), some (zi ii), some (zi i)] [] sz S (z_mup N1 69 (zblk (N1 69) (N1 70) 0 i)) := by
    intro M5 N N1 ii j q hR hO hF hj hz hN1 f
    induction f with
    | zero => intro i hf hi; omega
    | succ f ih =>
      intro i hf hi
      refine x_iload 124 rfl dX11_orders_122 rfl ?_
      refine x_sipush 127 rfl dX11_orders_124 (by decide) ?_
      refine x_icmp_ge 130 150 rfl dX11_orders_127 (by decide) (fun c127 => ?_) (fun c127 => ?_)
      · rw [show i = 384 by omega]
        exact fl M5 N N1 ii _ j q hR hO hF hj hz hN1
      · refine x_aload_n 131 rfl dX11_orders_130 0 rfl rfl ?_
        refine x_getr 134 rfl fX11_65 dX11_orders_131 (lyl55 hL) (lys55 hL) (by decide) (69) rfl ?_
        refine x_iload 136 rfl dX11_orders_134 rfl ?_
        refine x_aload_n 137 rfl dX11_orders_136 0 rfl rfl ?_
        refine x_getr 140 rfl fX11_68 dX11_orders_137 (lyl55 hL) (lys55 hL) (by decide) (70) rfl ?_
        refine x_iload 142 rfl dX11_orders_140 rfl ?_
        refine x_iald 143 rfl dX11_orders_142 (lyl70 hL) (lys70 hL) (by omega) (by omega) ?_
        try simp (disch := omega) only [z_up_ne, z_up_nk, z_up_eq, z_mup_ne, z_mup_eq, Int.reduceToNat, Int.toNat_natCast]
        refine x_iast 144 rfl dX11_orders_143 (lyl69 hL) (lys69 hL) (by omega) (by omega) ?_
        refine w_iinc 147 rfl dX11_orders_144 rfl (by decide) (by omega) rfl (ls' := [_, _, _, _, _]) rfl (by decide) ?_
        refine x_goto 122 dX11_orders_147 (by decide) ?_
        refine z_mem (z_blk_step (by omega) rfl) (ih (i + 1) (by omega) (by omega))
  have fin : ∀ (M5 N : zMem) (ii a d1 : Int) (st : oS) (q : gS × List gC), R = .inr q → orB M (k6 (M 57) (ku T.2.1 T.1 0) (ku T.2.2.1 T.1 0) T.1) M5 → ruI M5 a d1 st N → ((2400 + T.1 : Nat) : Int) ≤ a → zoL Lw q.2 0 ((k6 (M 57) (ku T.2.1 T.1 0) (ku T.2.2.1 T.1 0) T.1), l, n0, 0, -1) = .inr st → zW mX11_orders (d + 49) 0 0 [] (zI sz S (fun r M' => (∃ (t : Nat) (x y : Int), R = .inl t ∧ r = -6 ∧ M' = zRef (lwN M0 true (T.1 : Int) (ku T.2.1 T.1 0) (ku T.2.2.1 T.1 0) (ku T.2.2.2 T.1 (size : Int)) (ku T.2.2.2 T.1 (size : Int) t) x y) (-6)) ∨ ∃ q, R = .inr q ∧ rorQ Lw M (k6 (M 57) (ku T.2.1 T.1 0) (ku T.2.2.1 T.1 0) T.1) l n0 q.2 r M')) 95 [some (zn 55), some (zi (n0 : Int)), some (zi ((2400 + T.1 : Nat) : Int)), some (zi ii), none] [] sz S N := by
    intro M5 N ii a d1 st q hR hO hI ha hz
    have h36 := hI.2.2.2.2.2.2.2.1
    refine x_aload_n 96 rfl dX11_orders_95 0 rfl rfl ?_
    refine x_geti 99 rfl fX11_419 dX11_orders_96 (lyl55 hL) (lys55 hL) (by decide) ?_
    try simp (disch := omega) only [z_up_ne, z_up_nk, z_up_eq, z_mup_ne, z_mup_eq, Int.reduceToNat, Int.toNat_natCast]
    rw [h36]
    refine x_iload_n 100 rfl dX11_orders_99 2 rfl rfl ?_
    refine x_icmp_ge 103 173 rfl dX11_orders_100 (by decide) (fun c100 => ?_) (fun c100 => ?_)
    · refine x_aload_n 174 rfl dX11_orders_173 0 rfl rfl ?_
      refine x_aload_n 175 rfl dX11_orders_174 0 rfl rfl ?_
      refine x_geti 178 rfl fX11_285 dX11_orders_175 (lyl55 hL) (lys55 hL) (by decide) ?_
      try simp (disch := omega) only [z_up_ne, z_up_nk, z_up_eq, z_mup_ne, z_mup_eq, Int.reduceToNat, Int.toNat_natCast]
      refine x_cVi 181 rfl lX11_14 dX11_orders_178 (lyl55 hL) (lys55 hL) (c_X11_good hL) rfl rfl (Nat.le_of_ble_eq_true rfl) (fun r9 M9 hr9 => ?_)
      obtain ⟨hr9, hM9⟩ := hr9
      refine x_reti dX11_orders_181 rfl ?_
      rw [hM9]
      exact Or.inr ⟨q, hR, or_ok hO hI hz (by rw [hr9]; exact hI.2.2.2.2.2.1)⟩
    · exfalso; omega
  have loop : ∀ (M5 : zMem) (s9 : gS) (L : List gC), R = .inr (s9, L) → orB M (k6 (M 57) (ku T.2.1 T.1 0) (ku T.2.2.1 T.1 0) T.1) M5 → ∀ (f : Nat) (s1 : gS) (Lp rest : List gC) (ii : Int) (st : oS) (M1 : zMem), gA T.1 s1 → g_text true (ku T.2.1 T.1 0) (ku T.2.2.1 T.1 0) T.1 f s1 Lp = .inr (s9, L) → L = Lp ++ rest → (Lp.length : Int) = ii → Lp.length + f = 12 → ruI M5 ((2400 + s1.1 : Nat) : Int) (20 * ii) st M1 → zoL Lw rest Lp.length st = zoL Lw L 0 ((k6 (M 57) (ku T.2.1 T.1 0) (ku T.2.2.1 T.1 0) T.1), l, n0, 0, -1) → zW mX11_orders (d + 49) 0 0 [] (zI sz S (fun r M' => (∃ (t : Nat) (x y : Int), R = .inl t ∧ r = -6 ∧ M' = zRef (lwN M0 true (T.1 : Int) (ku T.2.1 T.1 0) (ku T.2.2.1 T.1 0) (ku T.2.2.2 T.1 (size : Int)) (ku T.2.2.2 T.1 (size : Int) t) x y) (-6)) ∨ ∃ q, R = .inr q ∧ rorQ Lw M (k6 (M 57) (ku T.2.1 T.1 0) (ku T.2.2.1 T.1 0) T.1) l n0 q.2 r M')) 95 [some (zn 55), some (zi (n0 : Int)), some (zi ((2400 + T.1 : Nat) : Int)), some (zi ii), none] [] sz S M1 := by
    intro M5 s9 L hR hO f
    induction f with
    | zero => intro s1 Lp rest ii st M1 hA hg; cases hg
    | succ f ih =>
      intro s1 Lp rest ii st M1 hA hg hL1 hii hlen hI hz
      obtain ⟨s2, x, hg1, hg2⟩ := g_text_inv hg
      have hcl : g_ord (ku T.2.1 T.1 0) (ku T.2.2.1 T.1 0) s1 = .inr (s2, x) := hg1
      have hd4 := (g_ord_hd hcl).2
      have hlt := hTK.lt hA.1 (show ku T.2.1 T.1 0 s1.1 ≠ 0 by omega)
      obtain ⟨r1, hr1⟩ := g_pre2 hg2
      have hrest : rest = x :: r1 := by
        rw [hr1, List.append_assoc] at hL1
        exact (List.append_cancel_left hL1).symm
      have hA2 := gW_A hA ((g_ord_ok hTK hA).2 s2 x hcl).1
      have h36 := hI.2.2.2.2.2.2.2.1
      have hk1 : M5 57 = (k6 (M 57) (ku T.2.1 T.1 0) (ku T.2.2.1 T.1 0) T.1) := hO.2.2.2.2.2.1
      have hi1 : KI (M1 57) := by rw [hI.2.1]; exact hI.2.2.1
      have hLw1 : LwI (M1 57) Lw := LwI_hi (by rw [hk1]; exact LwI_k6 hi hLw hn4) hI.1.2.2
      have htc1 : ∀ i, i < T.1 → M1 57 (87 + (2400 + i)) = ku T.2.1 T.1 0 i := fun i hi => by rw [hI.1.2.2 _ (by omega), hk1]; exact k6_c hi
      have htv1 : ∀ i, i < T.1 → M1 57 (2887 + (2400 + i)) = ku T.2.2.1 T.1 0 i := fun i hi => by rw [hI.1.2.2 _ (by omega), hk1]; exact k6_v hi hn4
      have hlen1 : (Lp ++ [x]).length = Lp.length + 1 := by simp
      refine x_aload_n 96 rfl dX11_orders_95 0 rfl rfl ?_
      refine x_geti 99 rfl fX11_419 dX11_orders_96 (lyl55 hL) (lys55 hL) (by decide) ?_
      try simp (disch := omega) only [z_up_ne, z_up_nk, z_up_eq, z_mup_ne, z_mup_eq, Int.reduceToNat, Int.toNat_natCast]
      rw [h36]
      refine x_iload_n 100 rfl dX11_orders_99 2 rfl rfl ?_
      refine x_icmp_ge 103 173 rfl dX11_orders_100 (by decide) (fun c100 => ?_) (fun c100 => ?_)
      · exfalso; omega
      · refine x_aload_n 104 rfl dX11_orders_103 0 rfl rfl ?_
        refine x_iload_n 105 rfl dX11_orders_104 2 rfl rfl ?_
        refine x_cVi 108 rfl lX11_422 dX11_orders_105 (lyl55 hL) (lys55 hL) (c_X11_runs hL hi1 hLw1 (by omega) htc1 htv1 hTK hA hcl (ruI_self hI) (by omega)) rfl rfl (Nat.le_of_ble_eq_true rfl) (fun r3 M3 hr3 => ?_)
        rcases hzt : zoT Lw x x.1.2.2.2.2.toNat st with _ | st2
        · rw [hzt] at hr3
          obtain ⟨hf, hr0⟩ := hr3
          have hr0 : r3 = 0 := hr0
          have hz0 : zoL Lw L 0 ((k6 (M 57) (ku T.2.1 T.1 0) (ku T.2.2.1 T.1 0) T.1), l, n0, 0, -1) = .inl Lp.length := by
            rw [← hz, hrest]
            unfold zoL
            rw [hzt]
          refine x_if_eq 111 114 rfl dX11_orders_108 (by decide) (fun c108 => ?_) (fun c108 => ?_)
          · refine x_aload_n 115 rfl dX11_orders_114 0 rfl rfl ?_
            refine x_iconst 116 rfl dX11_orders_115 (by decide) ?_
            refine x_cVu 119 rfl lX11_425 dX11_orders_116 (lyl55 hL) (lys55 hL) (c_X11_takesBack hL (by decide)) rfl rfl (Nat.le_of_ble_eq_true rfl) (fun M4 hM4 => ?_)
            refine x_iconst 120 rfl dX11_orders_119 (by decide) ?_
            refine y_istore 122 rfl dX11_orders_120 rfl (ls' := [_, _, _, _, _]) rfl (by decide) ?_
            refine z_mem (M' := z_mup M4 69 (zblk (M4 69) (M4 70) 0 0)) (by rw [zblk_0, z_mup_self]) ?_
            exact cp2 M5 M3 M4 ii Lp.length (s9, L) hR hO (ruF_trans hI.1 hf) hii hz0 hM4 385 0 (by omega) (by omega)
          · exfalso; omega
        · rw [hzt] at hr3
          obtain ⟨hf, hr0, hI3⟩ := hr3
          have hr0 : r3 = 1 := hr0
          have hI4 := ruI_trans hI hI3
          have hz1 : zoL Lw r1 (Lp.length + 1) st2 = zoL Lw L 0 ((k6 (M 57) (ku T.2.1 T.1 0) (ku T.2.2.1 T.1 0) T.1), l, n0, 0, -1) := by
            rw [← hz, hrest]
            conv => rhs; unfold zoL
            rw [hzt]
          refine x_if_eq 111 114 rfl dX11_orders_108 (by decide) (fun c108 => ?_) (fun c108 => ?_)
          · exfalso; omega
          · refine x_goto 167 dX11_orders_111 (by decide) ?_
            refine w_iinc 170 rfl dX11_orders_167 rfl (by decide) (by omega) rfl (ls' := [_, _, _, _, _]) rfl (by decide) ?_
            refine x_goto 95 dX11_orders_170 (by decide) ?_
            rcases g_more_inv hg2 with ⟨h1, h2⟩ | ⟨h1, h2⟩
            · have hB2 := gW_A hA2 (gW_ad hA2 (hTK.lt hA2.1 (show ku T.2.1 T.1 0 s2.1 ≠ 0 by omega)))
              refine ih (g_ad s2) (Lp ++ [x]) r1 (ii + 1) st2 M3 hB2 h2 hr1 (by rw [hlen1]; omega) (by omega) ?_ (by rw [hlen1]; exact hz1)
              rw [show ((2400 + (g_ad s2).1 : Nat) : Int) = ((2400 + s2.1 : Nat) : Int) + 1 by show ((2400 + (s2.1 + 1) : Nat) : Int) = _; omega, show 20 * (ii + 1) = 20 * ii + 20 by omega]
              exact hI4
            · have hr0 : r1 = [] := by
                rw [h2] at hr1
                have h9 := congrArg List.length hr1
                simp only [List.length_append] at h9
                exact List.eq_nil_of_length_eq_zero (by omega)
              refine fin M5 M3 (ii + 1) _ _ st2 (s9, L) hR hO hI4 (by omega) ?_
              rw [← hz1, hr0]
              rfl
  have go52 : ∀ (M1 : zMem) (s9 : gS) (L : List gC) (kk : Int), R = .inr (s9, L) → (∀ i, i ≠ 55 → i ≠ 60 → i ≠ 64 → i ≠ 65 → i ≠ 66 → i ≠ 70 → M1 i = M i) → (∀ j, (j < 8 ∨ 41 ≤ j ∨ j = 32) → M1 55 j = M 55 j) → M1 55 13 = 0 → M1 55 14 = -1 → M1 55 35 = -1 → M1 55 18 = (T.1 : Int) → (∀ i, i < 23 → M1 60 i = M 57 i) → (∀ i, i < 384 → M1 70 i = M 69 i) → M1 64 = ku T.2.1 T.1 0 → M1 65 = ku T.2.2.1 T.1 0 → zW mX11_orders (d + 49) 0 0 [] (zI sz S (fun r M' => (∃ (t : Nat) (x y : Int), R = .inl t ∧ r = -6 ∧ M' = zRef (lwN M0 true (T.1 : Int) (ku T.2.1 T.1 0) (ku T.2.2.1 T.1 0) (ku T.2.2.2 T.1 (size : Int)) (ku T.2.2.2 T.1 (size : Int) t) x y) (-6)) ∨ ∃ q, R = .inr q ∧ rorQ Lw M (k6 (M 57) (ku T.2.1 T.1 0) (ku T.2.2.1 T.1 0) T.1) l n0 q.2 r M')) 52 [some (zn 55), some (zi kk), none, none, none] [] sz S M1 := by
    intro M1 s9 L kk hR h1 h2 h3 h4 h5 h18 h6 h7 h8 h9
    have hO := orB_of (n := T.1) rfl h1 (fun j hj => h2 j (by omega)) h3 h4 h5 h6 h7 h8 h9
    have e32 : M1 55 32 = (n0 : Int) := by rw [h2 32 (by omega), h32]
    have e69 : M1 69 = M 69 := h1 69 (by decide) (by decide) (by decide) (by decide) (by decide) (by decide)
    have hI5 : ∀ M5 : zMem, M5 = z_up (z_up (z_up (z_mup M1 57 (kLs (M1 57) 6 (M1 64) (M1 65) (T.1 : Int) T.1)) 55 27 0) 55 28 (-1)) 55 36 2400 → ruI M5 ((2400 + (gz cd0).1 : Nat) : Int) (20 * 0) ((k6 (M 57) (ku T.2.1 T.1 0) (ku T.2.2.1 T.1 0) T.1), l, n0, 0, -1) M5 := by
      intro M5 hM5
      refine ⟨ruF_refl, ?_, KI_k6 hi hn4, ?_, ?_, ?_, ?_, ?_, ⟨by show (0:Int) ≤ 0; omega, by show (0:Int) ≤ 20 * 0; omega⟩, ⟨by show (-1:Int) ≤ -1; omega, by show (-1:Int) ≤ 1000000; omega⟩⟩
      · rw [hM5]; exact hO.2.2.2.2.2.1
      · rw [hM5, z_up_ne (by decide), z_up_ne (by decide), z_up_ne (by decide), z_mup_ne (by decide), e69]; exact hl
      · rw [hM5, z_up_nk (by decide), z_up_nk (by decide), z_up_nk (by decide), z_mup_ne (by decide)]; exact e32
      · rw [hM5, z_up_nk (by decide), z_up_nk (by decide), z_up_eq]
      · rw [hM5, z_up_nk (by decide), z_up_eq]
      · rw [hM5, z_up_eq]; rfl
    have e86 : kLs (M1 57) 6 (M1 64) (M1 65) (T.1 : Int) T.1 86 = (T.1 : Int) := k6_86
    refine x_aload_n 53 rfl dX11_orders_52 0 rfl rfl ?_
    refine x_geti 56 rfl fX11_11 dX11_orders_53 (lyl55 hL) (lys55 hL) (by decide) ?_
    try simp (disch := omega) only [z_up_ne, z_up_nk, z_up_eq, z_mup_ne, z_mup_eq, Int.reduceToNat, Int.toNat_natCast]
    rw [e32]
    refine y_istore_n 57 rfl dX11_orders_56 rfl rfl (ls' := [_, _, _, _, _]) rfl (by decide) ?_
    refine x_aload_n 58 rfl dX11_orders_57 0 rfl rfl ?_
    refine x_bipush 60 rfl dX11_orders_58 (by decide) ?_
    refine x_cVu 63 rfl lX11_243 dX11_orders_60 (lyl55 hL) (lys55 hL) (c_X11_lays6 hL (by decide) h18 hn4) rfl rfl (Nat.le_of_ble_eq_true rfl) (fun M2 hM2 => ?_)
    have hM2 : M2 = z_mup M1 57 (kLs (M1 57) 6 (M1 64) (M1 65) (T.1 : Int) T.1) := hM2
    rw [hM2]
    refine x_aload_n 64 rfl dX11_orders_63 0 rfl rfl ?_
    refine x_iconst 65 rfl dX11_orders_64 (by decide) ?_
    refine x_puti 68 rfl fX11_285 dX11_orders_65 (lyl55 hL) (lys55 hL) (by decide) ?_
    refine x_aload_n 69 rfl dX11_orders_68 0 rfl rfl ?_
    refine x_iconst 70 rfl dX11_orders_69 (by decide) ?_
    refine x_puti 73 rfl fX11_288 dX11_orders_70 (lyl55 hL) (lys55 hL) (by decide) ?_
    refine x_aload_n 74 rfl dX11_orders_73 0 rfl rfl ?_
    refine x_sipush 77 rfl dX11_orders_74 (by decide) ?_
    refine x_puti 80 rfl fX11_419 dX11_orders_77 (lyl55 hL) (lys55 hL) (by decide) ?_
    refine x_aload_n 81 rfl dX11_orders_80 0 rfl rfl ?_
    refine x_geti 84 rfl fX11_419 dX11_orders_81 (lyl55 hL) (lys55 hL) (by decide) ?_
    try simp (disch := omega) only [z_up_ne, z_up_nk, z_up_eq, z_mup_ne, z_mup_eq, Int.reduceToNat, Int.toNat_natCast]
    refine x_aload_n 85 rfl dX11_orders_84 0 rfl rfl ?_
    refine x_getr 88 rfl fX11_24 dX11_orders_85 (lyl55 hL) (lys55 hL) (by decide) (57) rfl ?_
    refine x_bipush 90 rfl dX11_orders_88 (by decide) ?_
    refine x_ialk 91 rfl dX11_orders_90 (lyl57 hL) (lys57 hL) 86 rfl (by decide) ?_
    try simp (disch := omega) only [z_up_ne, z_up_nk, z_up_eq, z_mup_ne, z_mup_eq, Int.reduceToNat, Int.toNat_natCast]
    rw [e86]
    refine y_iadd 92 rfl dX11_orders_91 (by omega) ?_
    rw [show (2400 : Int) + (T.1 : Int) = ((2400 + T.1 : Nat) : Int) by omega]
    refine y_istore_n 93 rfl dX11_orders_92 rfl rfl (ls' := [_, _, _, _, _]) rfl (by decide) ?_
    refine x_iconst 94 rfl dX11_orders_93 (by decide) ?_
    refine y_istore_n 95 rfl dX11_orders_94 rfl rfl (ls' := [_, _, _, _, _]) rfl (by decide) ?_
    exact loop _ s9 L hR hO 12 (gz cd0) [] L 0 ((k6 (M 57) (ku T.2.1 T.1 0) (ku T.2.2.1 T.1 0) T.1), l, n0, 0, -1) _ gz_A (by rw [hq, hR]) rfl rfl rfl (hI5 _ rfl) rfl
  have cp1 : ∀ (M1 : zMem) (s9 : gS) (L : List gC), R = .inr (s9, L) → (∀ i, i ≠ 55 → i ≠ 60 → i ≠ 64 → i ≠ 65 → i ≠ 66 → i ≠ 70 → M1 i = M i) → (∀ j, (j < 8 ∨ 41 ≤ j ∨ j = 32) → M1 55 j = M 55 j) → M1 55 13 = 0 → M1 55 14 = -1 → M1 55 35 = -1 → M1 55 18 = (T.1 : Int) → (∀ i, i < 23 → M1 60 i = M 57 i) → M1 64 = ku T.2.1 T.1 0 → M1 65 = ku T.2.2.1 T.1 0 → ∀ (f i : Nat), 384 < f + i → i ≤ 384 → zW mX11_orders (d + 49) 0 0 [] (zI sz S (fun r M' => (∃ (t : Nat) (x y : Int), R = .inl t ∧ r = -6 ∧ M' = zRef (lwN M0 true (T.1 : Int) (ku T.2.1 T.1 0) (ku T.2.2.1 T.1 0) (ku T.2.2.2 T.1 (size : Int)) (ku T.2.2.2 T.1 (size : Int) t) x y) (-6)) ∨ ∃ q, R = .inr q ∧ rorQ Lw M (k6 (M 57) (ku T.2.1 T.1 0) (ku T.2.2.1 T.1 0) T.1) l n0 q.2 r M')) 27 [some (zn 55), some (zi i), none, none, none] [] sz S (z_mup M1 70 (zblk (M1 70) (M1 69) 0 i)) := by
    intro M1 s9 L hR h1 h2 h3 h4 h5 h18 h6 h8 h9 f
    induction f with
    | zero => intro i hf hi; omega
    | succ f ih =>
      intro i hf hi
      refine x_iload_n 28 rfl dX11_orders_27 1 rfl rfl ?_
      refine x_sipush 31 rfl dX11_orders_28 (by decide) ?_
      refine x_icmp_ge 34 52 rfl dX11_orders_31 (by decide) (fun c31 => ?_) (fun c31 => ?_)
      · rw [show i = 384 by omega]
        refine go52 _ s9 L _ hR (fun a b c d e f g => by rw [z_mup_ne g]; exact h1 a b c d e f g) (fun a b => by rw [z_mup_ne (by decide)]; exact h2 a b) (by rw [z_mup_ne (by decide)]; exact h3) (by rw [z_mup_ne (by decide)]; exact h4) (by rw [z_mup_ne (by decide)]; exact h5) (by rw [z_mup_ne (by decide)]; exact h18) (fun a b => by rw [z_mup_ne (by decide)]; exact h6 a b) (fun a b => ?_) (by rw [z_mup_ne (by decide)]; exact h8) (by rw [z_mup_ne (by decide)]; exact h9)
        rw [z_mup_eq]
        have e := zblk_in (g := M1 70) (f := M1 69) (B := 0) b
        rw [Nat.zero_add] at e
        rw [e, h1 69 (by decide) (by decide) (by decide) (by decide) (by decide) (by decide)]
      · refine x_aload_n 35 rfl dX11_orders_34 0 rfl rfl ?_
        refine x_getr 38 rfl fX11_68 dX11_orders_35 (lyl55 hL) (lys55 hL) (by decide) (70) rfl ?_
        refine x_iload_n 39 rfl dX11_orders_38 1 rfl rfl ?_
        refine x_aload_n 40 rfl dX11_orders_39 0 rfl rfl ?_
        refine x_getr 43 rfl fX11_65 dX11_orders_40 (lyl55 hL) (lys55 hL) (by decide) (69) rfl ?_
        refine x_iload_n 44 rfl dX11_orders_43 1 rfl rfl ?_
        refine x_iald 45 rfl dX11_orders_44 (lyl69 hL) (lys69 hL) (by omega) (by omega) ?_
        try simp (disch := omega) only [z_up_ne, z_up_nk, z_up_eq, z_mup_ne, z_mup_eq, Int.reduceToNat, Int.toNat_natCast]
        refine x_iast 46 rfl dX11_orders_45 (lyl70 hL) (lys70 hL) (by omega) (by omega) ?_
        refine w_iinc 49 rfl dX11_orders_46 rfl (by decide) (by omega) rfl (ls' := [_, _, _, _, _]) rfl (by decide) ?_
        refine x_goto 27 dX11_orders_49 (by decide) ?_
        refine z_mem (z_blk_step (by omega) rfl) (ih (i + 1) (by omega) (by omega))
  refine zX_of pl_RX11 [some (zn 55), none, none, none, none] 4 rfl rfl ?_
  refine x_aload_n 1 rfl dX11_orders_0 0 rfl rfl ?_
  refine x_iconst 2 rfl dX11_orders_1 (by decide) ?_
  refine x_puti 5 rfl fX11_78 dX11_orders_2 (lyl55 hL) (lys55 hL) (by decide) ?_
  rw [hM0]
  refine x_aload_n 6 rfl dX11_orders_5 0 rfl rfl ?_
  refine x_iconst 7 rfl dX11_orders_6 (by decide) ?_
  refine x_cVi 10 rfl lX11_239 dX11_orders_7 (lyl55 hL) (lys55 hL) (c_X11_readsAs_t hL h13 hs hW hB hT hq) rfl rfl (Nat.le_of_ble_eq_true rfl) (fun r1 M1 hr1 => ?_)
  rcases hr1 with ⟨t, hR1, hr1, x, y, hM1⟩ | ⟨⟨qq, hR1⟩, hr1, x, y, hM1⟩
  · rw [hM1]
    refine x_if_ne 13 20 rfl dX11_orders_10 (by decide) (fun c10 => ?_) (fun c10 => ?_)
    · exfalso; omega
    · refine x_aload_n 14 rfl dX11_orders_13 0 rfl rfl ?_
      refine x_bipush 16 rfl dX11_orders_14 (by decide) ?_
      refine x_cVi 19 rfl lX11_94 dX11_orders_16 (lyl55 hL) (lys55 hL) (c_X11_refuses hL (by rw [lwN_ne (by decide) (by decide) (by decide) (by decide), ← hM0, z_up_ne (by decide)]; exact hr) (by decide)) rfl rfl (Nat.le_of_ble_eq_true rfl) (fun r7 M7 hr7 => ?_)
      obtain ⟨hr8, hM7⟩ := hr7
      refine x_reti dX11_orders_19 rfl ?_
      exact Or.inl ⟨t, x, y, hR1, hr8, hM7⟩
  · rw [hM1]
    refine x_if_ne 13 20 rfl dX11_orders_10 (by decide) (fun c10 => ?_) (fun c10 => ?_)
    · refine x_aload_n 21 rfl dX11_orders_20 0 rfl rfl ?_
      refine x_iconst 22 rfl dX11_orders_21 (by decide) ?_
      refine x_cVu 25 rfl lX11_416 dX11_orders_22 (lyl55 hL) (lys55 hL) (c_X11_laysAside hL (by decide)) rfl rfl (Nat.le_of_ble_eq_true rfl) (fun M2 hM2 => ?_)
      refine x_iconst 26 rfl dX11_orders_25 (by decide) ?_
      refine y_istore_n 27 rfl dX11_orders_26 rfl rfl (ls' := [_, _, _, _, _]) rfl (by decide) ?_
      obtain ⟨s9, L⟩ := qq
      refine z_mem (M' := z_mup M2 70 (zblk (M2 70) (M2 69) 0 0)) (by rw [zblk_0, z_mup_self]) ?_
      have e0 : ∀ i, i ≠ 55 → M0 i = M i := fun i a => by rw [← hM0, z_up_ne a]
      have e5 : ∀ j, j ≠ 35 → M0 55 j = M 55 j := fun j a => by rw [← hM0, z_up_nk a]
      refine cp1 M2 s9 L hR1 (fun i a b c d e f => by rw [hM2, z_mup_ne b, lwN_ne a c d e]; exact e0 i a) (fun j a => by rw [hM2, z_mup_ne (by decide), lwN_o (by omega)]; exact e5 j (by omega)) (by rw [hM2, z_mup_ne (by decide), lwN_13]) (by rw [hM2, z_mup_ne (by decide), lwN_14]) (by rw [hM2, z_mup_ne (by decide), lwN_o (by omega), ← hM0, z_up_eq]) (by rw [hM2, z_mup_ne (by decide), lwN_18]) (fun i hi => ?_) (by rw [hM2, z_mup_ne (by decide), lwN_64]) (by rw [hM2, z_mup_ne (by decide), lwN_65]) 385 0 (by omega) (by omega)
      rw [hM2, z_mup_eq]
      have e := zblk_in (g := (lwN M0 true (T.1 : Int) (ku T.2.1 T.1 0) (ku T.2.2.1 T.1 0) (ku T.2.2.2 T.1 (size : Int)) (-1) x y) 60) (f := (lwN M0 true (T.1 : Int) (ku T.2.1 T.1 0) (ku T.2.2.1 T.1 0) (ku T.2.2.2 T.1 (size : Int)) (-1) x y) 57) (B := 0) hi
      rw [Nat.zero_add] at e
      have e9 : zblk ((lwN M0 true (T.1 : Int) (ku T.2.1 T.1 0) (ku T.2.2.1 T.1 0) (ku T.2.2.2 T.1 (size : Int)) (-1) x y) 60) ((lwN M0 true (T.1 : Int) (ku T.2.1 T.1 0) (ku T.2.2.1 T.1 0) (ku T.2.2.2 T.1 (size : Int)) (-1) x y) 57) (23 * (0 : Int).toNat) 23 i = zblk ((lwN M0 true (T.1 : Int) (ku T.2.1 T.1 0) (ku T.2.2.1 T.1 0) (ku T.2.2.2 T.1 (size : Int)) (-1) x y) 60) ((lwN M0 true (T.1 : Int) (ku T.2.1 T.1 0) (ku T.2.2.1 T.1 0) (ku T.2.2.2 T.1 (size : Int)) (-1) x y) 57) 0 23 i := rfl
      rw [e9, e, lwN_ne (by decide) (by decide) (by decide) (by decide), e0 57 (by decide)]
    · exfalso; omega
