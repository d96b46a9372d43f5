/-! odds, as the reference calls it -/
theorem zsum_z2 {f : Nat → Int} : ∀ n, (∀ s, s < n → f s = 0) → zsum f n = 0
  | 0, _ => rfl
  | n + 1, h => by rw [zsum_s, zsum_z2 n (fun s hs => h s (by omega)), h n (by omega)]; rfl
theorem zods_b {full : Nat} {c : Nat → Int} (hc : zRow full c) {p : Nat → Prop} [DecidablePred p] {τ : Nat} (hτ : τ ≤ full + 1) : 0 ≤ zsum (fun t => if p t then c t else 0) τ ∧ zsum (fun t => if p t then c t else 0) τ ≤ 1000000000000 := by
  have hnn : ∀ t, t < τ → 0 ≤ (if p t then c t else 0) := fun t ht => by
    split
    · exact hc.1 t (by omega)
    · exact Int.le_refl _
  have hlt : ∀ n, n ≤ τ → zsum (fun t => if p t then c t else 0) n ≤ zsum c n := by
    intro n
    induction n with
    | zero => intro _; exact Int.le_refl _
    | succ n ih =>
      intro hn
      rw [zsum_s, zsum_s]
      have h1 := ih (by omega)
      have h2 := hc.1 n (by omega)
      split <;> omega
  have a1 := zsum_nn τ hnn
  have a2 := hlt τ (Nat.le_refl _)
  have a3 := zsum_mono (f := c) τ (full + 1 - τ) (fun s hs => hc.1 s (by omega))
  rw [show τ + (full + 1 - τ) = full + 1 by omega] at a3
  have a4 := hc.2
  exact ⟨a1, by omega⟩

theorem bF_one {M M1 M2 : zMem} (h : bF M M1) (h1 : ∀ i, i ≠ 71 → M2 i = M1 i) : bF M M2 := ⟨fun i a b c d => (h1 i c).trans (h.1 i a b c d), fun j a b c d => by rw [h1 55 (by decide)]; exact h.2 j a b c d⟩

set_option maxRecDepth 100000 in
set_option maxHeartbeats 4000000 in
theorem c_X11_partsFrom {d sz : Nat} {S : zSh} {M : zMem} (hL : LY S sz) (hi : KI (M 57)) {b : Nat} (hb : b ≤ 1) {e n9 : Int} {full : Nat} (hok : zOK (M 57) e n9 full) {c : Nat → Int} (hc : zRow full c) (hR : zRR (M 57) e full c (fun i => M 71 (1000 * b + i))) {y : Int} (hy : 0 ≤ y ∧ y ≤ 999) : zX (d + 1) 0 0 mX11_partsFrom [zn 55, zi y, zi (b : Int)] sz S M (zJ sz S (fun r M' => r = zsum (fun t => if y ≤ zot (M 57) e t then c t else 0) (full + 1) ∧ M' = M)) := by
  have i1 := hi.1
  have loop : ∀ (q x : Nat) (v : Int), 1000 < q + x → x ≤ 1000 → y ≤ (x : Int) → v = zsum (fun x => if y ≤ (x : Int) then M 71 (1000 * b + x) else 0) x → zW mX11_partsFrom (d + 1) 0 0 [] (zJ sz S (fun r M' => r = zsum (fun t => if y ≤ zot (M 57) e t then c t else 0) (full + 1) ∧ M' = M)) 5 [some (zn 55), some (zi y), some (zi (b : Int)), some (zl v), none, some (zi x)] [] sz S M := by
    intro q
    induction q with
    | zero => intro x v hq hx; omega
    | succ q ih =>
      intro x v hq hx hyx hv
      obtain ⟨τ, hp, hs⟩ := zRR_sum hi hok hR y x hx
      have hbd := zods_b hc (p := fun t => y ≤ zot (M 57) e t) hp.1
      rw [← hs] at hbd
      have hv9 : 0 ≤ v ∧ v ≤ 1000000000000 := by rw [hv]; exact hbd
      refine x_iload 7 rfl dX11_partsFrom_5 rfl ?_
      refine x_sipush 10 rfl dX11_partsFrom_7 (by decide) ?_
      refine x_icmp_ge 13 35 rfl dX11_partsFrom_10 (by decide) (fun c10 => ?_) (fun c10 => ?_)
      · refine x_lload_n 36 rfl dX11_partsFrom_35 3 rfl rfl ?_
        refine x_retj dX11_partsFrom_36 rfl ?_
        refine ⟨?_, rfl⟩
        have ex : x = 1000 := by omega
        rw [hv]
        show zsum (fun x => if y ≤ (x : Int) then M 71 (1000 * b + x) else 0) x = _
        refine hs.trans ?_
        have et : τ = full + 1 := by
          rcases Nat.lt_or_ge τ (full + 1) with h | h
          · have h1 := hp.2.2 τ (Nat.le_refl _) (by omega)
            have h2 := (zot_in hi hok.1 (t := τ)).2
            omega
          · have := hp.1; omega
        rw [et]
      · have hxv : 0 ≤ M 71 (1000 * b + x) ∧ M 71 (1000 * b + x) ≤ 1000000000000 := by
          rcases Classical.em (zImg (M 57) e full x) with h | h
          · obtain ⟨t, h1, h2⟩ := h
            have h3 := hR.1 t h1
            rw [← h2, show ((x : Int)).toNat = x by omega] at h3
            have h3 : M 71 (1000 * b + x) = c t := h3
            rw [h3]
            exact ⟨hc.1 t h1, Int.le_trans (zsum_le (full + 1) (fun s hs => hc.1 s (by omega)) t (by omega)) hc.2⟩
          · have h3 : M 71 (1000 * b + x) = 0 := hR.2 x (by omega) h
            omega
        refine x_lload_n 14 rfl dX11_partsFrom_13 3 rfl rfl ?_
        refine x_aload_n 15 rfl dX11_partsFrom_14 0 rfl rfl ?_
        refine x_getr 18 rfl fX11_71 dX11_partsFrom_15 (lyl55 hL) (lys55 hL) (by decide) (71) rfl ?_
        refine x_sipush 21 rfl dX11_partsFrom_18 (by decide) ?_
        refine x_iload_n 22 rfl dX11_partsFrom_21 2 rfl rfl ?_
        refine y_imul 23 rfl dX11_partsFrom_22 (by omega) ?_
        refine x_iload 25 rfl dX11_partsFrom_23 rfl ?_
        refine y_iadd 26 rfl dX11_partsFrom_25 (by omega) ?_
        refine x_lald 27 rfl dX11_partsFrom_26 (lyl71 hL) (lys71 hL) (by omega) (by omega) ?_
        rw [show ((1000 : Int) * (b : Int) + (x : Int)).toNat = 1000 * b + x by omega]
        refine y_ladd 28 rfl dX11_partsFrom_27 (by omega) ?_
        refine y_lstore_n 29 rfl dX11_partsFrom_28 rfl rfl (ls' := [_, _, _, _, _, _]) rfl (by decide) ?_
        refine w_iinc 32 rfl dX11_partsFrom_29 rfl (by decide) (by omega) rfl (ls' := [_, _, _, _, _, _]) rfl (by decide) ?_
        refine x_goto 5 dX11_partsFrom_32 (by decide) ?_
        refine ih (x + 1) _ (by omega) (by omega) (by omega) ?_
        rw [zsum_s, ← hv, if_pos hyx]
  refine zX_of pl_RX11 [some (zn 55), some (zi y), some (zi (b : Int)), none, none, none] 3 rfl rfl ?_
  refine x_lconst (x := 0) 1 rfl dX11_partsFrom_0 rfl ?_
  refine y_lstore_n 2 rfl dX11_partsFrom_1 rfl rfl (ls' := [_, _, _, _, _, _]) rfl (by decide) ?_
  refine x_iload_n 3 rfl dX11_partsFrom_2 1 rfl rfl ?_
  refine y_istore 5 rfl dX11_partsFrom_3 rfl (ls' := [_, _, _, _, _, _]) rfl (by decide) ?_
  refine z_wk (ls' := [some (zn 55), some (zi y), some (zi (b : Int)), some (zl 0), none, some (zi ((y.toNat : Nat) : Int))]) ⟨rfl, rfl, rfl, rfl, z_e (by omega), trivial⟩ (loop 1001 y.toNat 0 (by omega) (by omega) (by omega) ?_)
  rw [zsum_z2 _ (fun s hs => if_neg (by omega))]

set_option maxRecDepth 100000 in
set_option maxHeartbeats 4000000 in
theorem c_X11_odds {d sz : Nat} {S : zSh} {M : zMem} (hL : LY S sz) (hi : KI (M 57)) {Lw : List gC} (hLw : LwI (M 57) Lw) {x n y : Int} : zX (d + 44) 0 0 mX11_odds [zn 55, zi x, zi n, zi y] sz S M (zJ sz S (fun r M' => r = zodds Lw (M 57) x n y ∧ bF M M' ∧ M' 72 = M 72)) := by
  have i1 := hi.1
  have hcr := zcrew_in hi
  have body : ∀ g : Nat, (g : Int) < M 57 76 → (0 ≤ n ∧ n ≤ 24) → (0 ≤ y ∧ y ≤ 999) → ∀ (e : Int) (full : Nat), (1 ≤ e ∧ e ≤ 99) → zOK (M 57) e n full → zful (M 57) e n = full → zodds Lw (M 57) (g : Int) n y = zods (M 57) e g n y → ∀ M9 : zMem, bF M M9 → M9 72 = M 72 → zW mX11_odds (d + 44) 0 0 [] (zJ sz S (fun r M' => r = zodds Lw (M 57) (g : Int) n y ∧ bF M M' ∧ M' 72 = M 72)) 44 [some (zn 55), some (zi (g : Int)), some (zi n), some (zi y), some (zi e), none, none, none] [] sz S M9 := by
    intro g hg hn hy e full he hok hfu hod M9 hF9 h729
    have hch := zch_Ch hi (g := g) (by omega)
    have hfi := zful_in hi he hn
    rw [hfu] at hfi
    have hoi := fun t => zot_in hi he (t := t)
    have mon : ∀ (q j : Nat) (b : Nat) (M1 : zMem), n.toNat < q + j → j ≤ n.toNat → b ≤ 1 → zRR (M 57) e full (zcr full (zch (M 57) g) j) (fun i => M1 71 (1000 * b + i)) → bF M M1 → M1 72 = M 72 → zW mX11_odds (d + 44) 0 0 [] (zJ sz S (fun r M' => r = zodds Lw (M 57) (g : Int) n y ∧ bF M M' ∧ M' 72 = M 72)) 89 [some (zn 55), some (zi (g : Int)), some (zi n), some (zi y), some (zi e), some (zi (b : Int)), some (zi (j : Int)), none] [] sz S M1 := by
      intro q
      induction q with
      | zero => intro j b M1 hq hj; omega
      | succ q ih =>
        intro j b M1 hq hj hb hR hF1 h721
        have e57 := bF_57 hF1
        have hrow := zcr_row (full := full) hch j
        have walk : ∀ (p z τ : Nat) (M2 : zMem), 1001 < p + z → (z : Int) ≤ M 57 73 + 1 → j < n.toNat → zPt (M 57) e full z τ → zRR (M 57) e full (zcr full (zch (M 57) g) j) (fun i => M2 71 (1000 * b + i)) → (∀ s, s ≤ full → M2 71 (1000 * (1 - b) + (zot (M 57) e s).toNat) = zsu full (zch (M 57) g) (zcr full (zch (M 57) g) j) s τ) → (∀ v : Nat, v < 1000 → ¬ zImg (M 57) e full v → M2 71 (1000 * (1 - b) + v) = 0) → bF M M2 → M2 72 = M 72 → zW mX11_odds (d + 44) 0 0 [] (zJ sz S (fun r M' => r = zodds Lw (M 57) (g : Int) n y ∧ bF M M' ∧ M' 72 = M 72)) 132 [some (zn 55), some (zi (g : Int)), some (zi n), some (zi y), some (zi e), some (zi (b : Int)), some (zi (j : Int)), some (zi (z : Int))] [] sz S M2 := by
          intro p
          induction p with
          | zero => intro z τ M2 hp hz; omega
          | succ p ih2 =>
            intro z τ M2 hp hz hjn hpt hR2 hs1 hs0 hF2 h722
            have e572 := bF_57 hF2
            have hxb : ∀ v, v < 1000 → 0 ≤ M2 71 (1000 * (1 - b) + v) ∧ M2 71 (1000 * (1 - b) + v) ≤ 1000000000000 := fun v hv => by
              rcases Classical.em (zImg (M 57) e full v) with h | h
              · obtain ⟨t, h1, h2⟩ := h
                have h3 := hs1 t h1
                rw [← h2, show ((v : Int)).toNat = v by omega] at h3
                rw [h3]; exact zsu_b hch hrow h1 hpt.1
              · rw [hs0 v hv h]; decide
            refine x_iload 134 rfl dX11_odds_132 rfl ?_
            refine x_aload_n 135 rfl dX11_odds_134 0 rfl rfl ?_
            refine x_getr 138 rfl fX11_24 dX11_odds_135 (lyl55 hL) (lys55 hL) (by decide) (57) rfl ?_
            refine x_bipush 140 rfl dX11_odds_138 (by decide) ?_
            refine x_ialk 141 rfl dX11_odds_140 (lyl57 hL) (lys57 hL) 73 rfl (by decide) ?_
            rw [e572]
            refine x_icmp_gt 144 180 rfl dX11_odds_141 (by decide) (fun c141 => ?_) (fun c141 => ?_)
            · refine x_iconst 181 rfl dX11_odds_180 (by decide) ?_
              refine x_iload 183 rfl dX11_odds_181 rfl ?_
              refine y_isub 184 rfl dX11_odds_183 (by omega) ?_
              refine y_istore 186 rfl dX11_odds_184 rfl (ls' := [_, _, _, _, _, _, _, _]) rfl (by decide) ?_
              refine w_iinc 189 rfl dX11_odds_186 rfl (by decide) (by omega) rfl (ls' := [_, _, _, _, _, _, _, _]) rfl (by decide) ?_
              refine x_goto 89 dX11_odds_189 (by decide) ?_
              have et : τ = full + 1 := by
                rcases Nat.lt_or_ge τ (full + 1) with h | h
                · have h1 := hpt.2.2 τ (Nat.le_refl _) (by omega)
                  have h2 := (hoi τ).2
                  omega
                · have := hpt.1; omega
              subst et
              refine z_wk (ls' := [some (zn 55), some (zi (g : Int)), some (zi n), some (zi y), some (zi e), some (zi ((1 - b : Nat) : Int)), some (zi ((j + 1 : Nat) : Int)), none]) ⟨rfl, rfl, rfl, rfl, rfl, z_e (by omega), rfl, trivial⟩ (ih (j + 1) (1 - b) M2 (by omega) (by omega) (by omega) ⟨fun t ht => hs1 t ht, fun v a c => hs0 v a c⟩ hF2 h722)
            · have hzz : z < 1000 := by omega
              refine x_aload_n 145 rfl dX11_odds_144 0 rfl rfl ?_
              refine x_getr 148 rfl fX11_71 dX11_odds_145 (lyl55 hL) (lys55 hL) (by decide) (71) rfl ?_
              refine x_sipush 151 rfl dX11_odds_148 (by decide) ?_
              refine x_iload 153 rfl dX11_odds_151 rfl ?_
              refine y_imul 154 rfl dX11_odds_153 (by omega) ?_
              refine x_iload 156 rfl dX11_odds_154 rfl ?_
              refine y_iadd 157 rfl dX11_odds_156 (by omega) ?_
              refine x_lald 158 rfl dX11_odds_157 (lyl71 hL) (lys71 hL) (by omega) (by omega) ?_
              rw [show ((1000 : Int) * (b : Int) + (z : Int)).toNat = 1000 * b + z by omega]
              refine x_lconst (x := 0) 159 rfl dX11_odds_158 rfl ?_
              refine x_lcmp 160 rfl dX11_odds_159 ?_
              refine x_if_le 163 174 rfl dX11_odds_160 (by decide) (fun c160 => ?_) (fun c160 => ?_)
              · have c160 := zcmp_le.1 c160
                refine w_iinc 177 rfl dX11_odds_174 rfl (by decide) (by omega) rfl (ls' := [_, _, _, _, _, _, _, _]) rfl (by decide) ?_
                refine x_goto 132 dX11_odds_177 (by decide) ?_
                rcases Classical.em (zImg (M 57) e full z) with h | h
                · obtain ⟨h1, h2⟩ := zPt_img hok hpt h
                  have h3 := hR2.1 τ h1
                  rw [h2, show ((z : Int)).toNat = z by omega] at h3
                  have h3 : M2 71 (1000 * b + z) = zcr full (zch (M 57) g) j τ := h3
                  have h4 := hrow.1 τ h1
                  have h5 : zcr full (zch (M 57) g) j τ = 0 := by omega
                  refine ih2 (z + 1) (τ + 1) M2 (by omega) (by omega) hjn (zPt_y hok hpt h1 h2) hR2 (fun s a => ?_) hs0 hF2 h722
                  rw [hs1 s a]; show _ = zsu full (zch (M 57) g) (zcr full (zch (M 57) g) j) s τ + zct full (zch (M 57) g) (zcr full (zch (M 57) g) j) τ s 4; rw [zct_0 h5]; omega
                · exact ih2 (z + 1) τ M2 (by omega) (by omega) hjn (zPt_n hpt h) hR2 hs1 hs0 hF2 h722
              · have c160 : 0 < M2 71 (1000 * b + z) := Int.not_le.1 (fun h => c160 (zcmp_le.2 h))
                have him : zImg (M 57) e full z := Classical.byContradiction (fun h => by have h3 : M2 71 (1000 * b + z) = 0 := hR2.2 z hzz h; omega)
                obtain ⟨h1, h2⟩ := zPt_img hok hpt him
                have h3 := hR2.1 τ h1
                rw [h2, show ((z : Int)).toNat = z by omega] at h3
                have h3 : M2 71 (1000 * b + z) = zcr full (zch (M 57) g) j τ := h3
                have h4 : zcr full (zch (M 57) g) j τ ≤ 1000000000000 := Int.le_trans (zsum_le (full + 1) (fun s hs => hrow.1 s (by omega)) τ (by omega)) hrow.2
                have hsup : τ ≤ 3 * j := by
                  rcases Nat.lt_or_ge (3 * j) τ with h | h
                  · have := zcr_sup (full := full) (ch := zch (M 57) g) j τ h; omega
                  · exact h
                refine x_aload_n 164 rfl dX11_odds_163 0 rfl rfl ?_
                refine x_iload_n 165 rfl dX11_odds_164 1 rfl rfl ?_
                refine x_iload 167 rfl dX11_odds_165 rfl ?_
                refine x_iload 169 rfl dX11_odds_167 rfl ?_
                refine x_iload 171 rfl dX11_odds_169 rfl ?_
                refine x_cVu 174 rfl lX11_400 dX11_odds_171 (lyl55 hL) (lys55 hL) (c_X11_spreadsPart hL (by rw [e572]; exact hi) (g := g) (by omega) he (n := z) (by rw [e572]; omega) hb (by omega) hxb) rfl rfl (Nat.le_of_ble_eq_true rfl) (fun M3 hr3 => ?_)
                obtain ⟨g1, g2, g3⟩ := hr3
                rw [e572] at g1
                have ha : ∀ w : Nat, w ≤ 3 → (min (M 57 73) ((z : Int) + (w : Int) * e)).toNat = (zot (M 57) e (min full (τ + w))).toNat := fun w hw => by rw [← h2, zot_step hi hok h1 hw (fun h9 => by omega)]
                refine w_iinc 177 rfl dX11_odds_174 rfl (by decide) (by omega) rfl (ls' := [_, _, _, _, _, _, _, _]) rfl (by decide) ?_
                refine x_goto 132 dX11_odds_177 (by decide) ?_
                refine ih2 (z + 1) (τ + 1) M3 (by omega) (by omega) hjn (zPt_y hok hpt h1 h2) ⟨fun t ht => ?_, fun v a c => ?_⟩ (fun s a => ?_) (fun v a c => ?_) (bF_one hF2 g3) (by rw [g3 72 (by decide)]; exact h722)
                · show M3 71 (1000 * b + (zot (M 57) e t).toNat) = _
                  have := hoi t
                  rw [g2 _ (by omega)]; exact hR2.1 t ht
                · show M3 71 (1000 * b + v) = 0
                  rw [g2 v a]; exact hR2.2 v a c
                · have := hoi s
                  rw [g1 _ (by omega), hs1 s a, h3, zad_ct (c := zcr full (zch (M 57) g) j) hok a ha ⟨i1.1, fun t => (hoi t).1⟩ 4 (Nat.le_refl _)]
                  rfl
                · rw [g1 v a, hs0 v a c, zad_no (fun w hw => ?_) 4 (Nat.le_refl _)]; decide
                  rw [ha w hw]
                  intro h9
                  have := hoi (min full (τ + w))
                  exact c ⟨min full (τ + w), by omega, by omega⟩
        have zero : ∀ (p z : Nat) (M2 : zMem), 1000 < p + z → z ≤ 1000 → j < n.toNat → zRR (M 57) e full (zcr full (zch (M 57) g) j) (fun i => M2 71 (1000 * b + i)) → (∀ v : Nat, v < z → M2 71 (1000 * (1 - b) + v) = 0) → bF M M2 → M2 72 = M 72 → zW mX11_odds (d + 44) 0 0 [] (zJ sz S (fun r M' => r = zodds Lw (M 57) (g : Int) n y ∧ bF M M' ∧ M' 72 = M 72)) 98 [some (zn 55), some (zi (g : Int)), some (zi n), some (zi y), some (zi e), some (zi (b : Int)), some (zi (j : Int)), some (zi (z : Int))] [] sz S M2 := by
          intro p
          induction p with
          | zero => intro z M2 hp hz; omega
          | succ p ih2 =>
            intro z M2 hp hz hjn hR2 hs0 hF2 h722
            refine x_iload 100 rfl dX11_odds_98 rfl ?_
            refine x_sipush 103 rfl dX11_odds_100 (by decide) ?_
            refine x_icmp_ge 106 129 rfl dX11_odds_103 (by decide) (fun c103 => ?_) (fun c103 => ?_)
            · refine x_iconst 130 rfl dX11_odds_129 (by decide) ?_
              refine y_istore 132 rfl dX11_odds_130 rfl (ls' := [_, _, _, _, _, _, _, _]) rfl (by decide) ?_
              refine walk 1002 0 0 M2 (by omega) (by omega) hjn (zPt_0 hi he) hR2 (fun s a => ?_) (fun v a c => hs0 v (by omega)) hF2 h722
              have := hoi s
              rw [hs0 _ (by omega)]; rfl
            · refine x_aload_n 107 rfl dX11_odds_106 0 rfl rfl ?_
              refine x_getr 110 rfl fX11_71 dX11_odds_107 (lyl55 hL) (lys55 hL) (by decide) (71) rfl ?_
              refine x_sipush 113 rfl dX11_odds_110 (by decide) ?_
              refine x_iconst 114 rfl dX11_odds_113 (by decide) ?_
              refine x_iload 116 rfl dX11_odds_114 rfl ?_
              refine y_isub 117 rfl dX11_odds_116 (by omega) ?_
              refine y_imul 118 rfl dX11_odds_117 (by omega) ?_
              refine x_iload 120 rfl dX11_odds_118 rfl ?_
              refine y_iadd 121 rfl dX11_odds_120 (by omega) ?_
              refine x_lconst (x := 0) 122 rfl dX11_odds_121 rfl ?_
              refine x_last 123 rfl dX11_odds_122 (lyl71 hL) (lys71 hL) (by omega) (by omega) ?_
              rw [show ((1000 : Int) * (1 - (b : Int)) + (z : Int)).toNat = 1000 * (1 - b) + z by omega]
              refine w_iinc 126 rfl dX11_odds_123 rfl (by decide) (by omega) rfl (ls' := [_, _, _, _, _, _, _, _]) rfl (by decide) ?_
              refine x_goto 98 dX11_odds_126 (by decide) ?_
              refine ih2 (z + 1) _ (by omega) (by omega) hjn ⟨fun t ht => ?_, fun v a c => ?_⟩ (fun v a => ?_) (bF_up hF2 (by omega)) (by rw [z_up_ne (by decide)]; exact h722)
              · have := hoi t
                show z_up M2 71 _ _ 71 (1000 * b + (zot (M 57) e t).toNat) = _
                rw [z_up_nk (by omega)]; exact hR2.1 t ht
              · show z_up M2 71 _ _ 71 (1000 * b + v) = 0
                rw [z_up_nk (by omega)]; exact hR2.2 v a c
              · by_cases ev : v = z
                · rw [ev, z_up_eq]
                · rw [z_up_nk (by omega)]; exact hs0 v (by omega)
        refine x_iload 91 rfl dX11_odds_89 rfl ?_
        refine x_iload_n 92 rfl dX11_odds_91 2 rfl rfl ?_
        refine x_icmp_ge 95 192 rfl dX11_odds_92 (by decide) (fun c92 => ?_) (fun c92 => ?_)
        · have ej : j = n.toNat := by omega
          subst ej
          refine x_aload_n 193 rfl dX11_odds_192 0 rfl rfl ?_
          refine x_iload_n 194 rfl dX11_odds_193 3 rfl rfl ?_
          refine x_iload 196 rfl dX11_odds_194 rfl ?_
          refine x_cVj 199 rfl lX11_403 dX11_odds_196 (lyl55 hL) (lys55 hL) (c_X11_partsFrom hL (by rw [e57]; exact hi) hb (e := e) (n9 := n) (full := full) (by rw [e57]; exact hok) hrow (by rw [e57]; exact hR) hy) rfl rfl (Nat.le_of_ble_eq_true rfl) (fun r5 M7 hr5 => ?_)
          obtain ⟨hr6, hM7⟩ := hr5
          rw [e57] at hr6
          refine x_retj dX11_odds_199 rfl ?_
          refine ⟨?_, by rw [hM7]; exact hF1, by rw [hM7]; exact h721⟩
          rw [hod, hr6]
          unfold zods
          rw [hfu]
        · refine x_iconst 96 rfl dX11_odds_95 (by decide) ?_
          refine y_istore 98 rfl dX11_odds_96 rfl (ls' := [_, _, _, _, _, _, _, _]) rfl (by decide) ?_
          refine z_wk (ls' := [some (zn 55), some (zi (g : Int)), some (zi n), some (zi y), some (zi e), some (zi (b : Int)), some (zi (j : Int)), some (zi ((0 : Nat) : Int))]) ⟨rfl, rfl, rfl, rfl, rfl, rfl, rfl, rfl, trivial⟩ (zero 1001 0 M1 (by omega) (by omega) (by omega) hR (fun v a => by omega) hF1 h721)
    have fill : ∀ (p z : Nat) (M2 : zMem), 2000 < p + z → z ≤ 2000 → (∀ v : Nat, v < z → M2 71 v = 0) → bF M M2 → M2 72 = M 72 → zW mX11_odds (d + 44) 0 0 [] (zJ sz S (fun r M' => r = zodds Lw (M 57) (g : Int) n y ∧ bF M M' ∧ M' 72 = M 72)) 50 [some (zn 55), some (zi (g : Int)), some (zi n), some (zi y), some (zi e), some (zi 0), some (zi (z : Int)), none] [] sz S M2 := by
      intro p
      induction p with
      | zero => intro z M2 hp hz; omega
      | succ p ih =>
        intro z M2 hp hz hs0 hF2 h722
        have e572 := bF_57 hF2
        refine x_iload 52 rfl dX11_odds_50 rfl ?_
        refine x_sipush 55 rfl dX11_odds_52 (by decide) ?_
        refine x_icmp_ge 58 72 rfl dX11_odds_55 (by decide) (fun c55 => ?_) (fun c55 => ?_)
        · refine x_aload_n 73 rfl dX11_odds_72 0 rfl rfl ?_
          refine x_getr 76 rfl fX11_71 dX11_odds_73 (lyl55 hL) (lys55 hL) (by decide) (71) rfl ?_
          refine x_aload_n 77 rfl dX11_odds_76 0 rfl rfl ?_
          refine x_getr 80 rfl fX11_24 dX11_odds_77 (lyl55 hL) (lys55 hL) (by decide) (57) rfl ?_
          refine x_iconst 81 rfl dX11_odds_80 (by decide) ?_
          refine x_ialk 82 rfl dX11_odds_81 (lyl57 hL) (lys57 hL) 0 rfl (by decide) ?_
          rw [e572]
          refine x_ldc2 (x := 1000000000000) 85 rfl klX11_368 (by decide) dX11_odds_82 ?_
          refine x_last 86 rfl dX11_odds_85 (lyl71 hL) (lys71 hL) (by omega) (by omega) ?_
          refine x_iconst 87 rfl dX11_odds_86 (by decide) ?_
          refine y_istore 89 rfl dX11_odds_87 rfl (ls' := [_, _, _, _, _, _, _, _]) rfl (by decide) ?_
          refine z_wk (ls' := [some (zn 55), some (zi (g : Int)), some (zi n), some (zi y), some (zi e), some (zi ((0 : Nat) : Int)), some (zi ((0 : Nat) : Int)), none]) ⟨rfl, rfl, rfl, rfl, rfl, rfl, rfl, trivial⟩ (mon (n.toNat + 1) 0 0 _ (by omega) (by omega) (by omega) ⟨fun t ht => ?_, fun v a c => ?_⟩ (bF_up hF2 (by omega)) (by rw [z_up_ne (by decide)]; exact h722))
          · have h5 := hoi t
            show z_up M2 71 _ _ 71 (1000 * 0 + (zot (M 57) e t).toNat) = (if t = 0 then (1000000000000 : Int) else 0)
            have h0 : zot (M 57) e 0 = M 57 0 := by unfold zot; rw [show ((0 : Nat) : Int) * e = 0 by omega]; omega
            by_cases et : t = 0
            · rw [if_pos et, et, h0, show 1000 * 0 + (M 57 0).toNat = (M 57 0).toNat by omega, z_up_eq]
            · have := zot_mono hok (t := 0) (t' := t) (by omega) ht
              rw [if_neg et, z_up_nk (by omega)]; exact hs0 _ (by omega)
          · show z_up M2 71 _ _ 71 (1000 * 0 + v) = 0
            have h0 : zot (M 57) e 0 = M 57 0 := by unfold zot; rw [show ((0 : Nat) : Int) * e = 0 by omega]; omega
            have hv : (v : Int) ≠ M 57 0 := fun h => c ⟨0, by omega, by omega⟩
            rw [z_up_nk (by omega)]; exact hs0 _ (by omega)
        · refine x_aload_n 59 rfl dX11_odds_58 0 rfl rfl ?_
          refine x_getr 62 rfl fX11_71 dX11_odds_59 (lyl55 hL) (lys55 hL) (by decide) (71) rfl ?_
          refine x_iload 64 rfl dX11_odds_62 rfl ?_
          refine x_lconst (x := 0) 65 rfl dX11_odds_64 rfl ?_
          refine x_last 66 rfl dX11_odds_65 (lyl71 hL) (lys71 hL) (by omega) (by omega) ?_
          rw [show ((z : Int)).toNat = z by omega]
          refine w_iinc 69 rfl dX11_odds_66 rfl (by decide) (by omega) rfl (ls' := [_, _, _, _, _, _, _, _]) rfl (by decide) ?_
          refine x_goto 50 dX11_odds_69 (by decide) ?_
          refine ih (z + 1) _ (by omega) (by omega) (fun v a => ?_) (bF_up hF2 (by omega)) (by rw [z_up_ne (by decide)]; exact h722)
          by_cases ev : v = z
          · rw [ev, z_up_eq]
          · rw [z_up_nk ev]; exact hs0 v (by omega)
    refine x_iconst 45 rfl dX11_odds_44 (by decide) ?_
    refine y_istore 47 rfl dX11_odds_45 rfl (ls' := [_, _, _, _, _, _, _, _]) rfl (by decide) ?_
    refine x_iconst 48 rfl dX11_odds_47 (by decide) ?_
    refine y_istore 50 rfl dX11_odds_48 rfl (ls' := [_, _, _, _, _, _, _, _]) rfl (by decide) ?_
    exact fill 2001 0 M9 (by omega) (by omega) (fun v a => by omega) hF9 h729
  refine zX_of pl_RX11 [some (zn 55), some (zi x), some (zi n), some (zi y), none, none, none, none] 4 rfl rfl ?_
  refine x_aload_n 1 rfl dX11_odds_0 0 rfl rfl ?_
  refine x_iload_n 2 rfl dX11_odds_1 1 rfl rfl ?_
  refine x_cVi 5 rfl lX11_129 dX11_odds_2 (lyl55 hL) (lys55 hL) (c_X11_isGround hL hi) rfl rfl (Nat.le_of_ble_eq_true rfl) (fun a1 M8 ha1 => ?_)
  obtain ⟨ha2, hM8⟩ := ha1
  rw [hM8]
  refine x_if_eq 8 29 rfl dX11_odds_5 (by decide) (fun c5 => ?_) (fun c5 => ?_)
  · have hx : ¬ (0 ≤ x ∧ x < M 57 76) := fun h9 => by rw [if_pos h9] at ha2; omega
    refine x_ldc2 (x := -1) 32 rfl klX11_392 (by decide) dX11_odds_29 ?_
    refine x_retj dX11_odds_32 rfl ?_
    exact ⟨by unfold zodds; rw [if_neg (fun h9 => hx h9.1)], bF_refl, rfl⟩
  · have hx : 0 ≤ x ∧ x < M 57 76 := Decidable.byContradiction (fun h9 => by rw [if_neg h9] at ha2; omega)
    refine x_iload_n 9 rfl dX11_odds_8 2 rfl rfl ?_
    refine x_iconst 10 rfl dX11_odds_9 (by decide) ?_
    refine x_bipush 12 rfl dX11_odds_10 (by decide) ?_
    refine x_cSi 15 rfl lX11_90 dX11_odds_12 c_X11_lies rfl rfl (Nat.le_of_ble_eq_true rfl) (fun a3 M7 ha3 => ?_)
    obtain ⟨ha4, hM7⟩ := ha3
    rw [hM7]
    refine x_if_eq 18 29 rfl dX11_odds_15 (by decide) (fun c15 => ?_) (fun c15 => ?_)
    · have hn : ¬ (0 ≤ n ∧ n ≤ 24) := fun h9 => by rw [if_pos h9] at ha4; omega
      refine x_ldc2 (x := -1) 32 rfl klX11_392 (by decide) dX11_odds_29 ?_
      refine x_retj dX11_odds_32 rfl ?_
      exact ⟨by unfold zodds; rw [if_neg (fun h9 => hn h9.2.1)], bF_refl, rfl⟩
    · have hn : 0 ≤ n ∧ n ≤ 24 := Decidable.byContradiction (fun h9 => by rw [if_neg h9] at ha4; omega)
      refine x_iload_n 19 rfl dX11_odds_18 3 rfl rfl ?_
      refine x_iconst 20 rfl dX11_odds_19 (by decide) ?_
      refine x_sipush 23 rfl dX11_odds_20 (by decide) ?_
      refine x_cSi 26 rfl lX11_90 dX11_odds_23 c_X11_lies rfl rfl (Nat.le_of_ble_eq_true rfl) (fun a5 M6 ha5 => ?_)
      obtain ⟨ha6, hM6⟩ := ha5
      rw [hM6]
      refine x_if_ne 29 33 rfl dX11_odds_26 (by decide) (fun c26 => ?_) (fun c26 => ?_)
      · have hy : 0 ≤ y ∧ y ≤ 999 := Decidable.byContradiction (fun h9 => by rw [if_neg h9] at ha6; omega)
        refine x_aload_n 34 rfl dX11_odds_33 0 rfl rfl ?_
        refine x_iload_n 35 rfl dX11_odds_34 1 rfl rfl ?_
        refine x_aload_n 36 rfl dX11_odds_35 0 rfl rfl ?_
        refine x_cVi 39 rfl lX11_108 dX11_odds_36 (lyl55 hL) (lys55 hL) (c_X11_crewNow hL hi) rfl rfl (Nat.le_of_ble_eq_true rfl) (fun a7 M5 ha7 => ?_)
        obtain ⟨ha8, hM5⟩ := ha7
        rw [hM5]
        subst ha8
        refine x_cVi 42 rfl lX11_132 dX11_odds_39 (lyl55 hL) (lys55 hL) (c_X11_casksIn (Lw := Lw) hL hi hLw (by omega) (by omega)) rfl rfl (Nat.le_of_ble_eq_true rfl) (fun a9 M4 ha9 => ?_)
        obtain ⟨hb1, hF4⟩ := ha9
        refine y_istore 44 rfl dX11_odds_42 rfl (ls' := [_, _, _, _, _, _, _, _]) rfl (by decide) ?_
        have heb := zcasks_in (Lw := Lw) (k := M 57) (g := x.toNat) (crew := zcrew (M 57))
        rw [← hb1] at heb
        have ex : ((x.toNat : Nat) : Int) = x := by omega
        have h9 := body x.toNat (by omega) hn hy a9 _ heb (zOK_of hi heb hn) rfl (by rw [ex]; unfold zodds; rw [if_pos ⟨hx, hn, hy⟩, ← hb1]) M4 (bF_mF bF_refl hF4) (hF4.1 72 (by decide) (by decide))
        rw [ex] at h9
        exact h9
      · have hy : ¬ (0 ≤ y ∧ y ≤ 999) := fun h9 => by rw [if_pos h9] at ha6; omega
        refine x_ldc2 (x := -1) 32 rfl klX11_392 (by decide) dX11_odds_29 ?_
        refine x_retj dX11_odds_32 rfl ?_
        exact ⟨by unfold zodds; rw [if_neg (fun h9 => hy h9.2.2)], bF_refl, rfl⟩
