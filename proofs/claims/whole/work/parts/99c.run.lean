/-! class: the run -/
def roF (M M' : zMem) : Prop := (∀ i, (i = 0 ∨ i = 2 ∨ i = 4 ∨ i = 6 ∨ i = 7 ∨ (9 ≤ i ∧ i ≤ 23) ∨ (27 ≤ i ∧ i ≤ 40) ∨ i = 43 ∨ i = 46 ∨ 49 ≤ i) → M' i = M i) ∧ v42 M' ∧ v48 M'
def roQ (M : zMem) (res : Nat ⊕ oS) (r : Int) (M' : zMem) : Prop := roF M M' ∧ match res with
  | .inl j => r = -3 ∧ M' 45 3 = (j : Int)
  | .inr s => r = s.2.2.2.1 ∧ 0 ≤ r ∧ r ≤ 300 ∧ SR M' 1 s.1 ∧ KI s.1 ∧ LR M' 24 s.2.1 s.2.2.1
def roI (M : zMem) (k : Nat → Int) (m : Nat) (s : oS) (M1 : zMem) : Prop := roF M M1 ∧ SR M1 1 s.1 ∧ KI s.1 ∧ s.1 79 = k 79 ∧ LR M1 24 s.2.1 s.2.2.1 ∧ M1 48 10 = s.2.2.2.1 ∧ M1 48 11 = s.2.2.2.2 ∧ (0 ≤ s.2.2.2.1 ∧ s.2.2.2.1 ≤ (m : Int)) ∧ (-1 ≤ s.2.2.2.2 ∧ s.2.2.2.2 ≤ 1000000)
theorem roI_mono {M M1 : zMem} {k : Nat → Int} {m m' : Nat} {s : oS} (h : roI M k m s M1) (hm : m ≤ m') : roI M k m' s M1 := by
  obtain ⟨h1, h2, h3, h4, h5, h6, h7, h8, h9⟩ := h
  exact ⟨h1, h2, h3, h4, h5, h6, h7, by omega, h9⟩
theorem roF_47 {M M1 : zMem} {f : Nat → Int} (h : roF M M1) : roF M (z_mup M1 47 f) := by
  refine ⟨fun i hi => by rw [z_mup_ne (by omega)]; exact h.1 i hi, fun j hj => by rw [z_mup_ne (by decide)]; exact h.2.1 j hj, fun j hj => by rw [z_mup_ne (by decide)]; exact h.2.2 j hj⟩
theorem roI_47 {M M1 : zMem} {k : Nat → Int} {m : Nat} {s : oS} {f : Nat → Int} (h : roI M k m s M1) : roI M k m s (z_mup M1 47 f) := by
  obtain ⟨h1, h2, h3, h4, h5, h6, h7, h8, h9⟩ := h
  exact ⟨roF_47 h1, SR_frame h2 (fun i a b => by rw [z_mup_ne (by omega)]), h3, h4, LR_frame h5 (fun i a b => by rw [z_mup_ne (by omega)]), by rw [z_mup_ne (by decide)]; exact h6, by rw [z_mup_ne (by decide)]; exact h7, h8, h9⟩
theorem roI_OT {M M1 : zMem} {k : Nat → Int} {m : Nat} {s : oS} {L : List gC} (h : roI M k m s M1) (hO : OT M L) : OT M1 L := OT_frame hO (h.1.1 _ (by omega)) (h.1.1 _ (by omega)) (h.1.1 _ (by omega))
theorem roI_Lw {S : zSh} {sz : Nat} {M M1 : zMem} {k : Nat → Int} {m : Nat} {s : oS} {Lw : List gC} (h : roI M k m s M1) (hLw : LwC S sz M 1 k Lw) : LwC S sz M1 1 s.1 Lw := LwC_frame hLw h.2.2.2.1 (h.1.1 _ (by omega)) (fun i hi => h.1.1 i (by omega))
theorem zo1_skip {Lw : List gC} {x : gC} {k : Nat → Int} {l : Nat → Nat → Int} {n : Nat} {d g : Int} (h : x.2.2.2 (oE k d g) ≠ some 1) : zo1 Lw x (k, l, n, d, g) = some (k, l, n, d, g) := by
  unfold zo1
  rw [if_neg h]
theorem zo1_act {Lw : List gC} {x : gC} {k k' : Nat → Int} {l : Nat → Nat → Int} {n : Nat} {d g a b r : Int} (h : x.2.2.2 (oE k d g) = some 1) (h1 : x.2.1 (oE k d g) = some a) (h2 : x.2.2.1 (oE k d g) = some b) (hA : zactF Lw k x.1.1 a b = (r, k')) : zo1 Lw x (k, l, n, d, g) = if r < 0 then none else some (k', lpush l n k (x.1.1 - 16), min (n + 1) 16, d + 1, if x.1.1 = 16 then r else g) := by
  unfold zo1
  rw [if_pos h]
  simp only [h1, h2, hA]
theorem zo1_bk {Lw : List gC} {x : gC} {k : Nat → Int} {l : Nat → Nat → Int} {n : Nat} {d g : Int} (h : x.2.2.2 (oE k d g) = some 1) (h1 : x.2.1 (oE k d g) = none ∨ x.2.2.1 (oE k d g) = none) : zo1 Lw x (k, l, n, d, g) = none := by
  unfold zo1
  rw [if_pos h]
  rcases h1 with h1 | h1
  · simp only [h1]
  · cases h2 : x.2.1 (oE k d g) <;> simp only [h1, h2]
theorem o_some {w : gV} {e : Int → Int → Int} {r : Int} (h : r = (w e).getD zBK) (hn : r ≠ zBK) : w e = some r := by
  cases hq : w e with
  | none => rw [hq] at h; exact absurd h hn
  | some y => rw [hq] at h; have h : r = y := h; rw [h]
theorem o_none {w : gV} {e : Int → Int → Int} {r : Int} (h : r = (w e).getD zBK) (hn : r = zBK) (hb : w e ≠ some zBK) : w e = none := by
  cases hq : w e with
  | none => rfl
  | some y => rw [hq] at h; have h : r = y := h; exact absurd (by rw [hq, ← h, hn]) hb

set_option maxRecDepth 100000 in
set_option maxHeartbeats 4000000 in
theorem c_X0_run {d sz : Nat} {S : zSh} {M : zMem} (hL : LY S sz) {k : Nat → Int} (hs : SR M 1 k) (hi : KI k) {Lw : List gC} (hLw : LwC S sz M 1 k Lw) (hv : v42 M) {n : Nat} {l : Nat → Nat → Int} (hl : LR M 24 l n) {L : List gC} (hO : OT M L) (hv8 : v48 M) : zX (d + 6) 0 0 mX0_run [zn 45, zn 36, zn 1, zn 24] sz S M (zI sz S (fun r M' => roQ M (zoL Lw L 0 (k, l, n, 0, -1)) r M')) := by
  obtain ⟨R, hR⟩ : ∃ R, zoL Lw L 0 (k, l, n, 0, -1) = R := ⟨_, rfl⟩
  obtain ⟨hO1, hO2, hO3, hO4⟩ := id hO
  have lp : ∀ (q c : Nat) (k1 : Nat → Int) (l1 : Nat → Nat → Int) (n1 : Nat) (d1 g1 : Int) (M1 : zMem), L.length < q + c → c ≤ L.length → zoL Lw (L.drop c) c (k1, l1, n1, d1, g1) = R → roI M k (20 * c) (k1, l1, n1, d1, g1) M1 → zW mX0_run (d + 6) 0 0 [] (zI sz S (fun r M' => roQ M (zoL Lw L 0 (k, l, n, 0, -1)) r M')) 24 [some (zn 45), some (zn 36), some (zn 1), some (zn 24), some (zi c), none, none, none, none, none, none, none] [] sz S M1 := by
    intro q
    induction q with
    | zero => intro c k1 l1 n1 d1 g1 M1 hq hn; omega
    | succ q ih =>
      intro c k1 l1 n1 d1 g1 M1 hq hn hZ hI
      have e36 : M1 36 0 = (L.length : Int) := by rw [hI.1.1 36 (by omega)]; exact hO1
      by_cases hc : c < L.length
      · obtain ⟨x, hx⟩ : ∃ x, L[c]? = some x := ⟨L[c], List.getElem?_eq_getElem (by omega)⟩
        obtain ⟨hx0, hx1, hx2, hx3, hx4⟩ := hO3 c x hx
        obtain ⟨hcH, ⟨hc1, hc2, hc3⟩, hnb, hps⟩ := hO4 x (List.mem_of_getElem? hx)
        obtain ⟨hK, htm, -, -, -, htb⟩ := id hcH
        rw [if_pos rfl] at hK
        have hdr : L.drop c = x :: L.drop (c + 1) := by rw [List.drop_eq_getElem_cons hc]; congr 1; exact (List.getElem?_eq_some_iff.mp hx).2
        rw [hdr] at hZ
        obtain ⟨T, hT⟩ : ∃ T, zoT Lw x x.1.2.2.2.2.toNat (k1, l1, n1, d1, g1) = T := ⟨_, rfl⟩
        simp only [zoL, hT] at hZ
        have hZn : T = none → R = .inl c := fun h => by rw [h] at hZ; exact hZ.symm
        have hZs : ∀ s, T = some s → zoL Lw (L.drop (c + 1)) (c + 1) s = R := fun s h => by rw [h] at hZ; exact hZ
        have inn : ∀ (q2 j : Nat) (k2 : Nat → Int) (l2 : Nat → Nat → Int) (n2 : Nat) (d2 g2 : Int) (M2 : zMem), x.1.2.2.2.2.toNat < q2 + j → j ≤ x.1.2.2.2.2.toNat → zoT Lw x (x.1.2.2.2.2.toNat - j) (k2, l2, n2, d2, g2) = T → roI M k (20 * c + j) (k2, l2, n2, d2, g2) M2 → zW mX0_run (d + 6) 0 0 [] (zI sz S (fun r M' => roQ M (zoL Lw L 0 (k, l, n, 0, -1)) r M')) 54 [some (zn 45), some (zn 36), some (zn 1), some (zn 24), some (zi c), some (zi x.1.1), some (zi x.1.2.2.2.2), some (zi j), none, none, none, none] [] sz S M2 := by
          intro q2
          induction q2 with
          | zero => intro j k2 l2 n2 d2 g2 M2 hq2 hj; omega
          | succ q2 ih2 =>
            intro j k2 l2 n2 d2 g2 M2 hq2 hj hT2 hI2
            by_cases hjt : j < x.1.2.2.2.2.toNat
            · obtain ⟨m, hm⟩ : ∃ m, x.1.2.2.2.2.toNat - j = m + 1 := ⟨x.1.2.2.2.2.toNat - j - 1, by omega⟩
              rw [hm] at hT2
              have hT2 : (zo1 Lw x (k2, l2, n2, d2, g2)).bind (zoT Lw x m) = T := hT2
              have nx : ∀ (k5 : Nat → Int) (l5 : Nat → Nat → Int) (n5 : Nat) (d5 g5 : Int) (M5 : zMem), zo1 Lw x (k2, l2, n2, d2, g2) = some (k5, l5, n5, d5, g5) → roI M k (20 * c + j + 1) (k5, l5, n5, d5, g5) M5 → zW mX0_run (d + 6) 0 0 [] (zI sz S (fun r M' => roQ M (zoL Lw L 0 (k, l, n, 0, -1)) r M')) 202 [some (zn 45), some (zn 36), some (zn 1), some (zn 24), some (zi c), some (zi x.1.1), some (zi x.1.2.2.2.2), some (zi j), none, none, none, none] [] sz S M5 := by
                intro k5 l5 n5 d5 g5 M5 h1 h2
                rw [h1] at hT2
                have hT2 : zoT Lw x m (k5, l5, n5, d5, g5) = T := hT2
                rw [show m = x.1.2.2.2.2.toNat - (j + 1) by omega] at hT2
                refine w_iinc 205 rfl dX0_run_202 rfl (by decide) (by omega) rfl (ls' := [_, _, _, _, _, _, _, _, _, _, _, _]) rfl (by decide) ?_
                refine x_goto 54 dX0_run_205 (by decide) ?_
                refine z_wk (ls' := [some (zn 45), some (zn 36), some (zn 1), some (zn 24), some (zi (c : Int)), some (zi x.1.1), some (zi x.1.2.2.2.2), some (zi ((j + 1 : Nat) : Int)), none, none, none, none]) ⟨rfl, rfl, rfl, rfl, rfl, rfl, rfl, z_e (by omega), trivial⟩ (ih2 (j + 1) k5 l5 n5 d5 g5 M5 (by omega) (by omega) hT2 h2)
              have go : ∀ (M3 : zMem), roI M k (20 * c + j) (k2, l2, n2, d2, g2) M3 → oV (M3 48) k2 d2 g2 → x.2.2.2 (oE k2 d2 g2) = some 1 → zW mX0_run (d + 6) 0 0 [] (zI sz S (fun r M' => roQ M (zoL Lw L 0 (k, l, n, 0, -1)) r M')) 105 [some (zn 45), some (zn 36), some (zn 1), some (zn 24), some (zi c), some (zi x.1.1), some (zi x.1.2.2.2.2), some (zi j), none, none, none, none] [] sz S M3 := by
                intro M3 hI3 hoV hts
                have hO3 := roI_OT hI3 hO
                have hE3 := oV_EV hoV
                have hi2 : KI k2 := hI2.2.2.1
                have hdb : 0 ≤ d2 ∧ d2 ≤ ((20 * c + j : Nat) : Int) := hI2.2.2.2.2.2.2.2.1
                have hgb : -1 ≤ g2 ∧ g2 ≤ 1000000 := hI2.2.2.2.2.2.2.2.2
                have hnb3 := hnb _ (oE_nb hi2 hdb.1 hgb.1)
                have bad : zo1 Lw x (k2, l2, n2, d2, g2) = none → ∀ M7 : zMem, roF M M7 → roQ M (zoL Lw L 0 (k, l, n, 0, -1)) (-3) (z_up M7 45 3 (c : Int)) := fun h1 M7 h7 => by
                  rw [h1] at hT2
                  rw [hR, hZn hT2.symm]
                  refine ⟨⟨fun i hi => by rw [z_up_ne (by omega)]; exact h7.1 i hi, fun j hj => by rw [z_up_ne (by decide)]; exact h7.2.1 j hj, fun j hj => by rw [z_up_ne (by decide)]; exact h7.2.2 j hj⟩, rfl, z_up_eq⟩
                refine x_aload_n 106 rfl dX0_run_105 0 rfl rfl ?_
                refine x_aload_n 107 rfl dX0_run_106 1 rfl rfl ?_
                refine x_iload 109 rfl dX0_run_107 rfl ?_
                refine x_iconst 110 rfl dX0_run_109 (by decide) ?_
                refine x_cVi 113 rfl lX0_50 dX0_run_110 (lyl45 hL) (lys45 hL) (c_X0_valueOf hL hO3 hx hI3.1.2.2 hE3 (.inl rfl)) rfl rfl (Nat.le_of_ble_eq_true rfl) (fun r1 M4 hr4 => ?_)
                obtain ⟨hr4, s4, hM4⟩ := hr4
                rw [hM4]
                rw [if_pos rfl] at hr4
                refine y_istore 115 rfl dX0_run_113 rfl (ls' := [_, _, _, _, _, _, _, _, _, _, _, _]) rfl (by decide) ?_
                refine x_aload_n 116 rfl dX0_run_115 0 rfl rfl ?_
                refine x_aload_n 117 rfl dX0_run_116 1 rfl rfl ?_
                refine x_iload 119 rfl dX0_run_117 rfl ?_
                refine x_iconst 120 rfl dX0_run_119 (by decide) ?_
                refine x_cVi 123 rfl lX0_50 dX0_run_120 (lyl45 hL) (lys45 hL) (c_X0_valueOf hL (roI_OT (roI_47 hI3) hO) hx (roF_47 hI3.1).2.2 (by rw [z_mup_ne (by decide)]; exact hE3) (.inr rfl)) rfl rfl (Nat.le_of_ble_eq_true rfl) (fun r5 M5 hr5 => ?_)
                obtain ⟨hr5, s5, hM5⟩ := hr5
                rw [hM5, z_mup2]
                rw [if_neg (by decide)] at hr5
                have hI5 : roI M k (20 * c + j) (k2, l2, n2, d2, g2) (z_mup M3 47 s5) := roI_47 hI3
                refine y_istore 125 rfl dX0_run_123 rfl (ls' := [_, _, _, _, _, _, _, _, _, _, _, _]) rfl (by decide) ?_
                refine x_iload 127 rfl dX0_run_125 rfl ?_
                refine x_ldc (x := -2000000000) 129 rfl kX0_54 (by decide) dX0_run_127 ?_
                refine x_icmp_eq 132 139 rfl dX0_run_129 (by decide) (fun c129 => ?_) (fun c129 => ?_)
                · have hz := zo1_bk (Lw := Lw) (l := l2) (n := n2) hts (.inl (o_none hr4 c129 hnb3.1))
                  refine x_bipush 141 rfl dX0_run_139 (by decide) ?_
                  refine x_goto 159 dX0_run_141 (by decide) ?_
                  refine y_istore 161 rfl dX0_run_159 rfl (ls' := [_, _, _, _, _, _, _, _, _, _, _, _]) rfl (by decide) ?_
                  refine x_iload 163 rfl dX0_run_161 rfl ?_
                  refine x_if_ge 166 175 rfl dX0_run_163 (by decide) (fun c163 => ?_) (fun c163 => ?_)
                  · exfalso; omega
                  · refine x_aload_n 167 rfl dX0_run_166 0 rfl rfl ?_
                    refine x_iload 169 rfl dX0_run_167 rfl ?_
                    refine x_puti 172 rfl fX0_22 dX0_run_169 (lyl45 hL) (lys45 hL) (by decide) ?_
                    refine x_bipush 174 rfl dX0_run_172 (by decide) ?_
                    refine x_reti dX0_run_174 rfl ?_
                    exact bad hz _ hI5.1
                · refine x_iload 134 rfl dX0_run_132 rfl ?_
                  refine x_ldc (x := -2000000000) 136 rfl kX0_54 (by decide) dX0_run_134 ?_
                  refine x_icmp_ne 139 144 rfl dX0_run_136 (by decide) (fun c136 => ?_) (fun c136 => ?_)
                  · refine x_aload_n 145 rfl dX0_run_144 0 rfl rfl ?_
                    refine x_getr 148 rfl fX0_26 dX0_run_145 (lyl45 hL) (lys45 hL) (by decide) (43) rfl ?_
                    refine x_aload_n 149 rfl dX0_run_148 2 rfl rfl ?_
                    refine x_aload_n 150 rfl dX0_run_149 3 rfl rfl ?_
                    refine x_iload 152 rfl dX0_run_150 rfl ?_
                    refine x_iload 154 rfl dX0_run_152 rfl ?_
                    refine x_iload 156 rfl dX0_run_154 rfl ?_
                    refine x_cVi 159 rfl lX0_55 dX0_run_156 (lyl43 hL) (lys43 hL) (c_X4_act hL (ly_sh1 hL) (by decide) hI5.2.1 hi2 (roI_Lw hI5 hLw) hI5.1.2.1 (ly_lg24 hL) (by decide) (by decide) (by decide) (by decide) hI5.2.2.2.2.1 hK) rfl rfl (Nat.le_of_ble_eq_true rfl) (fun r6 M6 hr6 => ?_)
                    obtain ⟨k6, hA, hs6, hl6, hl7, hf6, hv6⟩ := hr6
                    have hb6 := actR_in hi2 hK hA
                    have h79 := actR_79 hi2 hK hA
                    have hz := zo1_act (l := l2) (n := n2) hts (o_some hr4 c129) (o_some hr5 c136) (actR_F hK hA)
                    have hf7 : ∀ i, (i = 0 ∨ i = 2 ∨ i = 4 ∨ i = 6 ∨ i = 7 ∨ (9 ≤ i ∧ i ≤ 23) ∨ (27 ≤ i ∧ i ≤ 40) ∨ i = 43 ∨ i = 46 ∨ 48 ≤ i) → M6 i = z_mup M3 47 s5 i := fun i hi => hf6 i (by omega) (by omega) (by omega) (by omega) (by omega) (by omega) (by omega) (by omega) (by omega) (by omega)
                    have e48 : M6 48 = M3 48 := by rw [hf7 48 (by omega), z_mup_ne (by decide)]
                    have e10 : M6 48 10 = d2 := by rw [e48]; exact hI3.2.2.2.2.2.1
                    have e11 : M6 48 11 = g2 := by rw [e48]; exact hI3.2.2.2.2.2.2.1
                    have hF6 : roF M M6 := ⟨fun i hi => by rw [hf7 i (by omega)]; exact hI5.1.1 i hi, hv6, fun j hj => by rw [e48]; exact hI3.1.2.2 j hj⟩
                    refine y_istore 161 rfl dX0_run_159 rfl (ls' := [_, _, _, _, _, _, _, _, _, _, _, _]) rfl (by decide) ?_
                    refine x_iload 163 rfl dX0_run_161 rfl ?_
                    refine x_if_ge 166 175 rfl dX0_run_163 (by decide) (fun c163 => ?_) (fun c163 => ?_)
                    · rw [if_neg (by omega)] at hz
                      refine x_aload_n 176 rfl dX0_run_175 0 rfl rfl ?_
                      refine x_getr 179 rfl fX0_18 dX0_run_176 (lyl45 hL) (lys45 hL) (by decide) (48) rfl ?_
                      refine x_bipush 181 rfl dX0_run_179 (by decide) ?_
                      refine x_dup2ir 182 rfl dX0_run_181 ?_
                      refine x_ialk 183 rfl dX0_run_182 (lyl48 hL) (lys48 hL) 10 rfl (by decide) ?_
                      rw [e10]
                      refine x_iconst 184 rfl dX0_run_183 (by decide) ?_
                      refine y_iadd 185 rfl dX0_run_184 (by omega) ?_
                      refine x_iastk 186 rfl dX0_run_185 (lyl48 hL) (lys48 hL) 10 rfl (by decide) ?_
                      refine x_iload 188 rfl dX0_run_186 rfl ?_
                      refine x_bipush 190 rfl dX0_run_188 (by decide) ?_
                      refine x_icmp_ne 193 202 rfl dX0_run_190 (by decide) (fun c190 => ?_) (fun c190 => ?_)
                      · refine z_wk (ls' := [some (zn 45), some (zn 36), some (zn 1), some (zn 24), some (zi (c : Int)), some (zi x.1.1), some (zi x.1.2.2.2.2), some (zi (j : Int)), none, none, none, none]) ⟨rfl, rfl, rfl, rfl, rfl, rfl, rfl, rfl, trivial⟩ (nx _ _ _ _ _ _ hz ⟨⟨fun i hi => by rw [z_up_ne (by omega)]; exact hF6.1 i hi, fun j hj => by rw [z_up_ne (by decide)]; exact hF6.2.1 j hj, fun j hj => ?_⟩, SR_frame hs6 (fun i a b => by rw [z_up_ne (by omega)]), hb6.2, by show k6 79 = k 79; rw [h79]; exact hI2.2.2.2.1, LR_frame (hl7 (by omega)) (fun i a b => by rw [z_up_ne (by omega)]), z_up_eq, ?_, ⟨by show 0 ≤ d2 + 1; omega, by show d2 + 1 ≤ _; omega⟩, ?_⟩)
                        · by_cases ej : j = 10
                          · rw [ej, z_up_eq]; omega
                          · rw [z_up_nk ej]; exact hF6.2.2 j hj
                        · rw [z_up_nk (by decide), e11, if_neg c190]
                        · show -1 ≤ (if x.1.1 = 16 then r6 else g2) ∧ (if x.1.1 = 16 then r6 else g2) ≤ 1000000
                          rw [if_neg c190]; exact hgb
                      · refine x_aload_n 194 rfl dX0_run_193 0 rfl rfl ?_
                        refine x_getr 197 rfl fX0_18 dX0_run_194 (lyl45 hL) (lys45 hL) (by decide) (48) rfl ?_
                        refine x_bipush 199 rfl dX0_run_197 (by decide) ?_
                        refine x_iload 201 rfl dX0_run_199 rfl ?_
                        refine x_iastk 202 rfl dX0_run_201 (lyl48 hL) (lys48 hL) 11 rfl (by decide) ?_
                        refine z_wk (ls' := [some (zn 45), some (zn 36), some (zn 1), some (zn 24), some (zi (c : Int)), some (zi x.1.1), some (zi x.1.2.2.2.2), some (zi (j : Int)), none, none, none, none]) ⟨rfl, rfl, rfl, rfl, rfl, rfl, rfl, rfl, trivial⟩ (nx _ _ _ _ _ _ hz ⟨⟨fun i hi => by rw [z_up_ne (by omega), z_up_ne (by omega)]; exact hF6.1 i hi, fun j hj => by rw [z_up_ne (by decide), z_up_ne (by decide)]; exact hF6.2.1 j hj, fun j hj => ?_⟩, SR_frame hs6 (fun i a b => by rw [z_up_ne (by omega), z_up_ne (by omega)]), hb6.2, by show k6 79 = k 79; rw [h79]; exact hI2.2.2.2.1, LR_frame (hl7 (by omega)) (fun i a b => by rw [z_up_ne (by omega), z_up_ne (by omega)]), by rw [z_up_nk (by decide), z_up_eq], ?_, ⟨by show 0 ≤ d2 + 1; omega, by show d2 + 1 ≤ _; omega⟩, ?_⟩)
                        · by_cases ej : j = 11
                          · rw [ej, z_up_eq]; omega
                          · rw [z_up_nk ej]
                            by_cases ej2 : j = 10
                            · rw [ej2, z_up_eq]; omega
                            · rw [z_up_nk ej2]; exact hF6.2.2 j hj
                        · rw [z_up_eq, if_pos c190]
                        · show -1 ≤ (if x.1.1 = 16 then r6 else g2) ∧ (if x.1.1 = 16 then r6 else g2) ≤ 1000000
                          rw [if_pos c190]; omega
                    · refine x_aload_n 167 rfl dX0_run_166 0 rfl rfl ?_
                      refine x_iload 169 rfl dX0_run_167 rfl ?_
                      refine x_puti 172 rfl fX0_22 dX0_run_169 (lyl45 hL) (lys45 hL) (by decide) ?_
                      refine x_bipush 174 rfl dX0_run_172 (by decide) ?_
                      refine x_reti dX0_run_174 rfl ?_
                      rw [if_pos (by omega)] at hz
                      exact bad hz _ hF6
                  · have hz := zo1_bk (Lw := Lw) (l := l2) (n := n2) hts (.inr (o_none hr5 c136 hnb3.2))
                    refine x_bipush 141 rfl dX0_run_139 (by decide) ?_
                    refine x_goto 159 dX0_run_141 (by decide) ?_
                    refine y_istore 161 rfl dX0_run_159 rfl (ls' := [_, _, _, _, _, _, _, _, _, _, _, _]) rfl (by decide) ?_
                    refine x_iload 163 rfl dX0_run_161 rfl ?_
                    refine x_if_ge 166 175 rfl dX0_run_163 (by decide) (fun c163 => ?_) (fun c163 => ?_)
                    · exfalso; omega
                    · refine x_aload_n 167 rfl dX0_run_166 0 rfl rfl ?_
                      refine x_iload 169 rfl dX0_run_167 rfl ?_
                      refine x_puti 172 rfl fX0_22 dX0_run_169 (lyl45 hL) (lys45 hL) (by decide) ?_
                      refine x_bipush 174 rfl dX0_run_172 (by decide) ?_
                      refine x_reti dX0_run_174 rfl ?_
                      exact bad hz _ hI5.1
              have hi2 : KI k2 := hI2.2.2.1
              have hdb : 0 ≤ d2 ∧ d2 ≤ ((20 * c + j : Nat) : Int) := hI2.2.2.2.2.2.2.2.1
              have hgb : -1 ≤ g2 ∧ g2 ≤ 1000000 := hI2.2.2.2.2.2.2.2.2
              refine x_iload 56 rfl dX0_run_54 rfl ?_
              refine x_iload 58 rfl dX0_run_56 rfl ?_
              refine x_icmp_ge 61 208 rfl dX0_run_58 (by decide) (fun c58 => ?_) (fun c58 => ?_)
              · exfalso; omega
              · refine x_aload_n 62 rfl dX0_run_61 0 rfl rfl ?_
                refine x_aload_n 63 rfl dX0_run_62 2 rfl rfl ?_
                refine x_cVu 66 rfl lX0_39 dX0_run_63 (lyl45 hL) (lys45 hL) (c_X0_look hL hI2.2.1 hi2 hI2.2.2.2.2.2.1 hI2.2.2.2.2.2.2.1) rfl rfl (Nat.le_of_ble_eq_true rfl) (fun M3 hr3 => ?_)
                obtain ⟨hoV, hF3, hG3⟩ := hr3
                have hdc : 0 ≤ d2 ∧ d2 ≤ 1000000 := by omega
                have hI3 : roI M k (20 * c + j) (k2, l2, n2, d2, g2) M3 := ⟨⟨fun i hi => by rw [hF3 i (by omega)]; exact hI2.1.1 i hi, fun j hj => by rw [hF3 42 (by decide)]; exact hI2.1.2.1 j hj, oV_v48 hi2 hI2.1.2.2 hoV hdc hgb hG3⟩, SR_frame hI2.2.1 (fun i a b => hF3 i (by omega)), hi2, hI2.2.2.2.1, LR_frame hI2.2.2.2.2.1 (fun i a b => hF3 i (by omega)), hoV.1, hoV.2.1, hdb, hgb⟩
                have e37 : M3 37 = M 37 := hI3.1.1 37 (by omega)
                have e38 : M3 38 = M 38 := hI3.1.1 38 (by omega)
                have hE3 := oV_EV hoV
                refine x_aload_n 67 rfl dX0_run_66 1 rfl rfl ?_
                refine x_iload 69 rfl dX0_run_67 rfl ?_
                refine x_iconst 70 rfl dX0_run_69 (by decide) ?_
                refine x_cVi 73 rfl lX0_35 dX0_run_70 (lyl36 hL) (lys36 hL) (c_X9_get (t := 36) (ly_tx36 hL) ⟨by decide, by decide⟩ (by omega) (by decide)) rfl rfl (Nat.le_of_ble_eq_true rfl) (fun r9 M9 hr9 => ?_)
                obtain ⟨rfl, hM9⟩ := hr9
                rw [hM9, if_pos (by omega), show ((c : Int) * 5 + 3).toNat = 5 * c + 3 by omega, show M3 (36 + 1) (5 * c + 3) = x.1.2.2.2.1 from by show M3 37 _ = _; rw [e37]; exact hx3]
                refine y_istore 75 rfl dX0_run_73 rfl (ls' := [_, _, _, _, _, _, _, _, _, _, _, _]) rfl (by decide) ?_
                refine x_iload 77 rfl dX0_run_75 rfl ?_
                refine x_iconst 78 rfl dX0_run_77 (by decide) ?_
                refine x_icmp_eq 81 105 rfl dX0_run_78 (by decide) (fun c78 => ?_) (fun c78 => ?_)
                · refine z_wk (ls' := [some (zn 45), some (zn 36), some (zn 1), some (zn 24), some (zi (c : Int)), some (zi x.1.1), some (zi x.1.2.2.2.2), some (zi (j : Int)), none, none, none, none]) ⟨rfl, rfl, rfl, rfl, rfl, rfl, rfl, rfl, trivial⟩ (go M3 hI3 hoV ?_)
                  rcases hc3 with h9 | h9
                  · rw [h9.2]; rfl
                  · exfalso; have := h9.1; omega
                · have hseg : segM true (nrm (M 38)) 400 x.1.2.2.2.1 x.2.2.2 := by rcases hc3 with h9 | h9; exact absurd h9.1 (by omega); exact h9
                  refine x_aload_n 82 rfl dX0_run_81 0 rfl rfl ?_
                  refine x_getr 85 rfl fX0_12 dX0_run_82 (lyl45 hL) (lys45 hL) (by decide) (46) rfl ?_
                  refine x_aload_n 86 rfl dX0_run_85 1 rfl rfl ?_
                  refine x_getr 89 rfl fX0_43 dX0_run_86 (lyl36 hL) (lys36 hL) (by decide) (38) rfl ?_
                  refine x_iload 91 rfl dX0_run_89 rfl ?_
                  refine x_aload_n 92 rfl dX0_run_91 0 rfl rfl ?_
                  refine x_getr 95 rfl fX0_18 dX0_run_92 (lyl45 hL) (lys45 hL) (by decide) (48) rfl ?_
                  refine x_cVi 98 rfl lX0_46 dX0_run_95 (lyl46 hL) (lys46 hL) (c_X3_value2 (a := 46) (c := 38) (v := 48) (ly_mc46 hL) (lyl38 hL) (lys38 hL) (lyl48 hL) (lys48 hL) ⟨by decide, by decide⟩ (by decide) (by omega) hI3.1.2.2) rfl rfl (Nat.le_of_ble_eq_true rfl) (fun r4 M4 hr4 => ?_)
                  obtain ⟨hr4, s4, hM4⟩ := hr4
                  rw [hM4]
                  rw [e38, hseg.2.2 _ _ _ hE3] at hr4
                  refine x_iconst 99 rfl dX0_run_98 (by decide) ?_
                  refine x_icmp_eq 102 105 rfl dX0_run_99 (by decide) (fun c99 => ?_) (fun c99 => ?_)
                  · refine z_wk (ls' := [some (zn 45), some (zn 36), some (zn 1), some (zn 24), some (zi (c : Int)), some (zi x.1.1), some (zi x.1.2.2.2.2), some (zi (j : Int)), none, none, none, none]) ⟨rfl, rfl, rfl, rfl, rfl, rfl, rfl, rfl, trivial⟩ (go _ (roI_47 hI3) (by rw [z_mup_ne (by decide)]; exact hoV) ?_)
                    rw [o_some hr4 (by rw [c99]; decide), c99]
                  · refine x_goto 202 dX0_run_102 (by decide) ?_
                    refine z_wk (ls' := [some (zn 45), some (zn 36), some (zn 1), some (zn 24), some (zi (c : Int)), some (zi x.1.1), some (zi x.1.2.2.2.2), some (zi (j : Int)), none, none, none, none]) ⟨rfl, rfl, rfl, rfl, rfl, rfl, rfl, rfl, trivial⟩ (nx k2 l2 n2 d2 g2 _ (zo1_skip (fun h => c99 (by rw [hr4, h]; rfl))) (roI_mono (roI_47 hI3) (by omega)))
            · skip
              refine x_iload 56 rfl dX0_run_54 rfl ?_
              refine x_iload 58 rfl dX0_run_56 rfl ?_
              refine x_icmp_ge 61 208 rfl dX0_run_58 (by decide) (fun c58 => ?_) (fun c58 => ?_)
              · rw [show x.1.2.2.2.2.toNat - j = 0 by omega] at hT2
                have hZ2 := hZs (k2, l2, n2, d2, g2) hT2.symm
                refine w_iinc 211 rfl dX0_run_208 rfl (by decide) (by omega) rfl (ls' := [_, _, _, _, _, _, _, _, _, _, _, _]) rfl (by decide) ?_
                refine x_goto 24 dX0_run_211 (by decide) ?_
                refine z_wk (ls' := [some (zn 45), some (zn 36), some (zn 1), some (zn 24), some (zi ((c + 1 : Nat) : Int)), none, none, none, none, none, none, none]) ⟨rfl, rfl, rfl, rfl, z_e (by omega), trivial⟩ (ih (c + 1) k2 l2 n2 d2 g2 M2 (by omega) (by omega) hZ2 (roI_mono hI2 (by omega)))
              · exfalso; omega
        refine x_iload 26 rfl dX0_run_24 rfl ?_
        refine x_aload_n 27 rfl dX0_run_26 1 rfl rfl ?_
        refine x_geti 30 rfl fX0_30 dX0_run_27 (lyl36 hL) (lys36 hL) (by decide) ?_
        rw [e36]
        refine x_icmp_ge 33 214 rfl dX0_run_30 (by decide) (fun c30 => ?_) (fun c30 => ?_)
        · exfalso; omega
        · refine x_aload_n 34 rfl dX0_run_33 1 rfl rfl ?_
          refine x_iload 36 rfl dX0_run_34 rfl ?_
          refine x_iconst 37 rfl dX0_run_36 (by decide) ?_
          refine x_cVi 40 rfl lX0_35 dX0_run_37 (lyl36 hL) (lys36 hL) (c_X9_get (t := 36) (ly_tx36 hL) ⟨by decide, by decide⟩ (by omega) (by decide)) rfl rfl (Nat.le_of_ble_eq_true rfl) (fun r9 M9 hr9 => ?_)
          obtain ⟨rfl, hM9⟩ := hr9
          rw [hM9, if_pos (by omega), show ((c : Int) * 5 + 0).toNat = 5 * c by omega, show M1 (36 + 1) (5 * c) = x.1.1 from by show M1 37 _ = _; rw [hI.1.1 37 (by omega)]; exact hx0]
          refine y_istore 42 rfl dX0_run_40 rfl (ls' := [_, _, _, _, _, _, _, _, _, _, _, _]) rfl (by decide) ?_
          refine x_aload_n 43 rfl dX0_run_42 1 rfl rfl ?_
          refine x_iload 45 rfl dX0_run_43 rfl ?_
          refine x_iconst 46 rfl dX0_run_45 (by decide) ?_
          refine x_cVi 49 rfl lX0_35 dX0_run_46 (lyl36 hL) (lys36 hL) (c_X9_get (t := 36) (ly_tx36 hL) ⟨by decide, by decide⟩ (by omega) (by decide)) rfl rfl (Nat.le_of_ble_eq_true rfl) (fun r9 M9 hr9 => ?_)
          obtain ⟨rfl, hM9⟩ := hr9
          rw [hM9, if_pos (by omega), show ((c : Int) * 5 + 4).toNat = 5 * c + 4 by omega, show M1 (36 + 1) (5 * c + 4) = x.1.2.2.2.2 from by show M1 37 _ = _; rw [hI.1.1 37 (by omega)]; exact hx4]
          refine y_istore 51 rfl dX0_run_49 rfl (ls' := [_, _, _, _, _, _, _, _, _, _, _, _]) rfl (by decide) ?_
          refine x_iconst 52 rfl dX0_run_51 (by decide) ?_
          refine y_istore 54 rfl dX0_run_52 rfl (ls' := [_, _, _, _, _, _, _, _, _, _, _, _]) rfl (by decide) ?_
          refine z_wk (ls' := [some (zn 45), some (zn 36), some (zn 1), some (zn 24), some (zi (c : Int)), some (zi x.1.1), some (zi x.1.2.2.2.2), some (zi ((0 : Nat) : Int)), none, none, none, none]) ⟨rfl, rfl, rfl, rfl, rfl, rfl, rfl, rfl, trivial⟩ (inn (x.1.2.2.2.2.toNat + 1) 0 k1 l1 n1 d1 g1 M1 (by omega) (by omega) hT hI)
      · skip
        refine x_iload 26 rfl dX0_run_24 rfl ?_
        refine x_aload_n 27 rfl dX0_run_26 1 rfl rfl ?_
        refine x_geti 30 rfl fX0_30 dX0_run_27 (lyl36 hL) (lys36 hL) (by decide) ?_
        rw [e36]
        refine x_icmp_ge 33 214 rfl dX0_run_30 (by decide) (fun c30 => ?_) (fun c30 => ?_)
        · refine x_aload_n 215 rfl dX0_run_214 0 rfl rfl ?_
          refine x_getr 218 rfl fX0_18 dX0_run_215 (lyl45 hL) (lys45 hL) (by decide) (48) rfl ?_
          refine x_bipush 220 rfl dX0_run_218 (by decide) ?_
          refine x_ialk 221 rfl dX0_run_220 (lyl48 hL) (lys48 hL) 10 rfl (by decide) ?_
          refine x_reti dX0_run_221 rfl ?_
          have e9 : c = L.length := by omega
          rw [e9, List.drop_length] at hZ
          rw [hR, ← hZ]
          obtain ⟨h1, h2, h3, h4, h5, h6, h7, h8, h9⟩ := hI
          have h6 : M1 48 10 = d1 := h6
          have h8 : 0 ≤ d1 ∧ d1 ≤ ((20 * c : Nat) : Int) := h8
          exact ⟨h1, h6, by omega, by omega, h2, h3, h5⟩
        · exfalso; omega
  refine zX_of pl_RX0 [some (zn 45), some (zn 36), some (zn 1), some (zn 24), none, none, none, none, none, none, none, none] 8 rfl rfl ?_
  refine x_aload_n 1 rfl dX0_run_0 0 rfl rfl ?_
  refine x_getr 4 rfl fX0_18 dX0_run_1 (lyl45 hL) (lys45 hL) (by decide) (48) rfl ?_
  refine x_bipush 6 rfl dX0_run_4 (by decide) ?_
  refine x_iconst 7 rfl dX0_run_6 (by decide) ?_
  refine x_iastk 8 rfl dX0_run_7 (lyl48 hL) (lys48 hL) 10 rfl (by decide) ?_
  refine x_aload_n 9 rfl dX0_run_8 0 rfl rfl ?_
  refine x_getr 12 rfl fX0_18 dX0_run_9 (lyl45 hL) (lys45 hL) (by decide) (48) rfl ?_
  refine x_bipush 14 rfl dX0_run_12 (by decide) ?_
  refine x_iconst 15 rfl dX0_run_14 (by decide) ?_
  refine x_iastk 16 rfl dX0_run_15 (lyl48 hL) (lys48 hL) 11 rfl (by decide) ?_
  refine x_aload_n 17 rfl dX0_run_16 0 rfl rfl ?_
  refine x_iconst 18 rfl dX0_run_17 (by decide) ?_
  refine x_puti 21 rfl fX0_22 dX0_run_18 (lyl45 hL) (lys45 hL) (by decide) ?_
  refine x_iconst 22 rfl dX0_run_21 (by decide) ?_
  refine y_istore 24 rfl dX0_run_22 rfl (ls' := [_, _, _, _, _, _, _, _, _, _, _, _]) rfl (by decide) ?_
  refine lp (L.length + 1) 0 k l n 0 (-1) _ (by omega) (by omega) hR ⟨⟨fun i hi => by rw [z_up_ne (by omega), z_up_ne (by omega), z_up_ne (by omega)], fun j hj => by rw [z_up_ne (by decide), z_up_ne (by decide), z_up_ne (by decide)]; exact hv j hj, fun j hj => ?_⟩, SR_frame hs (fun i a b => by rw [z_up_ne (by omega), z_up_ne (by omega), z_up_ne (by omega)]), hi, rfl, LR_frame hl (fun i a b => by rw [z_up_ne (by omega), z_up_ne (by omega), z_up_ne (by omega)]), by rw [z_up_ne (by decide), z_up_nk (by decide), z_up_eq], by rw [z_up_ne (by decide), z_up_eq], by show (0 : Int) ≤ 0 ∧ (0 : Int) ≤ _; omega, by show (-1 : Int) ≤ -1 ∧ (-1 : Int) ≤ 1000000; omega⟩
  rw [z_up_ne (by decide)]
  by_cases e1 : j = 11
  · rw [e1, z_up_eq]; omega
  · rw [z_up_nk e1]
    by_cases e2 : j = 10
    · rw [e2, z_up_eq]; omega
    · rw [z_up_nk e2]; exact hv8 j hj
