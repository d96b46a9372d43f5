/-! law, on the class's side: as it is called -/
theorem hdw_lo {hd : Nat → Int} {m j : Nat} {x : Int × Int × Int × Int × Int} (h : j < 5 * m) : hdw hd m x j = hd j := by
  unfold hdw
  rw [if_neg (by omega), if_neg (by omega), if_neg (by omega), if_neg (by omega), if_neg (by omega)]
theorem hdw_at {hd : Nat → Int} {m : Nat} {x : Int × Int × Int × Int × Int} : hdw hd m x (5 * m) = x.1 ∧ hdw hd m x (5 * m + 1) = x.2.1 ∧ hdw hd m x (5 * m + 2) = x.2.2.1 ∧ hdw hd m x (5 * m + 3) = x.2.2.2.1 ∧ hdw hd m x (5 * m + 4) = x.2.2.2.2 := by
  unfold hdw
  refine ⟨?_, ?_, ?_, ?_, ?_⟩
  · rw [if_pos rfl]
  · rw [if_neg (by omega), if_pos rfl]
  · rw [if_neg (by omega), if_neg (by omega), if_pos rfl]
  · rw [if_neg (by omega), if_neg (by omega), if_neg (by omega), if_pos rfl]
  · rw [if_neg (by omega), if_neg (by omega), if_neg (by omega), if_neg (by omega), if_pos rfl]
theorem hdLs_lo : ∀ (L : List gC) (hd : Nat → Int) (m j : Nat), j < 5 * m → hdLs hd m L j = hd j
  | [], hd, m, j, h => rfl
  | y :: t, hd, m, j, h => by
    show hdLs (hdw hd m y.1) (m + 1) t j = hd j
    rw [hdLs_lo t _ _ _ (by omega), hdw_lo h]
theorem hdLs_at : ∀ (L : List gC) (hd : Nat → Int) (m i : Nat) (x : gC), L[i]? = some x → hdLs hd m L (5 * (m + i)) = x.1.1 ∧ hdLs hd m L (5 * (m + i) + 1) = x.1.2.1 ∧ hdLs hd m L (5 * (m + i) + 2) = x.1.2.2.1 ∧ hdLs hd m L (5 * (m + i) + 3) = x.1.2.2.2.1 ∧ hdLs hd m L (5 * (m + i) + 4) = x.1.2.2.2.2
  | [], hd, m, i, x, h => by simp at h
  | y :: t, hd, m, 0, x, h => by
    have h : y = x := by simpa using h
    subst h
    have e : ∀ j, j < 5 * (m + 1) → hdLs hd m (y :: t) j = hdw hd m y.1 j := fun j hj => hdLs_lo t (hdw hd m y.1) (m + 1) j hj
    rw [Nat.add_zero, e _ (by omega), e _ (by omega), e _ (by omega), e _ (by omega), e _ (by omega)]
    exact hdw_at
  | y :: t, hd, m, i + 1, x, h => by
    have h1 := hdLs_at t (hdw hd m y.1) (m + 1) i x (by simpa using h)
    rw [show m + 1 + i = m + (i + 1) by omega] at h1
    exact h1
/-- a packed law holds the clauses that were read -/
theorem TXM_law {c v : Nat → Int} {n : Nat} {cd0 hd0 : Nat → Int} {s' : gS} {L : List gC} {M : zMem} {T : Nat} (hT : TK c v n) (hq : g_text false c v n 12 (gz cd0) [] = .inr (s', L)) (h0 : M T 0 = (L.length : Int)) (hh : ∀ j, j < 5 * L.length → M (T + 1) j = hdLs hd0 0 L j) (hc : ∀ j, j < s'.2.2.1 → M (T + 2) j = s'.2.2.2 j) : L.length ≤ 12 ∧ s'.2.2.1 ≤ 400 ∧ TXM M T (5 * L.length) s'.2.2.1 false L := by
  have hA : gA n (gz cd0) := gz_A
  obtain ⟨hW, h1, h2, h3, h4⟩ := (g_text_ok (o := false) hT 12 (gz cd0) [] hA rfl (fun x hx => by simp at hx)).2 s' L hq
  have hnb := g_ltext_nb hT 12 (gz cd0) s' [] L hA (fun x hx => by simp at hx) hq
  obtain ⟨w1, w2, w3, w4, w5, w6, w7, w8⟩ := hW
  have w6 : s'.2.2.1 + 0 ≤ 0 + s'.1 := w6
  have hn4 := hT.1
  refine ⟨h2, by omega, h0, rfl, by omega, h2, fun j hj => ?_, fun i x hx => ?_, fun x hx => ⟨(h4 x hx).1, (h4 x hx).2 _ _ hc (Nat.le_refl _), hnb x hx⟩⟩
  · rw [hc j hj]
    exact w8 j (Nat.zero_le _) hj
  · have hi : i < L.length := (List.getElem?_eq_some_iff.mp hx).1
    have h5 := hdLs_at L hd0 0 i x hx
    rw [Nat.zero_add] at h5
    rw [hh _ (by omega), hh _ (by omega), hh _ (by omega), hh _ (by omega), hh _ (by omega)]
    exact h5
theorem LY_tx {S : zSh} {sz nh nc : Nat} {v : Nat × Nat × (Nat → Int)} (h : LY S sz) : LY (txS (z_sup S sz v) sz nh nc) (sz + 3) := by
  have h1 := h.1
  refine ⟨by omega, fun i hi => ?_⟩
  exact txS_at (by omega) (z_sup_at (by omega) (h.2 i hi))
/-- the memory behind the class's cutting -/
def cN (M : zMem) (w : Int) (n : Int) (kf nf pf : Nat → Int) : zMem := z_up (ck (z_up M 30 1 0) n kf nf pf) 32 8 w
theorem cN_ne {M : zMem} {w n : Int} {kf nf pf : Nat → Int} {i : Nat} (h : i ≠ 30) (h1 : ¬ (32 ≤ i ∧ i ≤ 35)) : cN M w n kf nf pf i = M i := by
  unfold cN ck
  rw [z_up_ne (by omega), z_up_ne (by omega), z_mup_ne (by omega), z_mup_ne (by omega), z_mup_ne (by omega), z_up_ne h]
theorem cN_34 {M : zMem} {w n : Int} {kf nf pf : Nat → Int} : cN M w n kf nf pf 34 = pf := by
  unfold cN ck
  rw [z_up_ne (by decide), z_up_ne (by decide), z_mup_eq]
theorem cN_30 {M : zMem} {w n : Int} {kf nf pf : Nat → Int} : cN M w n kf nf pf 30 = ku (M 30) 1 0 := by
  unfold cN ck
  rw [z_up_ne (by decide), z_up_ne (by decide), z_mup_ne (by decide), z_mup_ne (by decide), z_mup_ne (by decide), z_upm, z_mup_eq]
/-- what the class's reading leaves, by its outcome -/
def crQ (M : zMem) (w n : Int) (kf nf pf : Nat → Int) (R : Nat ⊕ (gS × List gC)) (r : Int) (M' : zMem) : Prop := (∀ i, i ≠ 30 → ¬ (32 ≤ i ∧ i ≤ 38) → M' i = M i) ∧ M' 30 = ku (M 30) 1 0 ∧ ((∃ t, R = .inl t ∧ r = pf t) ∨ (∃ q, R = .inr q ∧ r = -1 ∧ M' 36 0 = (q.2.length : Int) ∧ M' 36 1 = (q.1.2.2.1 : Int) ∧ M' 37 = hdLs (M 37) 0 q.2 ∧ M' 38 = q.1.2.2.2))
theorem crQ_of {M M' : zMem} {w n r : Int} {kf nf pf : Nat → Int} {R : Nat ⊕ (gS × List gC)} (h : croT (cN M w n kf nf pf) (M 37) R r M') : crQ M w n kf nf pf R r M' := by
  rcases R with t | q
  · obtain ⟨h1, m', hd', x, y, u, cd, hm, hu, h2⟩ := h
    refine ⟨fun i a b => ?_, ?_, Or.inl ⟨t, rfl, ?_⟩⟩
    · rw [h2, cr_ne (by omega) (by omega) (by omega), ct_ne (by omega) (by omega), cN_ne a (by omega)]
    · rw [h2, cr_ne (by decide) (by decide) (by decide), ct_ne (by decide) (by decide), cN_30]
    · rw [h1, cN_34]
  · obtain ⟨h1, h2⟩ := h
    refine ⟨fun i a b => ?_, ?_, Or.inr ⟨q, rfl, h1, ?_, ?_, ?_, ?_⟩⟩
    · rw [h2, cr_ne (by omega) (by omega) (by omega), ct_ne (by omega) (by omega), cN_ne a (by omega)]
    · rw [h2, cr_ne (by decide) (by decide) (by decide), ct_ne (by decide) (by decide), cN_30]
    · rw [h2, cr_uo (by decide), ct_0]
    · rw [h2, cr_u]
    · rw [h2, cr_ne (by decide) (by decide) (by decide), ct_37]
    · rw [h2, cr_c]

theorem law_bd {ob : Bool} {c v : Nat → Int} {n : Nat} {cd0 : Nat → Int} {s9 : gS} {L : List gC} (hT : TK c v n) (hq : g_text ob c v n 12 (gz cd0) [] = .inr (s9, L)) : L.length ≤ 12 ∧ s9.2.2.1 ≤ 400 := by
  obtain ⟨⟨w1, w2, w3, w4, w5, w6, w7, w8⟩, h1, h2, h3, h4⟩ := (g_text_ok (o := ob) hT 12 (gz cd0) [] gz_A rfl (fun x hx => by simp at hx)).2 s9 L hq
  have w6 : s9.2.2.1 + 0 ≤ 0 + s9.1 := w6
  have hn4 := hT.1
  exact ⟨h2, by omega⟩

set_option maxRecDepth 100000 in
set_option maxHeartbeats 4000000 in
theorem c_X10_law {d sz : Nat} {S : zSh} {M : zMem} (hL : LY S sz) (hr : ∀ i, i < 7 → 0 ≤ M 54 i ∧ M 54 i ≤ 1000000) {k : Nat → Int} (hs : SR M 1 k) (hi : KI k) {size : Nat} (h30 : M 30 1 = (size : Int)) (hs4 : size ≤ 400) (hB : ∀ i, 0 ≤ M 31 i ∧ M 31 i ≤ 255) {T : tS} (hT : tkG (cC (M 31)) (cV (M 31)) (M 31) size 401 0 (0, M 33, M 35, M 34) = T) {c v : Nat → Int} {n : Nat} (hTK : TK c v n) (hCK : CKr (cN M 1 ((T.1 + 1 : Nat) : Int) (ku T.2.1 T.1 32) (ku T.2.2.1 T.1 0) (ku T.2.2.2 T.1 (size : Int))) c v n) (hE : cN M 1 ((T.1 + 1 : Nat) : Int) (ku T.2.1 T.1 32) (ku T.2.2.1 T.1 0) (ku T.2.2.2 T.1 (size : Int)) 33 n = 32) {R : Nat ⊕ (gS × List gC)} (hq : g_text false c v n 12 (gz (M 38)) [] = R) (hpl : ∀ t, t ≤ n → 0 ≤ ku T.2.2.2 T.1 (size : Int) t) : zX (d + 36) 3 464 mX10_law [zn 0] sz S M (fun v sz' S' M' => (k 78 = 6 ∧ v = some (zi (-5)) ∧ sz' = sz ∧ S' = S ∧ M' = cRef (z_up M 30 1 0) (-5)) ∨ (k 78 < 6 ∧ (∃ t, R = .inl t ∧ v = some (zi (-6)) ∧ sz' = sz ∧ S' = S ∧ ∃ N : zMem, (∀ i, i ≠ 30 → ¬ (32 ≤ i ∧ i ≤ 38) → N i = M i) ∧ N 30 = ku (M 30) 1 0 ∧ M' = cRef (z_up N 0 12 (ku T.2.2.2 T.1 (size : Int) t)) (-6))) ∨ (k 78 < 6 ∧ ∃ (s9 : gS) (L : List gC), R = .inr (s9, L) ∧ v = some (zi (k 78)) ∧ sz' = sz + 3 ∧ S' = txS (z_sup S sz (9, 4, fun _ => -1)) sz (5 * L.length) s9.2.2.1 ∧ (∀ i, i < sz → i ≠ 0 → i ≠ 1 → i ≠ 11 → i ≠ 30 → ¬ (32 ≤ i ∧ i ≤ 38) → M' i = M i) ∧ M' 30 = ku (M 30) 1 0 ∧ M' 0 = ku (ku (M 0) 12 (-1)) 15 0 ∧ M' 11 = ku (M 11) (k 78).toNat (sz : Int) ∧ SR M' 1 (ku k 78 (k 78 + 1)) ∧ TXM M' sz (5 * L.length) s9.2.2.1 false L)) := by
  have hsz := hL.1
  have i1 := hi.1
  have e15 := hs.1.2.2.2.2.2.2.1
  refine zX_of pl_RX10 [some (zn 0), none] 1 rfl rfl ?_
  refine x_aload_n 1 rfl dX10_law_0 0 rfl rfl ?_
  refine x_getr 4 rfl fX10_36 dX10_law_1 (lyl0 hL) (lys0 hL) (by decide) (30) rfl ?_
  refine x_cVi 7 rfl lX10_180 dX10_law_4 (lyl30 hL) (lys30 hL) (c_X8_taken hL) rfl rfl (Nat.le_of_ble_eq_true rfl) (fun r1 M1 hr1 => ?_)
  obtain ⟨hr1a, hM1⟩ := hr1
  rw [h30] at hr1a
  subst hr1a
  rw [hM1]
  refine y_istore_n 8 rfl dX10_law_7 rfl rfl (ls' := [_, _]) rfl (by decide) ?_
  refine x_aload_n 9 rfl dX10_law_8 0 rfl rfl ?_
  refine x_getr 12 rfl fX10_10 dX10_law_9 (lyl0 hL) (lys0 hL) (by decide) (1) rfl ?_
  refine x_geti 15 rfl fX10_189 dX10_law_12 (lyl1 hL) (lys1 hL) (by decide) ?_
  rw [z_up_ne (by decide), e15]
  refine x_bipush 17 rfl dX10_law_15 (by decide) ?_
  refine x_icmp_lt 20 27 rfl dX10_law_17 (by decide) (fun c17 => ?_) (fun c17 => ?_)
  · refine x_aload_n 28 rfl dX10_law_27 0 rfl rfl ?_
    refine x_aload_n 29 rfl dX10_law_28 0 rfl rfl ?_
    refine x_getr 32 rfl fX10_43 dX10_law_29 (lyl0 hL) (lys0 hL) (by decide) (32) rfl ?_
    refine x_aload_n 33 rfl dX10_law_32 0 rfl rfl ?_
    refine x_getr 36 rfl fX10_36 dX10_law_33 (lyl0 hL) (lys0 hL) (by decide) (30) rfl ?_
    refine x_iload_n 37 rfl dX10_law_36 1 rfl rfl ?_
    refine x_iconst 38 rfl dX10_law_37 (by decide) ?_
    refine x_cVi 41 rfl lX10_192 dX10_law_38 (lyl32 hL) (lys32 hL) (c_X6_read (o := false) (R := R) (M := z_up M 30 1 0) hL hs4 (by rw [z_up_ne (by decide)]; exact hB) rfl (T := T) (by rw [z_up_ne (by decide), z_up_ne (by decide), z_up_ne (by decide), z_up_ne (by decide)]; exact hT) hTK hCK hE (by rw [z_up_ne (by decide)]; exact hq)) rfl rfl (Nat.le_of_ble_eq_true rfl) (fun r2 M2 hr2 => ?_)
    rw [z_up_ne (by decide) (i := 37)] at hr2
    obtain ⟨hF2, h302, hr3⟩ := crQ_of hr2
    clear hr2
    rcases hr3 with ⟨t, hR3, hr3⟩ | ⟨⟨s9, L⟩, hR3, hr3, h360, h361, h37, h38⟩
    · have ht := (g_text_ok (o := false) hTK 12 (gz (M 38)) [] gz_A rfl (fun x hx => by simp at hx)).1 t (by rw [hq, hR3])
      have hp := hpl t ht
      subst hr3
      refine x_puti 44 rfl fX10_79 dX10_law_41 (lyl0 hL) (lys0 hL) (by decide) ?_
      refine x_aload_n 45 rfl dX10_law_44 0 rfl rfl ?_
      refine x_geti 48 rfl fX10_79 dX10_law_45 (lyl0 hL) (lys0 hL) (by decide) ?_
      rw [z_up_eq]
      refine x_iconst 49 rfl dX10_law_48 (by decide) ?_
      refine x_icmp_eq 52 59 rfl dX10_law_49 (by decide) (fun c49 => ?_) (fun c49 => ?_)
      · exfalso; omega
      · refine x_aload_n 53 rfl dX10_law_52 0 rfl rfl ?_
        refine x_bipush 55 rfl dX10_law_53 (by decide) ?_
        refine x_cVi 58 rfl lX10_90 dX10_law_55 (lyl0 hL) (lys0 hL) (c_X10_refuse hL (by rw [z_up_ne (by decide), hF2 54 (by decide) (by decide)]; exact hr) (by decide)) rfl rfl (Nat.le_of_ble_eq_true rfl) (fun r7 M7 hr7 => ?_)
        obtain ⟨hr8, hM7⟩ := hr7
        refine x_iret dX10_law_58 rfl ?_
        exact Or.inr (Or.inl ⟨by omega, t, hR3, by rw [hr8], rfl, rfl, M2, hF2, h302, hM7⟩)
    · subst hr3
      have h360 : M2 36 0 = (L.length : Int) := h360
      have h361 : M2 36 1 = (s9.2.2.1 : Int) := h361
      have h37 : M2 37 = hdLs (M 37) 0 L := h37
      have h38 : M2 38 = s9.2.2.2 := h38
      have hq9 : g_text false c v n 12 (gz (M 38)) [] = .inr (s9, L) := by rw [hq, hR3]
      have hbd := law_bd hTK hq9
      refine x_puti 44 rfl fX10_79 dX10_law_41 (lyl0 hL) (lys0 hL) (by decide) ?_
      refine x_aload_n 45 rfl dX10_law_44 0 rfl rfl ?_
      refine x_geti 48 rfl fX10_79 dX10_law_45 (lyl0 hL) (lys0 hL) (by decide) ?_
      rw [z_up_eq]
      refine x_iconst 49 rfl dX10_law_48 (by decide) ?_
      refine x_icmp_eq 52 59 rfl dX10_law_49 (by decide) (fun c49 => ?_) (fun c49 => ?_)
      · refine x_aload_n 60 rfl dX10_law_59 0 rfl rfl ?_
        refine x_aload_n 61 rfl dX10_law_60 0 rfl rfl ?_
        refine x_getr 64 rfl fX10_10 dX10_law_61 (lyl0 hL) (lys0 hL) (by decide) (1) rfl ?_
        refine x_aload_n 65 rfl dX10_law_64 0 rfl rfl ?_
        refine x_getr 68 rfl fX10_43 dX10_law_65 (lyl0 hL) (lys0 hL) (by decide) (32) rfl ?_
        refine x_getr 71 rfl fX10_196 dX10_law_68 (lyl32 hL) (lys32 hL) (by decide) (36) rfl ?_
        refine x_callV 74 rfl lX10_200 dX10_law_71 (lyl36 hL) (lys36 hL) (c_X9_packed hL (by rw [z_up_ne (by decide)]; exact h360) (by rw [z_up_ne (by decide)]; exact h361) hbd.1 hbd.2) rfl rfl (Nat.le_of_ble_eq_true rfl) ?_
        rintro v1 sz1 S1 M4 ⟨rfl, rfl, rfl, hF4, h40, h41, h4h, h4c⟩
        have hL2 : LY (txS (z_sup S sz (9, 4, fun _ => -1)) sz (5 * L.length) s9.2.2.1) (sz + 3) := LY_tx hL
        have hs5 : SR M4 1 k := SR_frame hs (fun i a b => by rw [hF4 i (by omega), z_up_ne (by omega), hF2 i (by omega) (by omega)])
        refine x_cVi 77 rfl lX10_206 dX10_law_74 (lyl1 hL2) (lys1 hL2) (c_X7_addLaw (ly_sh1 hL2) hs5 hi (by omega) (T := sz) (by omega) txS_0) rfl rfl (Nat.le_of_ble_eq_true rfl) (fun r9 M5 hr9 => ?_)
        obtain ⟨hr10, hM5⟩ := hr9
        rw [hM5]
        refine x_cVi 80 rfl lX10_104 dX10_law_77 (lyl0 hL2) (lys0 hL2) (c_X10_accept hL2) rfl rfl (Nat.le_of_ble_eq_true rfl) (fun r11 M6 hr11 => ?_)
        obtain ⟨hr12, hM6⟩ := hr11
        refine x_iret dX10_law_80 rfl ?_
        refine Or.inr (Or.inr ⟨by omega, s9, L, hR3, by rw [hr12, hr10], rfl, rfl, fun i a b c d e f => ?_, ?_, ?_, ?_, ?_, ?_⟩)
        all_goals rw [hM6]
        · rw [z_up_ne b, z_up_ne c, z_up_ne (by omega), hF4 i a, z_up_ne b, hF2 i e f]
        · rw [z_up_ne (by decide), z_up_ne (by decide), z_up_ne (by decide), hF4 30 (by omega), z_up_ne (by decide), h302]
        · rw [z_upm, z_mup_eq, z_up_ne (by decide), z_up_ne (by decide), hF4 0 (by omega), z_upm, z_mup_eq, hF2 0 (by decide) (by decide)]
        · rw [z_up_ne (by decide), z_up_ne (by decide), z_upm, z_mup_eq, hF4 11 (by omega), z_up_ne (by decide), hF2 11 (by decide) (by decide)]
        · exact SR_out (SR_laws (SR_out hs5 (by decide)) _) (by decide)
        · refine TXM_frame (TXM_law (M := M4) hTK hq9 (hd0 := M 37) h40 (fun j hj => ?_) (fun j hj => ?_)).2.2 ?_ ?_ ?_
          · rw [h4h j hj, z_up_ne (by decide), h37]
          · rw [h4c j hj, z_up_ne (by decide), h38]
          · rw [z_up_ne (by omega), z_up_ne (by omega), z_up_ne (by omega)]
          · rw [z_up_ne (by omega), z_up_ne (by omega), z_up_ne (by omega)]
          · rw [z_up_ne (by omega), z_up_ne (by omega), z_up_ne (by omega)]
      · exfalso; omega
  · refine x_aload_n 21 rfl dX10_law_20 0 rfl rfl ?_
    refine x_bipush 23 rfl dX10_law_21 (by decide) ?_
    refine x_cVi 26 rfl lX10_90 dX10_law_23 (lyl0 hL) (lys0 hL) (c_X10_refuse hL (by rw [z_up_ne (by decide)]; exact hr) (by decide)) rfl rfl (Nat.le_of_ble_eq_true rfl) (fun r5 M5 hr5 => ?_)
    obtain ⟨hr6, hM5⟩ := hr5
    refine x_iret dX10_law_26 rfl ?_
    exact Or.inl ⟨by omega, by rw [hr6], rfl, rfl, hM5⟩
