/-! class: orders -/
def orQ (Lw : List gC) (k : Nat → Int) (l : Nat → Nat → Int) (n : Nat) (L : List gC) (M2 : zMem) (r : Int) (M' : zMem) : Prop := ∃ M3 : zMem, (∀ i, (i = 23 ∨ (30 ≤ i ∧ i ≤ 40) ∨ i = 43 ∨ i = 46 ∨ 49 ≤ i) → M3 i = M2 i) ∧ v42 M3 ∧ v48 M3 ∧ (∀ t, t < 6 → M3 11 t = M2 11 t) ∧ match zoL Lw L 0 (k, l, n, 0, -1) with
  | .inl j => r = -3 ∧ SR M3 1 k ∧ LR M3 24 l n ∧ M3 0 = ku (ku (M2 0) 12 (-1)) 14 (j : Int) ∧ M' = cRef M3 (-3)
  | .inr s => r = s.2.2.2.1 ∧ 0 ≤ r ∧ SR M3 1 s.1 ∧ KI s.1 ∧ LR M3 24 s.2.1 s.2.2.1 ∧ M3 0 = ku (M2 0) 12 (-1) ∧ M' = z_up M3 0 15 0

set_option maxRecDepth 100000 in
set_option maxHeartbeats 4000000 in
theorem c_X10_orders {d sz : Nat} {S : zSh} {M : zMem} (hL : LY S sz) (hr : ∀ i, i < 7 → 0 ≤ M 54 i ∧ M 54 i ≤ 1000000) {k : Nat → Int} (hs : SR M 1 k) (hi : KI k) {Lw : List gC} (hLw : LwC S sz M 1 k Lw) (hlw : lwT S sz M 1) (hv : v42 M) (hv8 : v48 M) {n0 : Nat} {l : Nat → Nat → Int} (hl : LR M 24 l n0) {M0 : zMem} (hM0 : z_up M 0 14 (-1) = M0) {size : Nat} (h30 : M0 30 1 = (size : Int)) (hs4 : size ≤ 400) (hB : ∀ i, 0 ≤ M0 31 i ∧ M0 31 i ≤ 255) {T : tS} (hT : tkG (cC (M0 31)) (cV (M0 31)) (M0 31) size 401 0 (0, M0 33, M0 35, M0 34) = T) {c v : Nat → Int} {n : Nat} (hTK : TK c v n) (hCK : CKr (cN M0 0 ((T.1 + 1 : Nat) : Int) (ku T.2.1 T.1 32) (ku T.2.2.1 T.1 0) (ku T.2.2.2 T.1 (size : Int))) c v n) (hE : cN M0 0 ((T.1 + 1 : Nat) : Int) (ku T.2.1 T.1 32) (ku T.2.2.1 T.1 0) (ku T.2.2.2 T.1 (size : Int)) 33 n = 32) {R : Nat ⊕ (gS × List gC)} (hq : g_text true c v n 12 (gz (M0 38)) [] = R) (hpl : ∀ t, t ≤ n → 0 ≤ ku T.2.2.2 T.1 (size : Int) t) : zX (d + 36) 0 0 mX10_orders [zn 0] sz S M (zI sz S (fun r M' => ∃ M2 : zMem, (∀ i, i ≠ 30 → ¬ (32 ≤ i ∧ i ≤ 38) → M2 i = M0 i) ∧ M2 30 = ku (M0 30) 1 0 ∧ ((∃ t, R = .inl t ∧ r = -6 ∧ M' = cRef (z_up M2 0 12 (ku T.2.2.2 T.1 (size : Int) t)) (-6)) ∨ ∃ q, R = .inr q ∧ orQ Lw k l n0 q.2 M2 r M'))) := by
  refine zX_of pl_RX10 [some (zn 0), none] 1 rfl rfl ?_
  refine x_aload_n 1 rfl dX10_orders_0 0 rfl rfl ?_
  refine x_iconst 2 rfl dX10_orders_1 (by decide) ?_
  refine x_puti 5 rfl fX10_83 dX10_orders_2 (lyl0 hL) (lys0 hL) (by decide) ?_
  rw [hM0]
  refine x_aload_n 6 rfl dX10_orders_5 0 rfl rfl ?_
  refine x_aload_n 7 rfl dX10_orders_6 0 rfl rfl ?_
  refine x_getr 10 rfl fX10_43 dX10_orders_7 (lyl0 hL) (lys0 hL) (by decide) (32) rfl ?_
  refine x_aload_n 11 rfl dX10_orders_10 0 rfl rfl ?_
  refine x_getr 14 rfl fX10_36 dX10_orders_11 (lyl0 hL) (lys0 hL) (by decide) (30) rfl ?_
  refine x_aload_n 15 rfl dX10_orders_14 0 rfl rfl ?_
  refine x_getr 18 rfl fX10_36 dX10_orders_15 (lyl0 hL) (lys0 hL) (by decide) (30) rfl ?_
  refine x_cVi 21 rfl lX10_180 dX10_orders_18 (lyl30 hL) (lys30 hL) (c_X8_taken hL) rfl rfl (Nat.le_of_ble_eq_true rfl) (fun r1 M1 hr1 => ?_)
  obtain ⟨hr1a, hM1⟩ := hr1
  rw [h30] at hr1a
  subst hr1a
  rw [hM1]
  refine x_iconst 22 rfl dX10_orders_21 (by decide) ?_
  refine x_cVi 25 rfl lX10_192 dX10_orders_22 (lyl32 hL) (lys32 hL) (c_X6_read (o := true) (R := R) (M := z_up M0 30 1 0) hL hs4 (by rw [z_up_ne (by decide)]; exact hB) rfl (T := T) (by rw [z_up_ne (by decide), z_up_ne (by decide), z_up_ne (by decide), z_up_ne (by decide)]; exact hT) hTK hCK hE (by rw [z_up_ne (by decide)]; exact hq)) rfl rfl (Nat.le_of_ble_eq_true rfl) (fun r2 M2 hr2 => ?_)
  rw [z_up_ne (by decide) (i := 37)] at hr2
  obtain ⟨hF2, h302, hr3⟩ := crQ_of hr2
  clear hr2
  rcases hr3 with ⟨t, hR3, hr3⟩ | ⟨⟨s9, L⟩, hR3, hr3, h360, h361, h37, h38⟩
  · have ht := (g_text_ok (o := true) hTK 12 (gz (M0 38)) [] gz_A rfl (fun x hx => by simp at hx)).1 t (by rw [hq, hR3])
    have hp := hpl t ht
    subst hr3
    refine x_puti 28 rfl fX10_79 dX10_orders_25 (lyl0 hL) (lys0 hL) (by decide) ?_
    refine x_aload_n 29 rfl dX10_orders_28 0 rfl rfl ?_
    refine x_geti 32 rfl fX10_79 dX10_orders_29 (lyl0 hL) (lys0 hL) (by decide) ?_
    rw [z_up_eq]
    refine x_iconst 33 rfl dX10_orders_32 (by decide) ?_
    refine x_icmp_eq 36 43 rfl dX10_orders_33 (by decide) (fun c33 => ?_) (fun c33 => ?_)
    · exfalso; omega
    · refine x_aload_n 37 rfl dX10_orders_36 0 rfl rfl ?_
      refine x_bipush 39 rfl dX10_orders_37 (by decide) ?_
      refine x_cVi 42 rfl lX10_90 dX10_orders_39 (lyl0 hL) (lys0 hL) (c_X10_refuse hL (by rw [z_up_ne (by decide), hF2 54 (by decide) (by decide), ← hM0, z_up_ne (by decide)]; exact hr) (by decide)) rfl rfl (Nat.le_of_ble_eq_true rfl) (fun r7 M7 hr7 => ?_)
      obtain ⟨hr8, hM7⟩ := hr7
      refine x_reti dX10_orders_42 rfl ?_
      exact ⟨M2, hF2, h302, Or.inl ⟨t, hR3, hr8, hM7⟩⟩
  · subst hr3
    have hq9 : g_text true c v n 12 (gz (M0 38)) [] = .inr (s9, L) := by rw [hq, hR3]
    have hOT : OT M2 L := OT_of hTK hq9 h360 h37 h38
    have hN : ∀ i, i ≠ 0 → i ≠ 30 → ¬ (32 ≤ i ∧ i ≤ 38) → M2 i = M i := fun i a b c => by rw [hF2 i b c, ← hM0, z_up_ne a]
    refine x_puti 28 rfl fX10_79 dX10_orders_25 (lyl0 hL) (lys0 hL) (by decide) ?_
    refine x_aload_n 29 rfl dX10_orders_28 0 rfl rfl ?_
    refine x_geti 32 rfl fX10_79 dX10_orders_29 (lyl0 hL) (lys0 hL) (by decide) ?_
    rw [z_up_eq]
    refine x_iconst 33 rfl dX10_orders_32 (by decide) ?_
    refine x_icmp_eq 36 43 rfl dX10_orders_33 (by decide) (fun c33 => ?_) (fun c33 => ?_)
    · refine x_aload_n 44 rfl dX10_orders_43 0 rfl rfl ?_
      refine x_getr 47 rfl fX10_16 dX10_orders_44 (lyl0 hL) (lys0 hL) (by decide) (12) rfl ?_
      refine x_aload_n 48 rfl dX10_orders_47 0 rfl rfl ?_
      refine x_getr 51 rfl fX10_10 dX10_orders_48 (lyl0 hL) (lys0 hL) (by decide) (1) rfl ?_
      refine x_cVu 54 rfl lX10_210 dX10_orders_51 (lyl12 hL) (lys12 hL) (c_X7_become (ly_sh12 hL) (ly_sh1 hL) (by decide) (fun t ht => by rw [z_up_ne (by decide), hN 11 (by decide) (by decide) (by decide)]; exact hlw t ht)) rfl rfl (Nat.le_of_ble_eq_true rfl) (fun M3 hr4 => ?_)
      obtain ⟨g1, g2, g3⟩ := hr4
      refine x_aload_n 55 rfl dX10_orders_54 0 rfl rfl ?_
      refine x_getr 58 rfl fX10_30 dX10_orders_55 (lyl0 hL) (lys0 hL) (by decide) (27) rfl ?_
      refine x_aload_n 59 rfl dX10_orders_58 0 rfl rfl ?_
      refine x_getr 62 rfl fX10_26 dX10_orders_59 (lyl0 hL) (lys0 hL) (by decide) (24) rfl ?_
      refine x_cVu 65 rfl lX10_214 dX10_orders_62 (lyl27 hL) (lys27 hL) (c_X2_become (ly_lg27 hL) (ly_lg24 hL) (by decide)) rfl rfl (Nat.le_of_ble_eq_true rfl) (fun M4 hr4 => ?_)
      obtain ⟨q1, q2⟩ := hr4
      have h4 : ∀ i, i ≠ 0 → (i < 12 ∨ 23 ≤ i) → ¬ (27 ≤ i ∧ i < 30) → M4 i = M2 i := fun i a b c => by rw [q1 i c, g1 i (by omega), z_up_ne a]
      have h5 : ∀ i, i ≠ 0 → (i < 12 ∨ 23 ≤ i) → ¬ (27 ≤ i ∧ i < 30) → i ≠ 30 → ¬ (32 ≤ i ∧ i ≤ 38) → M4 i = M i := fun i a b c d e => by rw [h4 i a b c, hN i a d e]
      have h40 : M4 0 = ku (M2 0) 12 (-1) := by rw [q1 0 (by decide), g1 0 (by decide), z_upm, z_mup_eq]
      have hs4 : SR M4 1 k := SR_frame hs (fun i a b => h5 i (by omega) (by omega) (by omega) (by omega) (by omega))
      have hsA : SR M4 12 k := SR_frame (g2 k (SR_frame hs (fun i a b => by rw [z_up_ne (by omega)]; exact hN i (by omega) (by omega) (by omega)))) (fun i a b => q1 i (by omega))
      have hl4 : LR M4 24 l n0 := LR_frame hl (fun i a b => h5 i (by omega) (by omega) (by omega) (by omega) (by omega))
      have hlA : LR M4 27 l n0 := q2 l n0 (LR_frame hl (fun i a b => by rw [g1 i (by omega), z_up_ne (by omega)]; exact hN i (by omega) (by omega) (by omega)))
      have hT4 : ∀ t, t < 6 → M4 22 t = M2 11 t := fun t ht => by rw [q1 22 (by decide), g3 t ht, z_up_ne (by decide)]
      have hLw4 : LwC S sz M4 1 k Lw := LwC_frame hLw rfl (h5 _ (by decide) (by decide) (by decide) (by decide) (by decide)) (fun i a => h5 i (by omega) (by omega) (by omega) (by omega) (by omega))
      have hv4 : v42 M4 := fun j hj => by rw [h5 42 (by decide) (by decide) (by decide) (by decide) (by decide)]; exact hv j hj
      have hw4 : v48 M4 := fun j hj => by rw [h5 48 (by decide) (by decide) (by decide) (by decide) (by decide)]; exact hv8 j hj
      have hO4 : OT M4 L := OT_frame hOT (h4 _ (by decide) (by decide) (by decide)) (h4 _ (by decide) (by decide) (by decide)) (h4 _ (by decide) (by decide) (by decide))
      refine x_aload_n 66 rfl dX10_orders_65 0 rfl rfl ?_
      refine x_getr 69 rfl fX10_68 dX10_orders_66 (lyl0 hL) (lys0 hL) (by decide) (45) rfl ?_
      refine x_aload_n 70 rfl dX10_orders_69 0 rfl rfl ?_
      refine x_getr 73 rfl fX10_43 dX10_orders_70 (lyl0 hL) (lys0 hL) (by decide) (32) rfl ?_
      refine x_getr 76 rfl fX10_196 dX10_orders_73 (lyl32 hL) (lys32 hL) (by decide) (36) rfl ?_
      refine x_aload_n 77 rfl dX10_orders_76 0 rfl rfl ?_
      refine x_getr 80 rfl fX10_10 dX10_orders_77 (lyl0 hL) (lys0 hL) (by decide) (1) rfl ?_
      refine x_aload_n 81 rfl dX10_orders_80 0 rfl rfl ?_
      refine x_getr 84 rfl fX10_26 dX10_orders_81 (lyl0 hL) (lys0 hL) (by decide) (24) rfl ?_
      refine x_cVi 87 rfl lX10_217 dX10_orders_84 (lyl45 hL) (lys45 hL) (c_X0_run hL hs4 hi hLw4 hv4 hl4 hO4 hw4) rfl rfl (Nat.le_of_ble_eq_true rfl) (fun r5 M5 hr5 => ?_)
      obtain ⟨hF5, hr5⟩ := hr5
      refine y_istore_n 88 rfl dX10_orders_87 rfl rfl (ls' := [_, _]) rfl (by decide) ?_
      refine x_iload_n 89 rfl dX10_orders_88 1 rfl rfl ?_
      refine x_if_ge 92 132 rfl dX10_orders_89 (by decide) (fun c89 => ?_) (fun c89 => ?_)
      · obtain ⟨s, hZ, hr5⟩ : ∃ s, zoL Lw L 0 (k, l, n0, 0, -1) = .inr s ∧ (r5 = s.2.2.2.1 ∧ 0 ≤ r5 ∧ r5 ≤ 300 ∧ SR M5 1 s.1 ∧ KI s.1 ∧ LR M5 24 s.2.1 s.2.2.1) := by
          rcases hZ : zoL Lw L 0 (k, l, n0, 0, -1) with jj | s
          · rw [hZ] at hr5; have := hr5.1; omega
          · rw [hZ] at hr5; exact ⟨s, rfl, hr5⟩
        refine x_aload_n 133 rfl dX10_orders_132 0 rfl rfl ?_
        refine x_iload_n 134 rfl dX10_orders_133 1 rfl rfl ?_
        refine x_cVi 137 rfl lX10_104 dX10_orders_134 (lyl0 hL) (lys0 hL) (c_X10_accept hL) rfl rfl (Nat.le_of_ble_eq_true rfl) (fun r11 M6 hr11 => ?_)
        obtain ⟨hr12, hM6⟩ := hr11
        refine x_reti dX10_orders_137 rfl ?_
        refine ⟨M2, hF2, h302, Or.inr ⟨_, hR3, M5, fun i a => ?_, hF5.2.1, hF5.2.2, fun t ht => ?_, ?_⟩⟩
        · rw [hF5.1 i (by omega), h4 i (by omega) (by omega) (by omega)]
        · rw [hF5.1 11 (by omega), h4 11 (by decide) (by decide) (by decide)]
        · rw [hZ]
          exact ⟨by rw [hr12]; exact hr5.1, by rw [hr12]; exact hr5.2.1, hr5.2.2.2.1, hr5.2.2.2.2.1, hr5.2.2.2.2.2, by rw [hF5.1 0 (by omega), h40], hM6⟩
      · obtain ⟨jj, hZ, hr5, hst⟩ : ∃ jj, zoL Lw L 0 (k, l, n0, 0, -1) = .inl jj ∧ (r5 = -3 ∧ M5 45 3 = (jj : Int)) := by
          rcases hZ : zoL Lw L 0 (k, l, n0, 0, -1) with jj | s
          · rw [hZ] at hr5; exact ⟨jj, rfl, hr5⟩
          · rw [hZ] at hr5; have := hr5.2.1; omega
        refine x_aload_n 93 rfl dX10_orders_92 0 rfl rfl ?_
        refine x_aload_n 94 rfl dX10_orders_93 0 rfl rfl ?_
        refine x_getr 97 rfl fX10_68 dX10_orders_94 (lyl0 hL) (lys0 hL) (by decide) (45) rfl ?_
        refine x_geti 100 rfl fX10_221 dX10_orders_97 (lyl45 hL) (lys45 hL) (by decide) ?_
        rw [hst]
        refine x_puti 103 rfl fX10_83 dX10_orders_100 (lyl0 hL) (lys0 hL) (by decide) ?_
        refine x_aload_n 104 rfl dX10_orders_103 0 rfl rfl ?_
        refine x_getr 107 rfl fX10_10 dX10_orders_104 (lyl0 hL) (lys0 hL) (by decide) (1) rfl ?_
        refine x_aload_n 108 rfl dX10_orders_107 0 rfl rfl ?_
        refine x_getr 111 rfl fX10_16 dX10_orders_108 (lyl0 hL) (lys0 hL) (by decide) (12) rfl ?_
        refine x_cVu 114 rfl lX10_210 dX10_orders_111 (lyl1 hL) (lys1 hL) (c_X7_become (ly_sh1 hL) (ly_sh12 hL) (by decide) (fun t ht => by rw [z_up_ne (by decide), hF5.1 _ (by omega), hT4 t ht, hN 11 (by decide) (by decide) (by decide)]; exact hlw t ht)) rfl rfl (Nat.le_of_ble_eq_true rfl) (fun M7 hr7 => ?_)
        obtain ⟨u1, u2, u3⟩ := hr7
        refine x_aload_n 115 rfl dX10_orders_114 0 rfl rfl ?_
        refine x_getr 118 rfl fX10_26 dX10_orders_115 (lyl0 hL) (lys0 hL) (by decide) (24) rfl ?_
        refine x_aload_n 119 rfl dX10_orders_118 0 rfl rfl ?_
        refine x_getr 122 rfl fX10_30 dX10_orders_119 (lyl0 hL) (lys0 hL) (by decide) (27) rfl ?_
        refine x_cVu 125 rfl lX10_214 dX10_orders_122 (lyl24 hL) (lys24 hL) (c_X2_become (ly_lg24 hL) (ly_lg27 hL) (by decide)) rfl rfl (Nat.le_of_ble_eq_true rfl) (fun M8 hr8 => ?_)
        obtain ⟨w1, w2⟩ := hr8
        refine x_aload_n 126 rfl dX10_orders_125 0 rfl rfl ?_
        refine x_bipush 128 rfl dX10_orders_126 (by decide) ?_
        refine x_cVi 131 rfl lX10_90 dX10_orders_128 (lyl0 hL) (lys0 hL) (c_X10_refuse hL (by rw [w1 54 (by decide), u1 54 (by decide), z_up_ne (by decide), hF5.1 54 (by omega), h5 54 (by decide) (by decide) (by decide) (by decide) (by decide)]; exact hr) (by decide)) rfl rfl (Nat.le_of_ble_eq_true rfl) (fun r9 M9 hr9 => ?_)
        obtain ⟨hr10, hM9⟩ := hr9
        refine x_reti dX10_orders_131 rfl ?_
        refine ⟨M2, hF2, h302, Or.inr ⟨_, hR3, M8, fun i a => ?_, fun j hj => ?_, fun j hj => ?_, fun t ht => ?_, ?_⟩⟩
        · rw [w1 i (by omega), u1 i (by omega), z_up_ne (by omega), hF5.1 i (by omega), h4 i (by omega) (by omega) (by omega)]
        · rw [w1 42 (by decide), u1 42 (by decide), z_up_ne (by decide)]; exact hF5.2.1 j hj
        · rw [w1 48 (by decide), u1 48 (by decide), z_up_ne (by decide)]; exact hF5.2.2 j hj
        · rw [w1 11 (by decide), u3 t ht, z_up_ne (by decide), hF5.1 22 (by omega), hT4 t ht]
        · rw [hZ]
          refine ⟨hr10, SR_frame (u2 k (SR_frame hsA (fun i a b => by rw [z_up_ne (by omega)]; exact hF5.1 i (by omega)))) (fun i a b => w1 i (by omega)), w2 l n0 (LR_frame hlA (fun i a b => by rw [u1 i (by omega), z_up_ne (by omega)]; exact hF5.1 i (by omega))), ?_, hM9⟩
          rw [w1 0 (by decide), u1 0 (by decide), z_upm, z_mup_eq, hF5.1 0 (by omega), h40]
    · exfalso; omega
