theorem kap_32 : ∀ x : Nat, x < 356 → kap x ≠ 32 := by decide +kernel
def hdLs : (Nat → Int) → Nat → List gC → (Nat → Int)
  | hd, _, [] => hd
  | hd, m, x :: t => hdLs (hdw hd m x.1) (m + 1) t
theorem hdLs_app : ∀ (L : List gC) (hd : Nat → Int) (m : Nat) (x : gC), hdLs hd m (L ++ [x]) = hdw (hdLs hd m L) (m + L.length) x.1
  | [], hd, m, x => rfl
  | y :: t, hd, m, x => by
    show hdLs (hdw hd m y.1) (m + 1) (t ++ [x]) = hdw (hdLs (hdw hd m y.1) (m + 1) t) (m + (t.length + 1)) x.1
    rw [hdLs_app t _ _ x, show m + 1 + t.length = m + (t.length + 1) by omega]
def croT (M : zMem) (hd0 : Nat → Int) (res : Nat ⊕ (gS × List gC)) (r : Int) (M' : zMem) : Prop := match res with
  | .inl t => r = M 34 t ∧ ∃ (m' : Nat) (hd' : Nat → Int) (x y u : Int) (cd : Nat → Int), m' ≤ 12 ∧ (0 ≤ u ∧ u ≤ 400) ∧ M' = cr (ct M (m' : Int) hd') x (M 34 t) y 0 u cd
  | .inr q => r = -1 ∧ M' = cr (ct M (q.2.length : Int) (hdLs hd0 0 q.2)) (q.1.1 : Int) (-1) (q.1.2.1 : Int) 0 (q.1.2.2.1 : Int) q.1.2.2.2
theorem cr_init {N : zMem} {w : Int} : z_up (z_up (z_up (z_up (z_up (z_up (z_up N 36 0 0) 36 1 0) 32 8 w) 32 4 0) 32 5 (-1)) 32 6 0) 32 7 0 = cr (ct (z_up N 32 8 w) ((0 : Nat) : Int) (N 37)) 0 (-1) 0 0 0 (N 38) := by
  funext i j
  by_cases h1 : i = 38
  · subst h1; simp [cr, z_up, z_mup]
  · by_cases h2 : i = 37
    · subst h2; simp [cr, ct, z_up, z_mup]
    · by_cases h3 : i = 36
      · subst h3; by_cases j1 : j = 1 <;> by_cases j0 : j = 0 <;> simp [cr, ct, z_up, z_mup, j1, j0]
      · by_cases h4 : i = 32
        · subst h4; by_cases j4 : j = 4 <;> by_cases j5 : j = 5 <;> by_cases j6 : j = 6 <;> by_cases j7 : j = 7 <;> by_cases j8 : j = 8 <;> simp [cr, ct, z_up, z_mup, j4, j5, j6, j7, j8] <;> omega
        · simp [cr, ct, z_up, z_mup, h1, h2, h3, h4]

set_option maxRecDepth 100000 in
set_option maxHeartbeats 4000000 in
theorem c_X6_standsE {d sz : Nat} {S : zSh} {M : zMem} (hL : LY S sz) {n : Nat} {c v : Nat → Int} (hT : TK c v n) (hC : CKr M c v n) (hE : M 33 n = 32) {m : Nat} {hd : Nat → Int} {s : gS} (hs : s.1 ≤ n) : zX d 0 0 mX6_stands [zn 32, zi 32] sz S (cr (ct M (m : Int) hd) (s.1 : Int) (-1) (s.2.1 : Int) 0 (s.2.2.1 : Int) s.2.2.2) (zI sz S (fun r M' => (s.1 = n ∧ r = 1 ∧ M' = (cr (ct M (m : Int) hd) (s.1 : Int) (-1) (s.2.1 : Int) 0 (s.2.2.1 : Int) s.2.2.2)) ∨ (s.1 ≠ n ∧ r = 0 ∧ M' = (cr (ct M (m : Int) hd) (s.1 : Int) (-1) (s.2.1 : Int) 0 (s.2.2.1 : Int) s.2.2.2)))) := by
  have h3 := hC.1
  have hn := hT.1
  have hk : M 33 s.1 = 32 ↔ s.1 = n := by
    constructor
    · intro h
      rcases (hC.2 s.1 hs).1 with h1 | ⟨h1, h2⟩
      · have h4 := hT.2.2.1 s.1 hs
        have h5 := kap_32 (c s.1).toNat (by omega)
        rw [Int.toNat_of_nonneg h4.1, ← h1] at h5
        exact absurd h h5
      · exact h1
    · intro h; rw [h]; exact hE
  refine zX_of pl_RX6 [some (zn 32), some (zi 32)] 0 rfl rfl ?_
  refine x_aload_n 1 rfl dX6_stands_0 0 rfl rfl ?_
  refine x_geti 4 rfl fX6_51 dX6_stands_1 (lyl32 hL) (lys32 hL) (by decide) ?_
  try simp (disch := omega) only [z_up_ne, z_up_nk, z_up_eq, z_mup_ne, z_mup_eq, Int.reduceToNat, Int.toNat_natCast, cr_4, cr_5, cr_6, cr_7, cr_o, cr_u, cr_uo, cr_c, cr_ne, cr_w4, cr_w5, cr_w6, cr_w7, cr_wu, cr_wc, ct_0, ct_37, ct_ne, crt_w0, crt_w37]
  refine x_iconst 5 rfl dX6_stands_4 (by decide) ?_
  refine x_icmp_ne 8 36 rfl dX6_stands_5 (by decide) (fun c5 => ?_) (fun c5 => ?_)
  · exfalso; omega
  · refine x_aload_n 9 rfl dX6_stands_8 0 rfl rfl ?_
    refine x_geti 12 rfl fX6_47 dX6_stands_9 (lyl32 hL) (lys32 hL) (by decide) ?_
    try simp (disch := omega) only [z_up_ne, z_up_nk, z_up_eq, z_mup_ne, z_mup_eq, Int.reduceToNat, Int.toNat_natCast, cr_4, cr_5, cr_6, cr_7, cr_o, cr_u, cr_uo, cr_c, cr_ne, cr_w4, cr_w5, cr_w6, cr_w7, cr_wu, cr_wc, ct_0, ct_37, ct_ne, crt_w0, crt_w37]
    refine x_aload_n 13 rfl dX6_stands_12 0 rfl rfl ?_
    refine x_geti 16 rfl fX6_70 dX6_stands_13 (lyl32 hL) (lys32 hL) (by decide) ?_
    try simp (disch := omega) only [z_up_ne, z_up_nk, z_up_eq, z_mup_ne, z_mup_eq, Int.reduceToNat, Int.toNat_natCast, cr_4, cr_5, cr_6, cr_7, cr_o, cr_u, cr_uo, cr_c, cr_ne, cr_w4, cr_w5, cr_w6, cr_w7, cr_wu, cr_wc, ct_0, ct_37, ct_ne, crt_w0, crt_w37]
    refine x_icmp_ge 19 36 rfl dX6_stands_16 (by decide) (fun c16 => ?_) (fun c16 => ?_)
    · exfalso; omega
    · refine x_aload_n 20 rfl dX6_stands_19 0 rfl rfl ?_
      refine x_getr 23 rfl fX6_9 dX6_stands_20 (lyl32 hL) (lys32 hL) (by decide) (33) rfl ?_
      refine x_aload_n 24 rfl dX6_stands_23 0 rfl rfl ?_
      refine x_geti 27 rfl fX6_47 dX6_stands_24 (lyl32 hL) (lys32 hL) (by decide) ?_
      try simp (disch := omega) only [z_up_ne, z_up_nk, z_up_eq, z_mup_ne, z_mup_eq, Int.reduceToNat, Int.toNat_natCast, cr_4, cr_5, cr_6, cr_7, cr_o, cr_u, cr_uo, cr_c, cr_ne, cr_w4, cr_w5, cr_w6, cr_w7, cr_wu, cr_wc, ct_0, ct_37, ct_ne, crt_w0, crt_w37]
      refine x_iald 28 rfl dX6_stands_27 (lyl33 hL) (lys33 hL) (by omega) (by omega) ?_
      try simp (disch := omega) only [z_up_ne, z_up_nk, z_up_eq, z_mup_ne, z_mup_eq, Int.reduceToNat, Int.toNat_natCast, cr_4, cr_5, cr_6, cr_7, cr_o, cr_u, cr_uo, cr_c, cr_ne, cr_w4, cr_w5, cr_w6, cr_w7, cr_wu, cr_wc, ct_0, ct_37, ct_ne, crt_w0, crt_w37]
      refine x_iload_n 29 rfl dX6_stands_28 1 rfl rfl ?_
      refine x_icmp_ne 32 36 rfl dX6_stands_29 (by decide) (fun c29 => ?_) (fun c29 => ?_)
      · refine x_iconst 37 rfl dX6_stands_36 (by decide) ?_
        refine x_retz dX6_stands_37 rfl (by omega) ?_
        right; exact ⟨fun h => c29 (hk.mpr h), rfl, rfl⟩
      · refine x_iconst 33 rfl dX6_stands_32 (by decide) ?_
        refine x_goto 37 dX6_stands_33 (by decide) ?_
        refine x_retz dX6_stands_37 rfl (by omega) ?_
        left; exact ⟨hk.mp (by omega), rfl, rfl⟩

set_option maxRecDepth 100000 in
set_option maxHeartbeats 4000000 in
theorem w_X6_read44 {d sz : Nat} {S : zSh} {M : zMem} (hL : LY S sz) {n : Nat} {c v : Nat → Int} (hT : TK c v n) (hC : CKr M c v n) {o : Bool} (hO : M 32 8 = (if o = true then 0 else 1)) (hE : M 33 n = 32) {hd0 cd0 : Nat → Int} {j2 j3 : Int} {R : Nat ⊕ (gS × List gC)} (hq0 : g_text o c v n 12 (gz cd0) [] = R) : zW mX6_read (d + 34) 0 0 [] (zI sz S (fun r M' => croT M hd0 R r M')) 44 [some (zn 32), some (zn 30), some (zi j2), some (zi j3), none, none] [] sz S (cr (ct M ((0 : Nat) : Int) hd0) 0 (-1) 0 0 0 cd0) := by
  have hn := hT.1
  have fin0 : ∀ (j4 j5 : Int), ∀ (m : Nat) (hd9 : Nat → Int) (x y u : Int) (cd : Nat → Int) (t : Nat), M 34 t ≠ -1 → m ≤ 12 → (0 ≤ u ∧ u ≤ 400) → R = .inl t → zW mX6_read (d + 34) 0 0 [] (zI sz S (fun r M' => croT M hd0 R r M')) 110 [some (zn 32), some (zn 30), some (zi j2), some (zi j3), some (zi j4), some (zi j5)] [] sz S (cr (ct M (m : Int) hd9) x (M 34 t) y 0 u cd) := by
    intro j4 j5 m hd9 x y u cd t hf hm hu hR
    refine x_aload_n 111 rfl dX6_read_110 0 rfl rfl ?_
    refine x_bipush 113 rfl dX6_read_111 (by decide) ?_
    refine x_cVi 116 rfl lX6_66 dX6_read_113 (lyl32 hL) (lys32 hL) (c_X6_stands0 hL hf) rfl rfl (Nat.le_of_ble_eq_true rfl) (fun r M1 hr1 => ?_)
    obtain ⟨rfl, hM1⟩ := hr1
    rw [hM1]
    refine x_if_ne 119 123 rfl dX6_read_116 (by decide) (fun c116 => ?_) (fun c116 => ?_)
    · exfalso; omega
    · refine x_aload_n 120 rfl dX6_read_119 0 rfl rfl ?_
      refine x_cVu 123 rfl lX6_60 dX6_read_120 (lyl32 hL) (lys32 hL) (c_X6_fail0 hL hf) rfl rfl (Nat.le_of_ble_eq_true rfl) (fun M1 hM1 => ?_)
      rw [hM1]
      refine x_aload_n 124 rfl dX6_read_123 0 rfl rfl ?_
      refine x_geti 127 rfl fX6_51 dX6_read_124 (lyl32 hL) (lys32 hL) (by decide) ?_
      try simp (disch := omega) only [z_up_ne, z_up_nk, z_up_eq, z_mup_ne, z_mup_eq, Int.reduceToNat, Int.toNat_natCast, cr_4, cr_5, cr_6, cr_7, cr_o, cr_u, cr_uo, cr_c, cr_ne, cr_w4, cr_w5, cr_w6, cr_w7, cr_wu, cr_wc, ct_0, ct_37, ct_ne, crt_w0, crt_w37]
      refine x_reti dX6_read_127 rfl ?_
      rw [hR]
      exact ⟨rfl, m, hd9, _, _, _, _, hm, hu, rfl⟩
  have bad : ∀ (j5 : Int), (0 ≤ j5 ∧ j5 ≤ 20) → ∀ (m : Nat) (hd9 : Nat → Int) (x y u : Int) (cd : Nat → Int) (t : Nat), M 34 t ≠ -1 → m ≤ 12 → (0 ≤ u ∧ u ≤ 400) → R = .inl t → zW mX6_read (d + 34) 0 0 [] (zI sz S (fun r M' => croT M hd0 R r M')) 80 [some (zn 32), some (zn 30), some (zi j2), some (zi j3), some (zi 1), some (zi j5)] [] sz S (cr (ct M (m : Int) hd9) x (M 34 t) y 0 u cd) := by
    intro j5 hj m hd9 x y u cd t hf hm hu hR
    refine x_aload_n 81 rfl dX6_read_80 0 rfl rfl ?_
    refine x_sipush 84 rfl dX6_read_81 (by decide) ?_
    refine x_cVi 87 rfl lX6_66 dX6_read_84 (lyl32 hL) (lys32 hL) (c_X6_stands0 hL hf) rfl rfl (Nat.le_of_ble_eq_true rfl) (fun r M1 hr1 => ?_)
    obtain ⟨rfl, hM1⟩ := hr1
    rw [hM1]
    refine y_istore 89 rfl dX6_read_87 rfl (ls' := [_, _, _, _, _, _]) rfl (by decide) ?_
    refine x_iload 91 rfl dX6_read_89 rfl ?_
    refine x_if_eq 94 104 rfl dX6_read_91 (by decide) (fun c91 => ?_) (fun c91 => ?_)
    · refine w_iinc 107 rfl dX6_read_104 rfl (by decide) (by omega) rfl (ls' := [_, _, _, _, _, _]) rfl (by decide) ?_
      refine x_goto 50 dX6_read_107 (by decide) ?_
      refine x_iload 52 rfl dX6_read_50 rfl ?_
      refine x_if_eq 55 110 rfl dX6_read_52 (by decide) (fun c52 => ?_) (fun c52 => ?_)
      · exact fin0 _ _ _ _ _ _ _ _ _ hf hm hu hR
      · exfalso; omega
    · exfalso; omega
  have fin1 : ∀ (j5 : Int) (s2 : gS) (L : List gC), gA n s2 → (if s2.1 = n then .inr (s2, L) else .inl s2.1) = R → L.length ≤ 12 → zW mX6_read (d + 34) 0 0 [] (zI sz S (fun r M' => croT M hd0 R r M')) 110 [some (zn 32), some (zn 30), some (zi j2), some (zi j3), some (zi 0), some (zi j5)] [] sz S (cr (ct M (L.length : Int) (hdLs hd0 0 L)) (s2.1 : Int) (-1) (s2.2.1 : Int) 0 (s2.2.2.1 : Int) s2.2.2.2) := by
    intro j5 s2 L hB hR hl
    have hB1 := hB.1
    have hB2 := hB.2.2
    refine x_aload_n 111 rfl dX6_read_110 0 rfl rfl ?_
    refine x_bipush 113 rfl dX6_read_111 (by decide) ?_
    refine x_cVi 116 rfl lX6_66 dX6_read_113 (lyl32 hL) (lys32 hL) (c_X6_standsE hL hT hC hE hB1) rfl rfl (Nat.le_of_ble_eq_true rfl) (fun r M1 hr1 => ?_)
    rcases hr1 with ⟨hx, rfl, hM1⟩ | ⟨hx, rfl, hM1⟩
    · rw [hM1]
      rw [if_pos hx] at hR
      refine x_if_ne 119 123 rfl dX6_read_116 (by decide) (fun c116 => ?_) (fun c116 => ?_)
      · refine x_aload_n 124 rfl dX6_read_123 0 rfl rfl ?_
        refine x_geti 127 rfl fX6_51 dX6_read_124 (lyl32 hL) (lys32 hL) (by decide) ?_
        try simp (disch := omega) only [z_up_ne, z_up_nk, z_up_eq, z_mup_ne, z_mup_eq, Int.reduceToNat, Int.toNat_natCast, cr_4, cr_5, cr_6, cr_7, cr_o, cr_u, cr_uo, cr_c, cr_ne, cr_w4, cr_w5, cr_w6, cr_w7, cr_wu, cr_wc, ct_0, ct_37, ct_ne, crt_w0, crt_w37]
        refine x_reti dX6_read_127 rfl ?_
        rw [← hR]
        exact ⟨rfl, rfl⟩
      · exfalso; omega
    · rw [hM1]
      rw [if_neg hx] at hR
      refine x_if_ne 119 123 rfl dX6_read_116 (by decide) (fun c116 => ?_) (fun c116 => ?_)
      · exfalso; omega
      · refine x_aload_n 120 rfl dX6_read_119 0 rfl rfl ?_
        refine x_cVu 123 rfl lX6_60 dX6_read_120 (lyl32 hL) (lys32 hL) (c_X6_fail1 hL hT (CKr_ct hC) hB1) rfl rfl (Nat.le_of_ble_eq_true rfl) (fun M4 hM4 => ?_)
        rw [hM4, ct_ne (by decide) (by decide)]
        refine x_aload_n 124 rfl dX6_read_123 0 rfl rfl ?_
        refine x_geti 127 rfl fX6_51 dX6_read_124 (lyl32 hL) (lys32 hL) (by decide) ?_
        try simp (disch := omega) only [z_up_ne, z_up_nk, z_up_eq, z_mup_ne, z_mup_eq, Int.reduceToNat, Int.toNat_natCast, cr_4, cr_5, cr_6, cr_7, cr_o, cr_u, cr_uo, cr_c, cr_ne, cr_w4, cr_w5, cr_w6, cr_w7, cr_wu, cr_wc, ct_0, ct_37, ct_ne, crt_w0, crt_w37]
        refine x_reti dX6_read_127 rfl ?_
        rw [← hR]
        exact ⟨rfl, L.length, _, _, _, _, _, hl, by omega, rfl⟩
  have loop : ∀ (f : Nat) (s1 : gS) (L : List gC), gA n s1 → L.length + f = 12 → g_text o c v n f s1 L = R → zW mX6_read (d + 34) 0 0 [] (zI sz S (fun r M' => croT M hd0 R r M')) 50 [some (zn 32), some (zn 30), some (zi j2), some (zi j3), some (zi 1), some (zi (L.length : Int))] [] sz S (cr (ct M (L.length : Int) (hdLs hd0 0 L)) (s1.1 : Int) (-1) (s1.2.1 : Int) 0 (s1.2.2.1 : Int) s1.2.2.2) := by
    intro f
    induction f with
    | zero =>
      intro s1 L hA hl hq
      have hA1 := hA.1
      have hA2 := hA.2.2
      have hq : .inl s1.1 = R := hq
      refine x_iload 52 rfl dX6_read_50 rfl ?_
      refine x_if_eq 55 110 rfl dX6_read_52 (by decide) (fun c52 => ?_) (fun c52 => ?_)
      · exfalso; omega
      · refine x_iload 57 rfl dX6_read_55 rfl ?_
        refine x_bipush 59 rfl dX6_read_57 (by decide) ?_
        refine x_icmp_gt 62 110 rfl dX6_read_59 (by decide) (fun c59 => ?_) (fun c59 => ?_)
        · exfalso; omega
        · refine x_iload 64 rfl dX6_read_62 rfl ?_
          refine x_bipush 66 rfl dX6_read_64 (by decide) ?_
          refine x_icmp_ne 69 76 rfl dX6_read_66 (by decide) (fun c66 => ?_) (fun c66 => ?_)
          · exfalso; omega
          · refine x_aload_n 70 rfl dX6_read_69 0 rfl rfl ?_
            refine x_cVu 73 rfl lX6_60 dX6_read_70 (lyl32 hL) (lys32 hL) (c_X6_fail1 hL hT (CKr_ct hC) hA1) rfl rfl (Nat.le_of_ble_eq_true rfl) (fun M4 hM4 => ?_)
            rw [hM4, ct_ne (by decide) (by decide)]
            have hf : M 34 s1.1 ≠ -1 := by have := (hC.2 s1.1 (hA1)).2.2; omega
            refine x_goto 80 dX6_read_73 (by decide) ?_
            exact bad _ (by omega) L.length _ _ _ _ _ s1.1 hf (by omega) (by omega) hq.symm
    | succ f ih =>
      intro s1 L hA hl hq
      have hA1 := hA.1
      refine x_iload 52 rfl dX6_read_50 rfl ?_
      refine x_if_eq 55 110 rfl dX6_read_52 (by decide) (fun c52 => ?_) (fun c52 => ?_)
      · exfalso; omega
      · refine x_iload 57 rfl dX6_read_55 rfl ?_
        refine x_bipush 59 rfl dX6_read_57 (by decide) ?_
        refine x_icmp_gt 62 110 rfl dX6_read_59 (by decide) (fun c59 => ?_) (fun c59 => ?_)
        · exfalso; omega
        · refine x_iload 64 rfl dX6_read_62 rfl ?_
          refine x_bipush 66 rfl dX6_read_64 (by decide) ?_
          refine x_icmp_ne 69 76 rfl dX6_read_66 (by decide) (fun c66 => ?_) (fun c66 => ?_)
          · refine x_aload_n 77 rfl dX6_read_76 0 rfl rfl ?_
            refine x_cVu 80 rfl lX6_63 dX6_read_77 (lyl32 hL) (lys32 hL) (c_X6_clause hL hT hC hO (m := L.length) hA (by omega) rfl) rfl rfl (Nat.le_of_ble_eq_true rfl) (fun M2 hr2 => ?_)
            rcases hq2 : g_cl o c v s1 with t2 | ⟨s2, x2⟩
            · rw [hq2] at hr2
              rw [g_text_f hq2] at hq
              obtain ⟨m1, hd1, x1, y1, u1, cd1, hm1, hu1, hM2⟩ := hr2
              rw [hM2]
              have hf : M 34 t2 ≠ -1 := by have := (hC.2 t2 ((g_cl_ok hT hA).1 t2 hq2)).2.2; omega
              exact bad _ (by omega) m1 _ _ _ _ _ t2 hf hm1 hu1 hq.symm
            · rw [hq2] at hr2
              rw [g_text_s hq2] at hq
              have hM2 : M2 = (cr (ct M ((L.length + 1 : Nat) : Int) (hdw (hdLs hd0 0 L) L.length x2.1)) (s2.1 : Int) (-1) (s2.2.1 : Int) 0 (s2.2.2.1 : Int) s2.2.2.2) := hr2
              rw [hM2]
              have hw2 := ((g_cl_ok hT hA).2 s2 x2 hq2).1
              have hB := gW_A hA hw2
              have hB1 := hB.1
              have hL1 : (L ++ [x2]).length = L.length + 1 := by simp
              refine z_mem (M' := (cr (ct M ((L ++ [x2]).length : Int) (hdLs hd0 0 (L ++ [x2]))) (s2.1 : Int) (-1) (s2.2.1 : Int) 0 (s2.2.2.1 : Int) s2.2.2.2)) (by rw [hL1, hdLs_app, Nat.zero_add]) ?_
              unfold g_more at hq
              refine x_aload_n 81 rfl dX6_read_80 0 rfl rfl ?_
              refine x_sipush 84 rfl dX6_read_81 (by decide) ?_
              refine x_cVi 87 rfl lX6_66 dX6_read_84 (lyl32 hL) (lys32 hL) (c_X6_stands1 hL hT (CKr_ct hC) hB1 kp159) rfl rfl (Nat.le_of_ble_eq_true rfl) (fun r M1 hr1 => ?_)
              rcases hr1 with ⟨hx, rfl, hM1⟩ | ⟨hx, rfl, hM1⟩
              · rw [hM1]
                rw [if_pos hx] at hq
                have hB2 := gW_A hB (gW_ad hB (hT.lt hB1 (show c s2.1 ≠ 0 by omega)))
                refine y_istore 89 rfl dX6_read_87 rfl (ls' := [_, _, _, _, _, _]) rfl (by decide) ?_
                refine x_iload 91 rfl dX6_read_89 rfl ?_
                refine x_if_eq 94 104 rfl dX6_read_91 (by decide) (fun c91 => ?_) (fun c91 => ?_)
                · exfalso; omega
                · refine x_aload_n 95 rfl dX6_read_94 0 rfl rfl ?_
                  refine x_dupr 96 rfl dX6_read_95 ?_
                  refine x_geti 99 rfl fX6_47 dX6_read_96 (lyl32 hL) (lys32 hL) (by decide) ?_
                  try simp (disch := omega) only [z_up_ne, z_up_nk, z_up_eq, z_mup_ne, z_mup_eq, Int.reduceToNat, Int.toNat_natCast, cr_4, cr_5, cr_6, cr_7, cr_o, cr_u, cr_uo, cr_c, cr_ne, cr_w4, cr_w5, cr_w6, cr_w7, cr_wu, cr_wc, ct_0, ct_37, ct_ne, crt_w0, crt_w37]
                  refine x_iconst 100 rfl dX6_read_99 (by decide) ?_
                  refine y_iadd 101 rfl dX6_read_100 (by omega) ?_
                  refine x_puti 104 rfl fX6_47 dX6_read_101 (lyl32 hL) (lys32 hL) (by decide) ?_
                  try simp only [cr_4, cr_5, cr_6, cr_7, cr_o, cr_u, cr_uo, cr_c, cr_ne, cr_w4, cr_w5, cr_w6, cr_w7, cr_wu, cr_wc, ct_0, ct_37, ct_ne, crt_w0, crt_w37]
                  rw [cr_ad s2]
                  refine w_iinc 107 rfl dX6_read_104 rfl (by decide) (by omega) rfl (ls' := [_, _, _, _, _, _]) rfl (by decide) ?_
                  refine x_goto 50 dX6_read_107 (by decide) ?_
                  refine z_wk (ls' := [some (zn 32), some (zn 30), some (zi j2), some (zi j3), some (zi 1), some (zi ((L ++ [x2]).length : Int))]) ⟨rfl, rfl, rfl, rfl, rfl, z_e (by rw [hL1]; omega), trivial⟩ (ih (g_ad s2) (L ++ [x2]) hB2 (by rw [hL1]; omega) hq)
              · rw [hM1]
                rw [if_neg hx] at hq
                refine y_istore 89 rfl dX6_read_87 rfl (ls' := [_, _, _, _, _, _]) rfl (by decide) ?_
                refine x_iload 91 rfl dX6_read_89 rfl ?_
                refine x_if_eq 94 104 rfl dX6_read_91 (by decide) (fun c91 => ?_) (fun c91 => ?_)
                · refine w_iinc 107 rfl dX6_read_104 rfl (by decide) (by omega) rfl (ls' := [_, _, _, _, _, _]) rfl (by decide) ?_
                  refine x_goto 50 dX6_read_107 (by decide) ?_
                  refine x_iload 52 rfl dX6_read_50 rfl ?_
                  refine x_if_eq 55 110 rfl dX6_read_52 (by decide) (fun c52 => ?_) (fun c52 => ?_)
                  · exact fin1 _ s2 (L ++ [x2]) hB hq (by rw [hL1]; omega)
                  · exfalso; omega
                · exfalso; omega
          · exfalso; omega
  refine z_mem (M' := (cr (ct M (([] : List gC).length : Int) (hdLs hd0 0 [])) ((gz cd0).1 : Int) (-1) ((gz cd0).2.1 : Int) 0 ((gz cd0).2.2.1 : Int) (gz cd0).2.2.2)) rfl ?_
  refine x_iconst 45 rfl dX6_read_44 (by decide) ?_
  refine y_istore 47 rfl dX6_read_45 rfl (ls' := [_, _, _, _, _, _]) rfl (by decide) ?_
  refine x_iconst 48 rfl dX6_read_47 (by decide) ?_
  refine y_istore 50 rfl dX6_read_48 rfl (ls' := [_, _, _, _, _, _]) rfl (by decide) ?_
  exact loop 12 (gz cd0) [] gz_A rfl hq0

set_option maxRecDepth 100000 in
set_option maxHeartbeats 4000000 in
theorem c_X6_read {d sz : Nat} {S : zSh} {M : zMem} (hL : LY S sz) {size : Nat} (hs : size ≤ 400) (hB : ∀ i, 0 ≤ M 31 i ∧ M 31 i ≤ 255) {w : Int} {o : Bool} (hw : w = (if o = true then 0 else 1)) {T : tS} (hT : tkG (cC (M 31)) (cV (M 31)) (M 31) size 401 0 (0, M 33, M 35, M 34) = T) {c v : Nat → Int} {n : Nat} (hTK : TK c v n) (hCK : CKr (z_up (ck M ((T.1 + 1 : Nat) : Int) (ku T.2.1 T.1 32) (ku T.2.2.1 T.1 0) (ku T.2.2.2 T.1 (size : Int))) 32 8 w) c v n) (hE : (z_up (ck M ((T.1 + 1 : Nat) : Int) (ku T.2.1 T.1 32) (ku T.2.2.1 T.1 0) (ku T.2.2.2 T.1 (size : Int))) 32 8 w) 33 n = 32) {R : Nat ⊕ (gS × List gC)} (hq : g_text o c v n 12 (gz (M 38)) [] = R) : zX (d + 34) 0 0 mX6_read [zn 32, zn 30, zi (size : Int), zi w] sz S M (zI sz S (fun r M' => croT (z_up (ck M ((T.1 + 1 : Nat) : Int) (ku T.2.1 T.1 32) (ku T.2.2.1 T.1 0) (ku T.2.2.2 T.1 (size : Int))) 32 8 w) (M 37) R r M')) := by
  have hw1 : w = 0 ∨ w = 1 := by rw [hw]; split <;> omega
  refine zX_of pl_RX6 [some (zn 32), some (zn 30), some (zi (size : Int)), some (zi w), none, none] 2 rfl rfl ?_
  refine x_aload_n 1 rfl dX6_read_0 0 rfl rfl ?_
  refine x_aload_n 2 rfl dX6_read_1 1 rfl rfl ?_
  refine x_iload_n 3 rfl dX6_read_2 2 rfl rfl ?_
  refine x_sipush 6 rfl dX6_read_3 (by decide) ?_
  refine x_cSi 9 rfl lX6_30 dX6_read_6 c_min rfl rfl (Nat.le_of_ble_eq_true rfl) (fun r M1 hr1 => ?_)
  obtain ⟨rfl, hM1⟩ := hr1
  rw [hM1, show min (size : Int) 400 = (size : Int) by omega]
  refine x_cVu 12 rfl lX6_36 dX6_read_9 (lyl32 hL) (lys32 hL) (c_X6_cut hL hs hB hT) rfl rfl (Nat.le_of_ble_eq_true rfl) (fun M1 hM1 => ?_)
  rw [hM1]
  refine x_aload_n 13 rfl dX6_read_12 0 rfl rfl ?_
  refine x_getr 16 rfl fX6_26 dX6_read_13 (lyl32 hL) (lys32 hL) (by decide) (36) rfl ?_
  refine x_cVu 19 rfl lX6_40 dX6_read_16 (lyl36 hL) (lys36 hL) (c_X9_clear (ly_tx36 hL) (by decide)) rfl rfl (Nat.le_of_ble_eq_true rfl) (fun M2 hM2 => ?_)
  rw [hM2]
  refine x_aload_n 20 rfl dX6_read_19 0 rfl rfl ?_
  refine x_iload_n 21 rfl dX6_read_20 3 rfl rfl ?_
  refine x_putz 24 rfl fX6_43 dX6_read_21 (lyl32 hL) (lys32 hL) (by decide) (by omega) ?_
  refine x_aload_n 25 rfl dX6_read_24 0 rfl rfl ?_
  refine x_iconst 26 rfl dX6_read_25 (by decide) ?_
  refine x_puti 29 rfl fX6_47 dX6_read_26 (lyl32 hL) (lys32 hL) (by decide) ?_
  refine x_aload_n 30 rfl dX6_read_29 0 rfl rfl ?_
  refine x_iconst 31 rfl dX6_read_30 (by decide) ?_
  refine x_puti 34 rfl fX6_51 dX6_read_31 (lyl32 hL) (lys32 hL) (by decide) ?_
  refine x_aload_n 35 rfl dX6_read_34 0 rfl rfl ?_
  refine x_iconst 36 rfl dX6_read_35 (by decide) ?_
  refine x_puti 39 rfl fX6_54 dX6_read_36 (lyl32 hL) (lys32 hL) (by decide) ?_
  refine x_aload_n 40 rfl dX6_read_39 0 rfl rfl ?_
  refine x_iconst 41 rfl dX6_read_40 (by decide) ?_
  refine x_puti 44 rfl fX6_57 dX6_read_41 (lyl32 hL) (lys32 hL) (by decide) ?_
  rw [cr_init]
  rw [ck_ne (by decide) (by decide) (by decide) (by decide), ck_ne (by decide) (by decide) (by decide) (by decide)]
  exact w_X6_read44 hL hTK hCK (by simp [z_up, hw]) hE hq
