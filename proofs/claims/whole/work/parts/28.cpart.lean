theorem kp2 : KP 2 14 := ⟨by decide, by decide, by decide +kernel⟩
theorem kp5 : KP 5 15 := ⟨by decide, by decide, by decide +kernel⟩
theorem kap_law : ∀ x : Nat, x < 356 → ((0 ≤ kap x ∧ kap x ≤ 9) ↔ ((8 : Int) ≤ x ∧ (x : Int) ≤ 17)) := by decide +kernel
theorem kap_ord : ∀ x : Nat, x < 356 → ((kap x = 6 ∨ kap x = 8 ∨ (10 ≤ kap x ∧ kap x ≤ 12)) ↔ ((16 : Int) ≤ x ∧ (x : Int) ≤ 20)) := by decide +kernel
theorem kst_law {M : zMem} {c v : Nat → Int} {n t : Nat} (hT : TK c v n) (hC : CKr M c v n) (ht : t ≤ n) : (0 ≤ M 33 t ∧ M 33 t ≤ 9) ↔ (8 ≤ c t ∧ c t ≤ 17) := by
  have h1 := hT.2.2.1 t ht
  rcases (hC.2 t ht).1 with h | ⟨h2, h3⟩
  · rw [h]
    have h4 := kap_law (c t).toNat (by omega)
    rw [Int.toNat_of_nonneg h1.1] at h4
    exact h4
  · subst h2
    rw [h3, hT.2.1]
    omega
theorem kst_ord {M : zMem} {c v : Nat → Int} {n t : Nat} (hT : TK c v n) (hC : CKr M c v n) (ht : t ≤ n) : (M 33 t = 6 ∨ M 33 t = 8 ∨ (10 ≤ M 33 t ∧ M 33 t ≤ 12)) ↔ (16 ≤ c t ∧ c t ≤ 20) := by
  have h1 := hT.2.2.1 t ht
  rcases (hC.2 t ht).1 with h | ⟨h2, h3⟩
  · rw [h]
    have h4 := kap_ord (c t).toNat (by omega)
    rw [Int.toNat_of_nonneg h1.1] at h4
    exact h4
  · subst h2
    rw [h3, hT.2.1]
    omega
theorem kst_nz {M : zMem} {c v : Nat → Int} {n t : Nat} (hT : TK c v n) (hC : CKr M c v n) (ht : t ≤ n) (h0 : c t ≠ 0) : M 33 t = kap (c t) := by
  rcases (hC.2 t ht).1 with h | ⟨h2, h3⟩
  · exact h
  · subst h2; exact absurd hT.2.1 h0
theorem gA_pa {n : Nat} {s : gS} (hA : gA n s) (hl : s.2.1 ≠ 50) : gA n (g_pa s) := ⟨hA.1, by have := hA.2.1; show s.2.1 + 1 ≤ 50; omega, hA.2.2⟩

set_option maxRecDepth 100000 in
set_option maxHeartbeats 4000000 in
theorem c_X6_named {d sz : Nat} {S : zSh} {M : zMem} (hL : LY S sz) {n : Nat} {c v : Nat → Int} (hT : TK c v n) (hC : CKr M c v n) {s : gS} (hA : gA n s) {o : Bool} (hO : M 32 8 = (if o = true then 0 else 1)) {inner : Option (gS → gR)} {br : Int} (h191 : ¬ c s.1 = 191) (hl : ¬ s.2.1 = 50) (h50 : ¬ (c s.1 = 50 ∧ v s.1 ≤ 1000)) : zX (d + 1) 0 0 mX6_named [zn 32] sz S (cr M ((g_pa s).1 : Int) (-1) ((g_pa s).2.1 : Int) br ((g_pa s).2.2.1 : Int) (g_pa s).2.2.2) (zU sz S (fun M' => cro M br (g_part c v o inner s) M')) := by
  have hA1 := hA.1
  have hA3 := hA.2.2
  have hn := hT.1
  have h3 := hC.1
  have hcr := hT.2.2.1 s.1 hA1
  have k1 := kst_law hT hC hA1
  have k2 := kst_ord hT hC hA1
  have k3 := kst hT hC hA1 kp2
  have k4 := kst hT hC hA1 kp5
  have hs9 : (g_pa s).1 = s.1 := rfl
  have hs8 : (g_ad (g_pa s)).1 = s.1 + 1 := rfl
  refine zX_of pl_RX6 [some (zn 32), none, none] 2 rfl rfl ?_
  refine x_aload_n 1 rfl dX6_named_0 0 rfl rfl ?_
  refine x_geti 4 rfl fX6_47 dX6_named_1 (lyl32 hL) (lys32 hL) (by decide) ?_
  try simp (disch := omega) only [z_up_ne, z_up_nk, z_up_eq, z_mup_ne, z_mup_eq, Int.reduceToNat, Int.toNat_natCast, cr_4, cr_5, cr_6, cr_7, cr_o, cr_u, cr_uo, cr_c, cr_ne, cr_w4, cr_w5, cr_w6, cr_w7, cr_wu, cr_wc]
  refine x_aload_n 5 rfl dX6_named_4 0 rfl rfl ?_
  refine x_geti 8 rfl fX6_70 dX6_named_5 (lyl32 hL) (lys32 hL) (by decide) ?_
  try simp (disch := omega) only [z_up_ne, z_up_nk, z_up_eq, z_mup_ne, z_mup_eq, Int.reduceToNat, Int.toNat_natCast, cr_4, cr_5, cr_6, cr_7, cr_o, cr_u, cr_uo, cr_c, cr_ne, cr_w4, cr_w5, cr_w6, cr_w7, cr_wu, cr_wc]
  refine x_icmp_ge 11 23 rfl dX6_named_8 (by decide) (fun c8 => ?_) (fun c8 => ?_)
  · exfalso; omega
  · refine x_aload_n 12 rfl dX6_named_11 0 rfl rfl ?_
    refine x_getr 15 rfl fX6_9 dX6_named_12 (lyl32 hL) (lys32 hL) (by decide) (33) rfl ?_
    refine x_aload_n 16 rfl dX6_named_15 0 rfl rfl ?_
    refine x_geti 19 rfl fX6_47 dX6_named_16 (lyl32 hL) (lys32 hL) (by decide) ?_
    try simp (disch := omega) only [z_up_ne, z_up_nk, z_up_eq, z_mup_ne, z_mup_eq, Int.reduceToNat, Int.toNat_natCast, cr_4, cr_5, cr_6, cr_7, cr_o, cr_u, cr_uo, cr_c, cr_ne, cr_w4, cr_w5, cr_w6, cr_w7, cr_wu, cr_wc]
    refine x_iald 20 rfl dX6_named_19 (lyl33 hL) (lys33 hL) (by omega) (by omega) ?_
    try simp (disch := omega) only [z_up_ne, z_up_nk, z_up_eq, z_mup_ne, z_mup_eq, Int.reduceToNat, Int.toNat_natCast, cr_4, cr_5, cr_6, cr_7, cr_o, cr_u, cr_uo, cr_c, cr_ne, cr_w4, cr_w5, cr_w6, cr_w7, cr_wu, cr_wc]
    refine z_name (y' := M 33 s.1) rfl ?_
    refine x_goto 25 dX6_named_20 (by decide) ?_
    refine y_istore_n 26 rfl dX6_named_25 rfl rfl (ls' := [_, _, _]) rfl (by decide) ?_
    refine x_aload_n 27 rfl dX6_named_26 0 rfl rfl ?_
    refine x_getz 30 rfl fX6_43 dX6_named_27 (lyl32 hL) (lys32 hL) (by decide) ?_
    try simp (disch := omega) only [z_up_ne, z_up_nk, z_up_eq, z_mup_ne, z_mup_eq, Int.reduceToNat, Int.toNat_natCast, cr_4, cr_5, cr_6, cr_7, cr_o, cr_u, cr_uo, cr_c, cr_ne, cr_w4, cr_w5, cr_w6, cr_w7, cr_wu, cr_wc]
    refine x_if_eq 33 43 rfl dX6_named_30 (by decide) (fun c30 => ?_) (fun c30 => ?_)
    · have ho : o = true := by cases o with | true => rfl | false => simp at hO; omega
      refine x_iload_n 44 rfl dX6_named_43 1 rfl rfl ?_
      refine x_cSi 47 rfl lX6_168 dX6_named_44 c_X6_isOrderWord rfl rfl (Nat.le_of_ble_eq_true rfl) (fun r M1 hr1 => ?_)
      obtain ⟨rfl, hM1⟩ := hr1
      rw [hM1]
      refine x_if_eq 50 72 rfl dX6_named_47 (by decide) (fun c47 => ?_) (fun c47 => ?_)
      · have hlw : ¬ (16 ≤ c s.1 ∧ c s.1 ≤ 20) := by rw [← k2]; intro hh; rw [if_pos hh] at c47; omega
        refine x_aload_n 73 rfl dX6_named_72 0 rfl rfl ?_
        refine x_getz 76 rfl fX6_43 dX6_named_73 (lyl32 hL) (lys32 hL) (by decide) ?_
        try simp (disch := omega) only [z_up_ne, z_up_nk, z_up_eq, z_mup_ne, z_mup_eq, Int.reduceToNat, Int.toNat_natCast, cr_4, cr_5, cr_6, cr_7, cr_o, cr_u, cr_uo, cr_c, cr_ne, cr_w4, cr_w5, cr_w6, cr_w7, cr_wu, cr_wc]
        refine x_if_ne 79 183 rfl dX6_named_76 (by decide) (fun c76 => ?_) (fun c76 => ?_)
        · exfalso; omega
        · refine x_iload_n 80 rfl dX6_named_79 1 rfl rfl ?_
          refine x_iconst 81 rfl dX6_named_80 (by decide) ?_
          refine x_icmp_eq 84 89 rfl dX6_named_81 (by decide) (fun c81 => ?_) (fun c81 => ?_)
          · have h14 : c s.1 = 14 := k3.mp (by omega)
            have hlt1 : s.1 < n := hT.lt hA1 (show c s.1 ≠ 0 by omega)
            refine x_aload_n 90 rfl dX6_named_89 0 rfl rfl ?_
            refine x_dupr 91 rfl dX6_named_90 ?_
            refine x_geti 94 rfl fX6_47 dX6_named_91 (lyl32 hL) (lys32 hL) (by decide) ?_
            try simp (disch := omega) only [z_up_ne, z_up_nk, z_up_eq, z_mup_ne, z_mup_eq, Int.reduceToNat, Int.toNat_natCast, cr_4, cr_5, cr_6, cr_7, cr_o, cr_u, cr_uo, cr_c, cr_ne, cr_w4, cr_w5, cr_w6, cr_w7, cr_wu, cr_wc]
            refine x_iconst 95 rfl dX6_named_94 (by decide) ?_
            refine y_iadd 96 rfl dX6_named_95 (by simp only [g_pa]; omega) ?_
            refine x_puti 99 rfl fX6_47 dX6_named_96 (lyl32 hL) (lys32 hL) (by decide) ?_
            try simp only [cr_4, cr_5, cr_6, cr_7, cr_o, cr_u, cr_uo, cr_c, cr_ne, cr_w4, cr_w5, cr_w6, cr_w7, cr_wu, cr_wc]
            rw [cr_ad (g_pa s)]
            refine x_iload_n 100 rfl dX6_named_99 1 rfl rfl ?_
            refine x_iconst 101 rfl dX6_named_100 (by decide) ?_
            refine x_icmp_ne 104 109 rfl dX6_named_101 (by decide) (fun c101 => ?_) (fun c101 => ?_)
            · exfalso; omega
            · refine x_bipush 106 rfl dX6_named_104 (by decide) ?_
              refine x_goto 110 dX6_named_106 (by decide) ?_
              refine y_istore_n 111 rfl dX6_named_110 rfl rfl (ls' := [_, _, _]) rfl (by decide) ?_
              refine x_aload_n 112 rfl dX6_named_111 0 rfl rfl ?_
              refine x_bipush 114 rfl dX6_named_112 (by decide) ?_
              refine x_cVi 117 rfl lX6_66 dX6_named_114 (lyl32 hL) (lys32 hL) (c_X6_stands1 hL hT hC (s := g_ad (g_pa s)) hlt1 kp31) rfl rfl (Nat.le_of_ble_eq_true rfl) (fun r M1 hr1 => ?_)
              rcases hr1 with ⟨hx, rfl, hM1⟩ | ⟨hx, rfl, hM1⟩
              · rw [hM1]
                have h35 := (hC.2 (s.1 + 1) hlt1).2.1
                have hv1 := hT.2.2.2 (s.1 + 1) hlt1
                have hx : c (s.1 + 1) = 50 := hx
                refine x_if_eq 120 176 rfl dX6_named_117 (by decide) (fun c117 => ?_) (fun c117 => ?_)
                · exfalso; omega
                · refine x_aload_n 121 rfl dX6_named_120 0 rfl rfl ?_
                  refine x_getr 124 rfl fX6_18 dX6_named_121 (lyl32 hL) (lys32 hL) (by decide) (35) rfl ?_
                  refine x_aload_n 125 rfl dX6_named_124 0 rfl rfl ?_
                  refine x_geti 128 rfl fX6_47 dX6_named_125 (lyl32 hL) (lys32 hL) (by decide) ?_
                  try simp (disch := omega) only [z_up_ne, z_up_nk, z_up_eq, z_mup_ne, z_mup_eq, Int.reduceToNat, Int.toNat_natCast, cr_4, cr_5, cr_6, cr_7, cr_o, cr_u, cr_uo, cr_c, cr_ne, cr_w4, cr_w5, cr_w6, cr_w7, cr_wu, cr_wc]
                  refine x_iald 129 rfl dX6_named_128 (lyl35 hL) (lys35 hL) (by omega) (by omega) ?_
                  try simp (disch := omega) only [z_up_ne, z_up_nk, z_up_eq, z_mup_ne, z_mup_eq, Int.reduceToNat, Int.toNat_natCast, cr_4, cr_5, cr_6, cr_7, cr_o, cr_u, cr_uo, cr_c, cr_ne, cr_w4, cr_w5, cr_w6, cr_w7, cr_wu, cr_wc]
                  refine z_name (y' := M 35 (s.1 + 1)) rfl ?_
                  refine x_iload_n 130 rfl dX6_named_129 2 rfl rfl ?_
                  refine x_icmp_ge 133 176 rfl dX6_named_130 (by decide) (fun c130 => ?_) (fun c130 => ?_)
                  · refine x_aload_n 177 rfl dX6_named_176 0 rfl rfl ?_
                    refine x_cVu 180 rfl lX6_60 dX6_named_177 (lyl32 hL) (lys32 hL) (c_X6_fail1 hL hT hC (s := g_ad (g_pa s)) hlt1) rfl rfl (Nat.le_of_ble_eq_true rfl) (fun M1 hM1 => ?_)
                    rw [hM1]
                    refine x_goto 187 dX6_named_180 (by decide) ?_
                    refine x_retu dX6_named_187 rfl ?_
                    rw [show g_part c v o inner s = .inl (s.1 + 1) by (unfold g_part; rw [if_neg h191, if_neg hl, if_neg h50, if_pos ⟨ho, by omega⟩, if_neg (by intro hh; have h7 := hh.2; split at h7 <;> omega)])]
                    exact ⟨_, _, _, _, (by show (0 : Int) ≤ (s.2.2.1 : Int) ∧ (s.2.2.1 : Int) ≤ 400; omega), rfl⟩
                  · refine x_aload_n 134 rfl dX6_named_133 0 rfl rfl ?_
                    refine x_getr 137 rfl fX6_26 dX6_named_134 (lyl32 hL) (lys32 hL) (by decide) (36) rfl ?_
                    refine x_iconst 138 rfl dX6_named_137 (by decide) ?_
                    refine x_iload_n 139 rfl dX6_named_138 1 rfl rfl ?_
                    refine x_iconst 140 rfl dX6_named_139 (by decide) ?_
                    refine x_icmp_ne 143 148 rfl dX6_named_140 (by decide) (fun c140 => ?_) (fun c140 => ?_)
                    · exfalso; omega
                    · refine x_bipush 145 rfl dX6_named_143 (by decide) ?_
                      refine x_goto 150 dX6_named_145 (by decide) ?_
                      refine x_aload_n 151 rfl dX6_named_150 0 rfl rfl ?_
                      refine x_getr 154 rfl fX6_18 dX6_named_151 (lyl32 hL) (lys32 hL) (by decide) (35) rfl ?_
                      refine x_aload_n 155 rfl dX6_named_154 0 rfl rfl ?_
                      refine x_geti 158 rfl fX6_47 dX6_named_155 (lyl32 hL) (lys32 hL) (by decide) ?_
                      try simp (disch := omega) only [z_up_ne, z_up_nk, z_up_eq, z_mup_ne, z_mup_eq, Int.reduceToNat, Int.toNat_natCast, cr_4, cr_5, cr_6, cr_7, cr_o, cr_u, cr_uo, cr_c, cr_ne, cr_w4, cr_w5, cr_w6, cr_w7, cr_wu, cr_wc]
                      refine x_iald 159 rfl dX6_named_158 (lyl35 hL) (lys35 hL) (by omega) (by omega) ?_
                      try simp (disch := omega) only [z_up_ne, z_up_nk, z_up_eq, z_mup_ne, z_mup_eq, Int.reduceToNat, Int.toNat_natCast, cr_4, cr_5, cr_6, cr_7, cr_o, cr_u, cr_uo, cr_c, cr_ne, cr_w4, cr_w5, cr_w6, cr_w7, cr_wu, cr_wc]
                      refine z_name (y' := M 35 (s.1 + 1)) rfl ?_
                      refine y_iadd 160 rfl dX6_named_159 (by omega) ?_
                      refine x_cVu 163 rfl lX6_127 dX6_named_160 (lyl36 hL) (lys36 hL) (c_X9_em1 hL (s := g_ad (g_pa s)) (by have := hT.lt hA1 (show c s.1 ≠ 0 by omega); show s.2.2.1 < 400; omega) (by decide) (by omega)) rfl rfl (Nat.le_of_ble_eq_true rfl) (fun M1 hM1 => ?_)
                      rw [hM1]
                      refine x_aload_n 164 rfl dX6_named_163 0 rfl rfl ?_
                      refine x_dupr 165 rfl dX6_named_164 ?_
                      refine x_geti 168 rfl fX6_47 dX6_named_165 (lyl32 hL) (lys32 hL) (by decide) ?_
                      try simp (disch := omega) only [z_up_ne, z_up_nk, z_up_eq, z_mup_ne, z_mup_eq, Int.reduceToNat, Int.toNat_natCast, cr_4, cr_5, cr_6, cr_7, cr_o, cr_u, cr_uo, cr_c, cr_ne, cr_w4, cr_w5, cr_w6, cr_w7, cr_wu, cr_wc]
                      refine x_iconst 169 rfl dX6_named_168 (by decide) ?_
                      refine y_iadd 170 rfl dX6_named_169 (by simp only [g_em, g_ad, g_pa]; omega) ?_
                      refine x_puti 173 rfl fX6_47 dX6_named_170 (lyl32 hL) (lys32 hL) (by decide) ?_
                      try simp only [cr_4, cr_5, cr_6, cr_7, cr_o, cr_u, cr_uo, cr_c, cr_ne, cr_w4, cr_w5, cr_w6, cr_w7, cr_wu, cr_wc]
                      rw [cr_ad (g_em (g_ad (g_pa s)) _)]
                      refine x_goto 180 dX6_named_173 (by decide) ?_
                      refine x_goto 187 dX6_named_180 (by decide) ?_
                      refine x_retu dX6_named_187 rfl ?_
                      rw [show g_part c v o inner s = .inr (g_em (g_ad (g_lf s)) (2 + 16 * ((if c s.1 = 14 then 13 else 21) + v (s.1 + 1))), fun e => some (e (c s.1) (v (s.1 + 1)))) by (unfold g_part; rw [if_neg h191, if_neg hl, if_neg h50, if_pos ⟨ho, by omega⟩, if_pos ⟨hx, by split <;> omega⟩])]
                      rw [show (if c s.1 = 14 then (13 : Int) else 21) = 13 by split <;> omega, show v (s.1 + 1) = M 35 (s.1 + 1) by omega]
                      rfl
              · rw [hM1]
                have hx : c (s.1 + 1) ≠ 50 := hx
                refine x_if_eq 120 176 rfl dX6_named_117 (by decide) (fun c117 => ?_) (fun c117 => ?_)
                · refine x_aload_n 177 rfl dX6_named_176 0 rfl rfl ?_
                  refine x_cVu 180 rfl lX6_60 dX6_named_177 (lyl32 hL) (lys32 hL) (c_X6_fail1 hL hT hC (s := g_ad (g_pa s)) hlt1) rfl rfl (Nat.le_of_ble_eq_true rfl) (fun M1 hM1 => ?_)
                  rw [hM1]
                  refine x_goto 187 dX6_named_180 (by decide) ?_
                  refine x_retu dX6_named_187 rfl ?_
                  rw [show g_part c v o inner s = .inl (s.1 + 1) by (unfold g_part; rw [if_neg h191, if_neg hl, if_neg h50, if_pos ⟨ho, by omega⟩, if_neg (by intro hh; have h7 := hh.2; split at h7 <;> omega)])]
                  exact ⟨_, _, _, _, (by show (0 : Int) ≤ (s.2.2.1 : Int) ∧ (s.2.2.1 : Int) ≤ 400; omega), rfl⟩
                · exfalso; omega
          · refine x_iload_n 85 rfl dX6_named_84 1 rfl rfl ?_
            refine x_iconst 86 rfl dX6_named_85 (by decide) ?_
            refine x_icmp_ne 89 183 rfl dX6_named_86 (by decide) (fun c86 => ?_) (fun c86 => ?_)
            · have h14 : c s.1 ≠ 14 := fun h => c81 (by have := k3.mpr h; omega)
              have h15 : c s.1 ≠ 15 := fun h => c86 (by have := k4.mpr h; omega)
              refine x_aload_n 184 rfl dX6_named_183 0 rfl rfl ?_
              refine x_cVu 187 rfl lX6_60 dX6_named_184 (lyl32 hL) (lys32 hL) (c_X6_fail1 hL hT hC (s := g_pa s) hA1) rfl rfl (Nat.le_of_ble_eq_true rfl) (fun M1 hM1 => ?_)
              rw [hM1]
              refine x_retu dX6_named_187 rfl ?_
              rw [show g_part c v o inner s = .inl s.1 by (unfold g_part; rw [if_neg h191, if_neg hl, if_neg h50, if_neg (by intro hh; first | exact ho hh.1 | omega), if_neg (by intro hh; first | (rw [if_pos ho, if_pos ho] at hh; omega) | (rw [if_neg ho, if_neg ho] at hh; omega))])]
              exact ⟨_, _, _, _, (by show (0 : Int) ≤ (s.2.2.1 : Int) ∧ (s.2.2.1 : Int) ≤ 400; omega), rfl⟩
            · have h15 : c s.1 = 15 := k4.mp (by omega)
              have hlt1 : s.1 < n := hT.lt hA1 (show c s.1 ≠ 0 by omega)
              refine x_aload_n 90 rfl dX6_named_89 0 rfl rfl ?_
              refine x_dupr 91 rfl dX6_named_90 ?_
              refine x_geti 94 rfl fX6_47 dX6_named_91 (lyl32 hL) (lys32 hL) (by decide) ?_
              try simp (disch := omega) only [z_up_ne, z_up_nk, z_up_eq, z_mup_ne, z_mup_eq, Int.reduceToNat, Int.toNat_natCast, cr_4, cr_5, cr_6, cr_7, cr_o, cr_u, cr_uo, cr_c, cr_ne, cr_w4, cr_w5, cr_w6, cr_w7, cr_wu, cr_wc]
              refine x_iconst 95 rfl dX6_named_94 (by decide) ?_
              refine y_iadd 96 rfl dX6_named_95 (by simp only [g_pa]; omega) ?_
              refine x_puti 99 rfl fX6_47 dX6_named_96 (lyl32 hL) (lys32 hL) (by decide) ?_
              try simp only [cr_4, cr_5, cr_6, cr_7, cr_o, cr_u, cr_uo, cr_c, cr_ne, cr_w4, cr_w5, cr_w6, cr_w7, cr_wu, cr_wc]
              rw [cr_ad (g_pa s)]
              refine x_iload_n 100 rfl dX6_named_99 1 rfl rfl ?_
              refine x_iconst 101 rfl dX6_named_100 (by decide) ?_
              refine x_icmp_ne 104 109 rfl dX6_named_101 (by decide) (fun c101 => ?_) (fun c101 => ?_)
              · refine x_iconst 110 rfl dX6_named_109 (by decide) ?_
                refine y_istore_n 111 rfl dX6_named_110 rfl rfl (ls' := [_, _, _]) rfl (by decide) ?_
                refine x_aload_n 112 rfl dX6_named_111 0 rfl rfl ?_
                refine x_bipush 114 rfl dX6_named_112 (by decide) ?_
                refine x_cVi 117 rfl lX6_66 dX6_named_114 (lyl32 hL) (lys32 hL) (c_X6_stands1 hL hT hC (s := g_ad (g_pa s)) hlt1 kp31) rfl rfl (Nat.le_of_ble_eq_true rfl) (fun r M1 hr1 => ?_)
                rcases hr1 with ⟨hx, rfl, hM1⟩ | ⟨hx, rfl, hM1⟩
                · rw [hM1]
                  have h35 := (hC.2 (s.1 + 1) hlt1).2.1
                  have hv1 := hT.2.2.2 (s.1 + 1) hlt1
                  have hx : c (s.1 + 1) = 50 := hx
                  refine x_if_eq 120 176 rfl dX6_named_117 (by decide) (fun c117 => ?_) (fun c117 => ?_)
                  · exfalso; omega
                  · refine x_aload_n 121 rfl dX6_named_120 0 rfl rfl ?_
                    refine x_getr 124 rfl fX6_18 dX6_named_121 (lyl32 hL) (lys32 hL) (by decide) (35) rfl ?_
                    refine x_aload_n 125 rfl dX6_named_124 0 rfl rfl ?_
                    refine x_geti 128 rfl fX6_47 dX6_named_125 (lyl32 hL) (lys32 hL) (by decide) ?_
                    try simp (disch := omega) only [z_up_ne, z_up_nk, z_up_eq, z_mup_ne, z_mup_eq, Int.reduceToNat, Int.toNat_natCast, cr_4, cr_5, cr_6, cr_7, cr_o, cr_u, cr_uo, cr_c, cr_ne, cr_w4, cr_w5, cr_w6, cr_w7, cr_wu, cr_wc]
                    refine x_iald 129 rfl dX6_named_128 (lyl35 hL) (lys35 hL) (by omega) (by omega) ?_
                    try simp (disch := omega) only [z_up_ne, z_up_nk, z_up_eq, z_mup_ne, z_mup_eq, Int.reduceToNat, Int.toNat_natCast, cr_4, cr_5, cr_6, cr_7, cr_o, cr_u, cr_uo, cr_c, cr_ne, cr_w4, cr_w5, cr_w6, cr_w7, cr_wu, cr_wc]
                    refine z_name (y' := M 35 (s.1 + 1)) rfl ?_
                    refine x_iload_n 130 rfl dX6_named_129 2 rfl rfl ?_
                    refine x_icmp_ge 133 176 rfl dX6_named_130 (by decide) (fun c130 => ?_) (fun c130 => ?_)
                    · refine x_aload_n 177 rfl dX6_named_176 0 rfl rfl ?_
                      refine x_cVu 180 rfl lX6_60 dX6_named_177 (lyl32 hL) (lys32 hL) (c_X6_fail1 hL hT hC (s := g_ad (g_pa s)) hlt1) rfl rfl (Nat.le_of_ble_eq_true rfl) (fun M1 hM1 => ?_)
                      rw [hM1]
                      refine x_goto 187 dX6_named_180 (by decide) ?_
                      refine x_retu dX6_named_187 rfl ?_
                      rw [show g_part c v o inner s = .inl (s.1 + 1) by (unfold g_part; rw [if_neg h191, if_neg hl, if_neg h50, if_pos ⟨ho, by omega⟩, if_neg (by intro hh; have h7 := hh.2; split at h7 <;> omega)])]
                      exact ⟨_, _, _, _, (by show (0 : Int) ≤ (s.2.2.1 : Int) ∧ (s.2.2.1 : Int) ≤ 400; omega), rfl⟩
                    · refine x_aload_n 134 rfl dX6_named_133 0 rfl rfl ?_
                      refine x_getr 137 rfl fX6_26 dX6_named_134 (lyl32 hL) (lys32 hL) (by decide) (36) rfl ?_
                      refine x_iconst 138 rfl dX6_named_137 (by decide) ?_
                      refine x_iload_n 139 rfl dX6_named_138 1 rfl rfl ?_
                      refine x_iconst 140 rfl dX6_named_139 (by decide) ?_
                      refine x_icmp_ne 143 148 rfl dX6_named_140 (by decide) (fun c140 => ?_) (fun c140 => ?_)
                      · refine x_bipush 150 rfl dX6_named_148 (by decide) ?_
                        refine x_aload_n 151 rfl dX6_named_150 0 rfl rfl ?_
                        refine x_getr 154 rfl fX6_18 dX6_named_151 (lyl32 hL) (lys32 hL) (by decide) (35) rfl ?_
                        refine x_aload_n 155 rfl dX6_named_154 0 rfl rfl ?_
                        refine x_geti 158 rfl fX6_47 dX6_named_155 (lyl32 hL) (lys32 hL) (by decide) ?_
                        try simp (disch := omega) only [z_up_ne, z_up_nk, z_up_eq, z_mup_ne, z_mup_eq, Int.reduceToNat, Int.toNat_natCast, cr_4, cr_5, cr_6, cr_7, cr_o, cr_u, cr_uo, cr_c, cr_ne, cr_w4, cr_w5, cr_w6, cr_w7, cr_wu, cr_wc]
                        refine x_iald 159 rfl dX6_named_158 (lyl35 hL) (lys35 hL) (by omega) (by omega) ?_
                        try simp (disch := omega) only [z_up_ne, z_up_nk, z_up_eq, z_mup_ne, z_mup_eq, Int.reduceToNat, Int.toNat_natCast, cr_4, cr_5, cr_6, cr_7, cr_o, cr_u, cr_uo, cr_c, cr_ne, cr_w4, cr_w5, cr_w6, cr_w7, cr_wu, cr_wc]
                        refine z_name (y' := M 35 (s.1 + 1)) rfl ?_
                        refine y_iadd 160 rfl dX6_named_159 (by omega) ?_
                        refine x_cVu 163 rfl lX6_127 dX6_named_160 (lyl36 hL) (lys36 hL) (c_X9_em1 hL (s := g_ad (g_pa s)) (by have := hT.lt hA1 (show c s.1 ≠ 0 by omega); show s.2.2.1 < 400; omega) (by decide) (by omega)) rfl rfl (Nat.le_of_ble_eq_true rfl) (fun M1 hM1 => ?_)
                        rw [hM1]
                        refine x_aload_n 164 rfl dX6_named_163 0 rfl rfl ?_
                        refine x_dupr 165 rfl dX6_named_164 ?_
                        refine x_geti 168 rfl fX6_47 dX6_named_165 (lyl32 hL) (lys32 hL) (by decide) ?_
                        try simp (disch := omega) only [z_up_ne, z_up_nk, z_up_eq, z_mup_ne, z_mup_eq, Int.reduceToNat, Int.toNat_natCast, cr_4, cr_5, cr_6, cr_7, cr_o, cr_u, cr_uo, cr_c, cr_ne, cr_w4, cr_w5, cr_w6, cr_w7, cr_wu, cr_wc]
                        refine x_iconst 169 rfl dX6_named_168 (by decide) ?_
                        refine y_iadd 170 rfl dX6_named_169 (by simp only [g_em, g_ad, g_pa]; omega) ?_
                        refine x_puti 173 rfl fX6_47 dX6_named_170 (lyl32 hL) (lys32 hL) (by decide) ?_
                        try simp only [cr_4, cr_5, cr_6, cr_7, cr_o, cr_u, cr_uo, cr_c, cr_ne, cr_w4, cr_w5, cr_w6, cr_w7, cr_wu, cr_wc]
                        rw [cr_ad (g_em (g_ad (g_pa s)) _)]
                        refine x_goto 180 dX6_named_173 (by decide) ?_
                        refine x_goto 187 dX6_named_180 (by decide) ?_
                        refine x_retu dX6_named_187 rfl ?_
                        rw [show g_part c v o inner s = .inr (g_em (g_ad (g_lf s)) (2 + 16 * ((if c s.1 = 14 then 13 else 21) + v (s.1 + 1))), fun e => some (e (c s.1) (v (s.1 + 1)))) by (unfold g_part; rw [if_neg h191, if_neg hl, if_neg h50, if_pos ⟨ho, by omega⟩, if_pos ⟨hx, by split <;> omega⟩])]
                        rw [show (if c s.1 = 14 then (13 : Int) else 21) = 21 by split <;> omega, show v (s.1 + 1) = M 35 (s.1 + 1) by omega]
                        rfl
                      · exfalso; omega
                · rw [hM1]
                  have hx : c (s.1 + 1) ≠ 50 := hx
                  refine x_if_eq 120 176 rfl dX6_named_117 (by decide) (fun c117 => ?_) (fun c117 => ?_)
                  · refine x_aload_n 177 rfl dX6_named_176 0 rfl rfl ?_
                    refine x_cVu 180 rfl lX6_60 dX6_named_177 (lyl32 hL) (lys32 hL) (c_X6_fail1 hL hT hC (s := g_ad (g_pa s)) hlt1) rfl rfl (Nat.le_of_ble_eq_true rfl) (fun M1 hM1 => ?_)
                    rw [hM1]
                    refine x_goto 187 dX6_named_180 (by decide) ?_
                    refine x_retu dX6_named_187 rfl ?_
                    rw [show g_part c v o inner s = .inl (s.1 + 1) by (unfold g_part; rw [if_neg h191, if_neg hl, if_neg h50, if_pos ⟨ho, by omega⟩, if_neg (by intro hh; have h7 := hh.2; split at h7 <;> omega)])]
                    exact ⟨_, _, _, _, (by show (0 : Int) ≤ (s.2.2.1 : Int) ∧ (s.2.2.1 : Int) ≤ 400; omega), rfl⟩
                  · exfalso; omega
              · exfalso; omega
      · have hlw : 16 ≤ c s.1 ∧ c s.1 ≤ 20 := by rw [← k2]; apply Classical.byContradiction; intro hh; rw [if_neg hh] at c47; omega
        refine x_aload_n 51 rfl dX6_named_50 0 rfl rfl ?_
        refine x_dupr 52 rfl dX6_named_51 ?_
        refine x_geti 55 rfl fX6_47 dX6_named_52 (lyl32 hL) (lys32 hL) (by decide) ?_
        try simp (disch := omega) only [z_up_ne, z_up_nk, z_up_eq, z_mup_ne, z_mup_eq, Int.reduceToNat, Int.toNat_natCast, cr_4, cr_5, cr_6, cr_7, cr_o, cr_u, cr_uo, cr_c, cr_ne, cr_w4, cr_w5, cr_w6, cr_w7, cr_wu, cr_wc]
        refine x_iconst 56 rfl dX6_named_55 (by decide) ?_
        refine y_iadd 57 rfl dX6_named_56 (by simp only [g_pa]; omega) ?_
        refine x_puti 60 rfl fX6_47 dX6_named_57 (lyl32 hL) (lys32 hL) (by decide) ?_
        try simp only [cr_4, cr_5, cr_6, cr_7, cr_o, cr_u, cr_uo, cr_c, cr_ne, cr_w4, cr_w5, cr_w6, cr_w7, cr_wu, cr_wc]
        rw [cr_ad (g_pa s)]
        refine x_aload_n 61 rfl dX6_named_60 0 rfl rfl ?_
        refine x_getr 64 rfl fX6_26 dX6_named_61 (lyl32 hL) (lys32 hL) (by decide) (36) rfl ?_
        refine x_iconst 65 rfl dX6_named_64 (by decide) ?_
        refine x_iload_n 66 rfl dX6_named_65 1 rfl rfl ?_
        refine x_cVu 69 rfl lX6_127 dX6_named_66 (lyl36 hL) (lys36 hL) (c_X9_em1 hL (s := g_ad (g_pa s)) (by have := hT.lt hA1 (show c s.1 ≠ 0 by omega); show s.2.2.1 < 400; omega) (by decide) (by omega)) rfl rfl (Nat.le_of_ble_eq_true rfl) (fun M1 hM1 => ?_)
        rw [hM1]
        refine x_goto 187 dX6_named_69 (by decide) ?_
        refine x_retu dX6_named_187 rfl ?_
        rw [show g_part c v o inner s = .inr (g_em (g_lf s) (2 + 16 * M 33 s.1), fun e => some (e (c s.1) 0)) by (rw [kst_nz hT hC hA1 (by omega)]; unfold g_part; rw [if_neg h191, if_neg hl, if_neg h50, if_neg (by intro hh; first | exact ho hh.1 | omega), if_pos (by first | (rw [if_pos ho, if_pos ho]; omega) | (rw [if_neg ho, if_neg ho]; omega))])]
        rfl
    · have ho : ¬ o = true := by intro h; simp [h] at hO; omega
      refine x_iload_n 34 rfl dX6_named_33 1 rfl rfl ?_
      refine x_cSi 37 rfl lX6_165 dX6_named_34 c_X6_isLawWord rfl rfl (Nat.le_of_ble_eq_true rfl) (fun r M1 hr1 => ?_)
      obtain ⟨rfl, hM1⟩ := hr1
      rw [hM1]
      refine x_if_eq 40 72 rfl dX6_named_37 (by decide) (fun c37 => ?_) (fun c37 => ?_)
      · have hlw : ¬ (8 ≤ c s.1 ∧ c s.1 ≤ 17) := by rw [← k1]; intro hh; rw [if_pos hh] at c37; omega
        refine x_aload_n 73 rfl dX6_named_72 0 rfl rfl ?_
        refine x_getz 76 rfl fX6_43 dX6_named_73 (lyl32 hL) (lys32 hL) (by decide) ?_
        try simp (disch := omega) only [z_up_ne, z_up_nk, z_up_eq, z_mup_ne, z_mup_eq, Int.reduceToNat, Int.toNat_natCast, cr_4, cr_5, cr_6, cr_7, cr_o, cr_u, cr_uo, cr_c, cr_ne, cr_w4, cr_w5, cr_w6, cr_w7, cr_wu, cr_wc]
        refine x_if_ne 79 183 rfl dX6_named_76 (by decide) (fun c76 => ?_) (fun c76 => ?_)
        · refine x_aload_n 184 rfl dX6_named_183 0 rfl rfl ?_
          refine x_cVu 187 rfl lX6_60 dX6_named_184 (lyl32 hL) (lys32 hL) (c_X6_fail1 hL hT hC (s := g_pa s) hA1) rfl rfl (Nat.le_of_ble_eq_true rfl) (fun M1 hM1 => ?_)
          rw [hM1]
          refine x_retu dX6_named_187 rfl ?_
          rw [show g_part c v o inner s = .inl s.1 by (unfold g_part; rw [if_neg h191, if_neg hl, if_neg h50, if_neg (by intro hh; first | exact ho hh.1 | omega), if_neg (by intro hh; first | (rw [if_pos ho, if_pos ho] at hh; omega) | (rw [if_neg ho, if_neg ho] at hh; omega))])]
          exact ⟨_, _, _, _, (by show (0 : Int) ≤ (s.2.2.1 : Int) ∧ (s.2.2.1 : Int) ≤ 400; omega), rfl⟩
        · exfalso; omega
      · have hlw : 8 ≤ c s.1 ∧ c s.1 ≤ 17 := by rw [← k1]; apply Classical.byContradiction; intro hh; rw [if_neg hh] at c37; omega
        refine x_goto 50 dX6_named_40 (by decide) ?_
        refine x_aload_n 51 rfl dX6_named_50 0 rfl rfl ?_
        refine x_dupr 52 rfl dX6_named_51 ?_
        refine x_geti 55 rfl fX6_47 dX6_named_52 (lyl32 hL) (lys32 hL) (by decide) ?_
        try simp (disch := omega) only [z_up_ne, z_up_nk, z_up_eq, z_mup_ne, z_mup_eq, Int.reduceToNat, Int.toNat_natCast, cr_4, cr_5, cr_6, cr_7, cr_o, cr_u, cr_uo, cr_c, cr_ne, cr_w4, cr_w5, cr_w6, cr_w7, cr_wu, cr_wc]
        refine x_iconst 56 rfl dX6_named_55 (by decide) ?_
        refine y_iadd 57 rfl dX6_named_56 (by simp only [g_pa]; omega) ?_
        refine x_puti 60 rfl fX6_47 dX6_named_57 (lyl32 hL) (lys32 hL) (by decide) ?_
        try simp only [cr_4, cr_5, cr_6, cr_7, cr_o, cr_u, cr_uo, cr_c, cr_ne, cr_w4, cr_w5, cr_w6, cr_w7, cr_wu, cr_wc]
        rw [cr_ad (g_pa s)]
        refine x_aload_n 61 rfl dX6_named_60 0 rfl rfl ?_
        refine x_getr 64 rfl fX6_26 dX6_named_61 (lyl32 hL) (lys32 hL) (by decide) (36) rfl ?_
        refine x_iconst 65 rfl dX6_named_64 (by decide) ?_
        refine x_iload_n 66 rfl dX6_named_65 1 rfl rfl ?_
        refine x_cVu 69 rfl lX6_127 dX6_named_66 (lyl36 hL) (lys36 hL) (c_X9_em1 hL (s := g_ad (g_pa s)) (by have := hT.lt hA1 (show c s.1 ≠ 0 by omega); show s.2.2.1 < 400; omega) (by decide) (by omega)) rfl rfl (Nat.le_of_ble_eq_true rfl) (fun M1 hM1 => ?_)
        rw [hM1]
        refine x_goto 187 dX6_named_69 (by decide) ?_
        refine x_retu dX6_named_187 rfl ?_
        rw [show g_part c v o inner s = .inr (g_em (g_lf s) (2 + 16 * M 33 s.1), fun e => some (e (c s.1) 0)) by (rw [kst_nz hT hC hA1 (by omega)]; unfold g_part; rw [if_neg h191, if_neg hl, if_neg h50, if_neg (by intro hh; first | exact ho hh.1 | omega), if_pos (by first | (rw [if_pos ho, if_pos ho]; omega) | (rw [if_neg ho, if_neg ho]; omega))])]
        rfl

set_option maxRecDepth 100000 in
set_option maxHeartbeats 4000000 in
theorem c_X6_part {d sz : Nat} {S : zSh} {M : zMem} (hL : LY S sz) {n : Nat} {c v : Nat → Int} (hT : TK c v n) (hC : CKr M c v n) {s : gS} (hA : gA n s) {o : Bool} (hO : M 32 8 = (if o = true then 0 else 1)) {inner : Option (gS → gR)} {br : Nat} (hdp : br ≤ 8) (hin : (inner = none ∧ br = 8) ∨ ∃ f, inner = some f ∧ br < 8 ∧ gG n f ∧ ∀ s1, gA n s1 → zX (d + 2) 0 0 mX6_sum [zn 32] sz S (cr M (s1.1 : Int) (-1) (s1.2.1 : Int) ((br : Int) + 1) (s1.2.2.1 : Int) s1.2.2.2) (zU sz S (fun M' => cro M ((br : Int) + 1) (f s1) M')))  : zX (d + 3) 0 0 mX6_part [zn 32] sz S (cr M (s.1 : Int) (-1) (s.2.1 : Int) (br : Int) (s.2.2.1 : Int) s.2.2.2) (zU sz S (fun M' => cro M (br : Int) (g_part c v o inner s) M')) := by
  have hA1 := hA.1
  have hA2 := hA.2.1
  have hA3 := hA.2.2
  have hn := hT.1
  have h3 := hC.1
  have h35 := (hC.2 s.1 hA1).2.1
  have hv0 := hT.2.2.2 s.1 hA1
  have hs9 : (g_pa s).1 = s.1 := rfl
  refine zX_of pl_RX6 [some (zn 32)] 0 rfl rfl ?_
  refine x_aload_n 1 rfl dX6_part_0 0 rfl rfl ?_
  refine x_sipush 4 rfl dX6_part_1 (by decide) ?_
  refine x_cVi 7 rfl lX6_66 dX6_part_4 (lyl32 hL) (lys32 hL) (c_X6_stands1 hL hT hC hA1 kp191) rfl rfl (Nat.le_of_ble_eq_true rfl) (fun r M1 hr1 => ?_)
  rcases hr1 with ⟨hx, rfl, hM1⟩ | ⟨hx, rfl, hM1⟩
  · rw [hM1]
    refine x_if_eq 10 30 rfl dX6_part_7 (by decide) (fun c7 => ?_) (fun c7 => ?_)
    · exfalso; omega
    · refine x_aload_n 11 rfl dX6_part_10 0 rfl rfl ?_
      refine x_cVi 14 rfl lX6_142 dX6_part_11 (lyl32 hL) (lys32 hL) (c_X6_opened hL hT hC hA1) rfl rfl (Nat.le_of_ble_eq_true rfl) (fun r M1 hr1 => ?_)
      rcases hr1 with ⟨h8, rfl, hM1⟩ | ⟨h8, rfl, hM1⟩
      · rw [hM1]
        rcases hin with ⟨hin1, h9⟩ | ⟨f, hin1, h9, hg, hfi⟩
        · exfalso; omega
        refine x_if_eq 17 132 rfl dX6_part_14 (by decide) (fun c14 => ?_) (fun c14 => ?_)
        · exfalso; omega
        · refine x_aload_n 18 rfl dX6_part_17 0 rfl rfl ?_
          refine x_cVu 21 rfl lX6_130 dX6_part_18 (lyl32 hL) (lys32 hL) (hfi (g_ad s) (gW_A hA (gW_ad hA (hT.lt hA1 (by omega))))) rfl rfl (Nat.le_of_ble_eq_true rfl) (fun M2 hr2 => ?_)
          rcases hq : f (g_ad s) with t1 | ⟨s1, w1⟩
          · rw [hq] at hr2
            obtain ⟨x1, y1, u1, cd1, hu1, hM2⟩ := hr2
            rw [hM2]
            have hf : M 34 t1 ≠ -1 := by have := (hC.2 t1 ((hg (g_ad s) (gW_A hA (gW_ad hA (hT.lt hA1 (by omega))))).1 t1 hq)).2.2; omega
            refine x_aload_n 22 rfl dX6_part_21 0 rfl rfl ?_
            refine x_bipush 24 rfl dX6_part_22 (by decide) ?_
            refine x_cVu 27 rfl lX6_146 dX6_part_24 (lyl32 hL) (lys32 hL) (c_X6_closed0 hL hf (by decide) (by omega)) rfl rfl (Nat.le_of_ble_eq_true rfl) (fun M1 hM1 => ?_)
            rw [hM1]
            refine x_goto 132 dX6_part_27 (by decide) ?_
            refine x_retu dX6_part_132 rfl ?_
            rw [show g_part c v o inner s = .inl t1 by (unfold g_part; rw [if_pos (by omega), hin1]; simp only [hq, g_bd])]
            exact ⟨_, _, _, _, hu1, rfl⟩
          · rw [hq] at hr2
            have hM2 : M2 = (cr M (s1.1 : Int) (-1) (s1.2.1 : Int) ((br : Int) + 1) (s1.2.2.1 : Int) s1.2.2.2) := hr2
            rw [hM2]
            have hA9 := gW_A (gW_A hA (gW_ad hA (hT.lt hA1 (by omega)))) ((hg (g_ad s) (gW_A hA (gW_ad hA (hT.lt hA1 (by omega))))).2 s1 w1 hq)
            refine x_aload_n 22 rfl dX6_part_21 0 rfl rfl ?_
            refine x_bipush 24 rfl dX6_part_22 (by decide) ?_
            refine x_cVu 27 rfl lX6_146 dX6_part_24 (lyl32 hL) (lys32 hL) (c_X6_closed1 hL hT hC hA9.1 (by decide) (by omega) kp193) rfl rfl (Nat.le_of_ble_eq_true rfl) (fun M3 hr3 => ?_)
            rcases hr3 with ⟨hx, hM3⟩ | ⟨hx, hM3⟩
            · rw [hM3]
              refine x_goto 132 dX6_part_27 (by decide) ?_
              refine x_retu dX6_part_132 rfl ?_
              rw [show g_part c v o inner s = .inr (g_ad s1, w1) by (unfold g_part; rw [if_pos (by omega), hin1]; simp only [hq, g_bd]; rw [if_pos (by omega)])]
              rfl
            · rw [hM3]
              refine x_goto 132 dX6_part_27 (by decide) ?_
              refine x_retu dX6_part_132 rfl ?_
              rw [show g_part c v o inner s = .inl s1.1 by (unfold g_part; rw [if_pos (by omega), hin1]; simp only [hq, g_bd]; rw [if_neg (by omega)])]
              exact ⟨_, _, _, _, (by have := hA9.1; have := hA9.2.2; omega), rfl⟩
      · rw [hM1]
        have hin1 : inner = none := by
          rcases hin with ⟨hin, h9⟩ | ⟨f, h1, h9, hg, hfi⟩
          · exact hin
          · exfalso; omega
        refine x_if_eq 17 132 rfl dX6_part_14 (by decide) (fun c14 => ?_) (fun c14 => ?_)
        · refine x_retu dX6_part_132 rfl ?_
          rw [show g_part c v o inner s = .inl s.1 by (unfold g_part; rw [if_pos (by omega), hin1])]
          exact ⟨_, _, _, _, (by show (0 : Int) ≤ (s.2.2.1 : Int) ∧ (s.2.2.1 : Int) ≤ 400; omega), rfl⟩
        · exfalso; omega
  · rw [hM1]
    have h191 : ¬ c s.1 = 191 := hx
    clear hx
    refine x_if_eq 10 30 rfl dX6_part_7 (by decide) (fun c7 => ?_) (fun c7 => ?_)
    · refine x_aload_n 31 rfl dX6_part_30 0 rfl rfl ?_
      refine x_geti 34 rfl fX6_51 dX6_part_31 (lyl32 hL) (lys32 hL) (by decide) ?_
      try simp (disch := omega) only [z_up_ne, z_up_nk, z_up_eq, z_mup_ne, z_mup_eq, Int.reduceToNat, Int.toNat_natCast, cr_4, cr_5, cr_6, cr_7, cr_o, cr_u, cr_uo, cr_c, cr_ne, cr_w4, cr_w5, cr_w6, cr_w7, cr_wu, cr_wc]
      refine x_iconst 35 rfl dX6_part_34 (by decide) ?_
      refine x_icmp_ne 38 47 rfl dX6_part_35 (by decide) (fun c35 => ?_) (fun c35 => ?_)
      · exfalso; omega
      · refine x_aload_n 39 rfl dX6_part_38 0 rfl rfl ?_
        refine x_geti 42 rfl fX6_54 dX6_part_39 (lyl32 hL) (lys32 hL) (by decide) ?_
        try simp (disch := omega) only [z_up_ne, z_up_nk, z_up_eq, z_mup_ne, z_mup_eq, Int.reduceToNat, Int.toNat_natCast, cr_4, cr_5, cr_6, cr_7, cr_o, cr_u, cr_uo, cr_c, cr_ne, cr_w4, cr_w5, cr_w6, cr_w7, cr_wu, cr_wc]
        refine x_bipush 44 rfl dX6_part_42 (by decide) ?_
        refine x_icmp_lt 47 54 rfl dX6_part_44 (by decide) (fun c44 => ?_) (fun c44 => ?_)
        · have hl : ¬ s.2.1 = 50 := by omega
          refine x_aload_n 55 rfl dX6_part_54 0 rfl rfl ?_
          refine x_bipush 57 rfl dX6_part_55 (by decide) ?_
          refine x_cVi 60 rfl lX6_66 dX6_part_57 (lyl32 hL) (lys32 hL) (c_X6_stands1 hL hT hC hA1 kp31) rfl rfl (Nat.le_of_ble_eq_true rfl) (fun r M1 hr1 => ?_)
          rcases hr1 with ⟨hx, rfl, hM1⟩ | ⟨hx, rfl, hM1⟩
          · rw [hM1]
            have hlt := hT.lt hA1 (show c s.1 ≠ 0 by omega)
            refine x_if_eq 63 118 rfl dX6_part_60 (by decide) (fun c60 => ?_) (fun c60 => ?_)
            · exfalso; omega
            · refine x_aload_n 64 rfl dX6_part_63 0 rfl rfl ?_
              refine x_getr 67 rfl fX6_18 dX6_part_64 (lyl32 hL) (lys32 hL) (by decide) (35) rfl ?_
              refine x_aload_n 68 rfl dX6_part_67 0 rfl rfl ?_
              refine x_geti 71 rfl fX6_47 dX6_part_68 (lyl32 hL) (lys32 hL) (by decide) ?_
              try simp (disch := omega) only [z_up_ne, z_up_nk, z_up_eq, z_mup_ne, z_mup_eq, Int.reduceToNat, Int.toNat_natCast, cr_4, cr_5, cr_6, cr_7, cr_o, cr_u, cr_uo, cr_c, cr_ne, cr_w4, cr_w5, cr_w6, cr_w7, cr_wu, cr_wc]
              refine x_iald 72 rfl dX6_part_71 (lyl35 hL) (lys35 hL) (by omega) (by omega) ?_
              try simp (disch := omega) only [z_up_ne, z_up_nk, z_up_eq, z_mup_ne, z_mup_eq, Int.reduceToNat, Int.toNat_natCast, cr_4, cr_5, cr_6, cr_7, cr_o, cr_u, cr_uo, cr_c, cr_ne, cr_w4, cr_w5, cr_w6, cr_w7, cr_wu, cr_wc]
              refine x_sipush 75 rfl dX6_part_72 (by decide) ?_
              refine x_icmp_gt 78 118 rfl dX6_part_75 (by decide) (fun c75 => ?_) (fun c75 => ?_)
              · refine x_aload_n 119 rfl dX6_part_118 0 rfl rfl ?_
                refine x_dupr 120 rfl dX6_part_119 ?_
                refine x_geti 123 rfl fX6_54 dX6_part_120 (lyl32 hL) (lys32 hL) (by decide) ?_
                try simp (disch := omega) only [z_up_ne, z_up_nk, z_up_eq, z_mup_ne, z_mup_eq, Int.reduceToNat, Int.toNat_natCast, cr_4, cr_5, cr_6, cr_7, cr_o, cr_u, cr_uo, cr_c, cr_ne, cr_w4, cr_w5, cr_w6, cr_w7, cr_wu, cr_wc]
                refine x_iconst 124 rfl dX6_part_123 (by decide) ?_
                refine y_iadd 125 rfl dX6_part_124 (by omega) ?_
                refine x_puti 128 rfl fX6_54 dX6_part_125 (lyl32 hL) (lys32 hL) (by decide) ?_
                try simp only [cr_4, cr_5, cr_6, cr_7, cr_o, cr_u, cr_uo, cr_c, cr_ne, cr_w4, cr_w5, cr_w6, cr_w7, cr_wu, cr_wc]
                rw [cr_pa s]
                refine x_aload_n 129 rfl dX6_part_128 0 rfl rfl ?_
                refine x_cVu 132 rfl lX6_162 dX6_part_129 (lyl32 hL) (lys32 hL) (c_X6_named hL hT hC hA hO (inner := inner) h191 hl (by omega)) rfl rfl (Nat.le_of_ble_eq_true rfl) (fun M2 hr2 => ?_)
                refine x_retu dX6_part_132 rfl ?_
                first
                  | exact hr2
                  | (rw [show g_part c v o inner s = .inr (g_em (g_lf s) (1 + 16 * M 35 s.1), fun _ => some (v s.1)) by (rw [show M 35 s.1 = v s.1 by omega]; unfold g_part; rw [if_neg h191, if_neg hl, if_pos (by omega)])]; rfl)
              · refine x_aload_n 79 rfl dX6_part_78 0 rfl rfl ?_
                refine x_dupr 80 rfl dX6_part_79 ?_
                refine x_geti 83 rfl fX6_54 dX6_part_80 (lyl32 hL) (lys32 hL) (by decide) ?_
                try simp (disch := omega) only [z_up_ne, z_up_nk, z_up_eq, z_mup_ne, z_mup_eq, Int.reduceToNat, Int.toNat_natCast, cr_4, cr_5, cr_6, cr_7, cr_o, cr_u, cr_uo, cr_c, cr_ne, cr_w4, cr_w5, cr_w6, cr_w7, cr_wu, cr_wc]
                refine x_iconst 84 rfl dX6_part_83 (by decide) ?_
                refine y_iadd 85 rfl dX6_part_84 (by omega) ?_
                refine x_puti 88 rfl fX6_54 dX6_part_85 (lyl32 hL) (lys32 hL) (by decide) ?_
                try simp only [cr_4, cr_5, cr_6, cr_7, cr_o, cr_u, cr_uo, cr_c, cr_ne, cr_w4, cr_w5, cr_w6, cr_w7, cr_wu, cr_wc]
                rw [cr_pa s]
                refine x_aload_n 89 rfl dX6_part_88 0 rfl rfl ?_
                refine x_getr 92 rfl fX6_26 dX6_part_89 (lyl32 hL) (lys32 hL) (by decide) (36) rfl ?_
                refine x_iconst 93 rfl dX6_part_92 (by decide) ?_
                refine x_aload_n 94 rfl dX6_part_93 0 rfl rfl ?_
                refine x_getr 97 rfl fX6_18 dX6_part_94 (lyl32 hL) (lys32 hL) (by decide) (35) rfl ?_
                refine x_aload_n 98 rfl dX6_part_97 0 rfl rfl ?_
                refine x_geti 101 rfl fX6_47 dX6_part_98 (lyl32 hL) (lys32 hL) (by decide) ?_
                try simp (disch := omega) only [z_up_ne, z_up_nk, z_up_eq, z_mup_ne, z_mup_eq, Int.reduceToNat, Int.toNat_natCast, cr_4, cr_5, cr_6, cr_7, cr_o, cr_u, cr_uo, cr_c, cr_ne, cr_w4, cr_w5, cr_w6, cr_w7, cr_wu, cr_wc]
                refine x_iald 102 rfl dX6_part_101 (lyl35 hL) (lys35 hL) (by omega) (by omega) ?_
                try simp (disch := omega) only [z_up_ne, z_up_nk, z_up_eq, z_mup_ne, z_mup_eq, Int.reduceToNat, Int.toNat_natCast, cr_4, cr_5, cr_6, cr_7, cr_o, cr_u, cr_uo, cr_c, cr_ne, cr_w4, cr_w5, cr_w6, cr_w7, cr_wu, cr_wc]
                refine z_name (y' := M 35 s.1) rfl ?_
                refine x_cVu 105 rfl lX6_127 dX6_part_102 (lyl36 hL) (lys36 hL) (c_X9_em1 hL (s := g_pa s) (by show s.2.2.1 < 400; omega) (by decide) (by omega)) rfl rfl (Nat.le_of_ble_eq_true rfl) (fun M1 hM1 => ?_)
                rw [hM1]
                refine x_aload_n 106 rfl dX6_part_105 0 rfl rfl ?_
                refine x_dupr 107 rfl dX6_part_106 ?_
                refine x_geti 110 rfl fX6_47 dX6_part_107 (lyl32 hL) (lys32 hL) (by decide) ?_
                try simp (disch := omega) only [z_up_ne, z_up_nk, z_up_eq, z_mup_ne, z_mup_eq, Int.reduceToNat, Int.toNat_natCast, cr_4, cr_5, cr_6, cr_7, cr_o, cr_u, cr_uo, cr_c, cr_ne, cr_w4, cr_w5, cr_w6, cr_w7, cr_wu, cr_wc]
                refine x_iconst 111 rfl dX6_part_110 (by decide) ?_
                refine y_iadd 112 rfl dX6_part_111 (by simp only [g_em, g_pa]; omega) ?_
                refine x_puti 115 rfl fX6_47 dX6_part_112 (lyl32 hL) (lys32 hL) (by decide) ?_
                try simp only [cr_4, cr_5, cr_6, cr_7, cr_o, cr_u, cr_uo, cr_c, cr_ne, cr_w4, cr_w5, cr_w6, cr_w7, cr_wu, cr_wc]
                rw [cr_ad (g_em (g_pa s) _)]
                refine x_goto 132 dX6_part_115 (by decide) ?_
                refine x_retu dX6_part_132 rfl ?_
                first
                  | exact hr2
                  | (rw [show g_part c v o inner s = .inr (g_em (g_lf s) (1 + 16 * M 35 s.1), fun _ => some (v s.1)) by (rw [show M 35 s.1 = v s.1 by omega]; unfold g_part; rw [if_neg h191, if_neg hl, if_pos (by omega)])]; rfl)
          · rw [hM1]
            refine x_if_eq 63 118 rfl dX6_part_60 (by decide) (fun c60 => ?_) (fun c60 => ?_)
            · refine x_aload_n 119 rfl dX6_part_118 0 rfl rfl ?_
              refine x_dupr 120 rfl dX6_part_119 ?_
              refine x_geti 123 rfl fX6_54 dX6_part_120 (lyl32 hL) (lys32 hL) (by decide) ?_
              try simp (disch := omega) only [z_up_ne, z_up_nk, z_up_eq, z_mup_ne, z_mup_eq, Int.reduceToNat, Int.toNat_natCast, cr_4, cr_5, cr_6, cr_7, cr_o, cr_u, cr_uo, cr_c, cr_ne, cr_w4, cr_w5, cr_w6, cr_w7, cr_wu, cr_wc]
              refine x_iconst 124 rfl dX6_part_123 (by decide) ?_
              refine y_iadd 125 rfl dX6_part_124 (by omega) ?_
              refine x_puti 128 rfl fX6_54 dX6_part_125 (lyl32 hL) (lys32 hL) (by decide) ?_
              try simp only [cr_4, cr_5, cr_6, cr_7, cr_o, cr_u, cr_uo, cr_c, cr_ne, cr_w4, cr_w5, cr_w6, cr_w7, cr_wu, cr_wc]
              rw [cr_pa s]
              refine x_aload_n 129 rfl dX6_part_128 0 rfl rfl ?_
              refine x_cVu 132 rfl lX6_162 dX6_part_129 (lyl32 hL) (lys32 hL) (c_X6_named hL hT hC hA hO (inner := inner) h191 hl (by omega)) rfl rfl (Nat.le_of_ble_eq_true rfl) (fun M2 hr2 => ?_)
              refine x_retu dX6_part_132 rfl ?_
              first
                | exact hr2
                | (rw [show g_part c v o inner s = .inr (g_em (g_lf s) (1 + 16 * M 35 s.1), fun _ => some (v s.1)) by (rw [show M 35 s.1 = v s.1 by omega]; unfold g_part; rw [if_neg h191, if_neg hl, if_pos (by omega)])]; rfl)
            · exfalso; omega
        · refine x_aload_n 48 rfl dX6_part_47 0 rfl rfl ?_
          refine x_cVu 51 rfl lX6_60 dX6_part_48 (lyl32 hL) (lys32 hL) (c_X6_fail1 hL hT hC hA1) rfl rfl (Nat.le_of_ble_eq_true rfl) (fun M1 hM1 => ?_)
          rw [hM1]
          refine x_goto 132 dX6_part_51 (by decide) ?_
          refine x_retu dX6_part_132 rfl ?_
          rw [show g_part c v o inner s = .inl s.1 by (unfold g_part; rw [if_neg h191, if_pos (by omega)])]
          exact ⟨_, _, _, _, (by show (0 : Int) ≤ (s.2.2.1 : Int) ∧ (s.2.2.1 : Int) ≤ 400; omega), rfl⟩
    · exfalso; omega
