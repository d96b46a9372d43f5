/-! row -/
def rwM (M : zMem) (k : Nat → Int) (s : Int) : zMem := z_up (z_up (z_mup M 57 k) 55 13 0) 55 6 s
theorem rwM_57 {M : zMem} {k : Nat → Int} {s : Int} : rwM M k s 57 = k := by
  unfold rwM; rw [z_up_ne (by decide), z_up_ne (by decide), z_mup_eq]
theorem rwM_62 {M : zMem} {k : Nat → Int} {s : Int} : rwM M k s 62 = M 62 := by
  unfold rwM; rw [z_up_ne (by decide), z_up_ne (by decide), z_mup_ne (by decide)]
theorem rwM_6 {M : zMem} {k : Nat → Int} {s : Int} : rwM M k s 55 6 = s := by
  unfold rwM; rw [z_up_eq]
theorem rwM_mup {M : zMem} {k k' : Nat → Int} {s : Int} : z_mup (rwM M k s) 57 k' = rwM M k' s := by
  funext i j
  unfold rwM z_mup z_up
  by_cases h : i = 57
  · subst h; simp
  · simp [h]
theorem rwM_up {M : zMem} {k : Nat → Int} {s s' : Int} : z_up (rwM M k s) 55 6 s' = rwM M k s' := by
  funext i j
  unfold rwM z_up
  by_cases h : i = 55 ∧ j = 6
  · rw [if_pos h, if_pos h]
  · rw [if_neg h, if_neg h, if_neg h]
theorem rwM_0 {M : zMem} {s : Int} : z_up (z_up M 55 13 0) 55 6 s = rwM M (M 57) s := by
  unfold rwM; rw [z_mup_self]
theorem SR_out {M : zMem} {a : Nat} {k : Nat → Int} (h : SR M a k) {b j : Nat} {v : Int} (hb : b < a ∨ a + 10 ≤ b) : SR (z_up M b j v) a k := SR_frame h (fun i h1 h2 => z_up_ne (by omega))

set_option maxRecDepth 100000 in
set_option maxHeartbeats 4000000 in
theorem c_X11_row {d sz : Nat} {S : zSh} {M : zMem} (hL : LY S sz) (hi : KI (M 57)) (hr : ∀ i, i < 7 → 0 ≤ M 56 i ∧ M 56 i ≤ 1000000) (hz0 : 0 ≤ M 55 13 ∧ M 55 13 ≤ 400) : zX (d + 2) 0 0 mX11_row [zn 55] sz S M (zI sz S (fun r M' => (M 55 13 = 0 ∧ r = -6 ∧ M' = zRef (z_up M 55 13 0) (-6)) ∨ (0 < M 55 13 ∧ r = (zrow (M 62) (M 57) (M 55 13 / 4).toNat).2 ∧ M' = z_up (z_up (rwM M (zrow (M 62) (M 57) (M 55 13 / 4).toNat).1 ((if M 55 13 % 4 = 0 then 0 else 1) + (M 55 13 / 4) - (zrow (M 62) (M 57) (M 55 13 / 4).toNat).2)) 55 32 0) 55 0 0))) := by
  have loop : 0 < M 55 13 → ∀ (q n : Nat) (c y s : Int) (kk : Nat → Int), (M 55 13 / 4).toNat < q + n → n ≤ (M 55 13 / 4).toNat → y = 4 * (n : Int) → zrow (M 62) (M 57) n = (kk, c) → s = (if M 55 13 % 4 = 0 then 0 else 1) + (n : Int) - c → zW mX11_row (d + 2) 0 0 [] (zI sz S (fun r M' => (M 55 13 = 0 ∧ r = -6 ∧ M' = zRef (z_up M 55 13 0) (-6)) ∨ (0 < M 55 13 ∧ r = (zrow (M 62) (M 57) (M 55 13 / 4).toNat).2 ∧ M' = z_up (z_up (rwM M (zrow (M 62) (M 57) (M 55 13 / 4).toNat).1 ((if M 55 13 % 4 = 0 then 0 else 1) + (M 55 13 / 4) - (zrow (M 62) (M 57) (M 55 13 / 4).toNat).2)) 55 32 0) 55 0 0))) 40 [some (zn 55), some (zi (M 55 13)), some (zi c), some (zi y), none] [] sz S (rwM M kk s) := by
    intro hz9 q
    induction q with
    | zero => intro n c y s kk hq hn; omega
    | succ q ih =>
      intro n c y s kk hq hn hy hz hs
      have hc := zrow_c (f := M 62) (k := M 57) n
      rw [hz] at hc
      have hc : 0 ≤ c ∧ c ≤ (n : Int) := hc
      have hk := zrow_KI (f := M 62) hi n
      rw [hz] at hk
      have hk : KI kk := hk
      have ey : y.toNat = 4 * n := by omega
      have ey1 : (y + 1).toNat = 4 * n + 1 := by omega
      have ey2 : (y + 2).toNat = 4 * n + 2 := by omega
      have ey3 : (y + 3).toNat = 4 * n + 3 := by omega
      refine x_iload_n 41 rfl dX11_row_40 3 rfl rfl ?_
      refine x_iconst 42 rfl dX11_row_41 (by decide) ?_
      refine y_iadd 43 rfl dX11_row_42 (by omega) ?_
      refine x_iload_n 44 rfl dX11_row_43 1 rfl rfl ?_
      refine x_icmp_gt 47 178 rfl dX11_row_44 (by decide) (fun c44 => ?_) (fun c44 => ?_)
      · refine x_aload_n 179 rfl dX11_row_178 0 rfl rfl ?_
        refine x_iload_n 180 rfl dX11_row_179 2 rfl rfl ?_
        refine x_cVi 183 rfl lX11_97 dX11_row_180 (lyl55 hL) (lys55 hL) (c_X11_settled hL) rfl rfl (Nat.le_of_ble_eq_true rfl) (fun r3 M3 hr3 => ?_)
        obtain ⟨hr4, hM3⟩ := hr3
        refine x_reti dX11_row_183 rfl ?_
        refine Or.inr ⟨hz9, ?_⟩
        have en : (M 55 13 / 4).toNat = n := by omega
        rw [en, hz]
        refine ⟨hr4, ?_⟩
        rw [hM3, show (M 55 13 / 4) = (n : Int) by omega, ← hs]
      · refine x_aload_n 48 rfl dX11_row_47 0 rfl rfl ?_
        refine x_getr 51 rfl fX11_24 dX11_row_48 (lyl55 hL) (lys55 hL) (by decide) (57) rfl ?_
        refine x_bipush 53 rfl dX11_row_51 (by decide) ?_
        refine x_ialk 54 rfl dX11_row_53 (lyl57 hL) (lys57 hL) 76 rfl (by decide) ?_
        try simp (disch := omega) only [z_up_ne, z_up_nk, z_up_eq, z_mup_ne, z_mup_eq, Int.reduceToNat, Int.toNat_natCast, rwM_57, rwM_62, rwM_6]
        refine x_iconst 55 rfl dX11_row_54 (by decide) ?_
        refine x_icmp_ge 58 98 rfl dX11_row_55 (by decide) (fun c55 => ?_) (fun c55 => ?_)
        · have hg : ¬ zgc kk (M 62 (4 * n)) (M 62 (4 * n + 1)) (M 62 (4 * n + 2)) (M 62 (4 * n + 3)) := fun h9 => by have := h9.1; omega
          have hg2 := zrow_n (f := M 62) (k := M 57) (i := n) (by rw [hz]; exact hg)
          rw [hz] at hg2
          refine x_iconst 99 rfl dX11_row_98 (by decide) ?_
          refine y_istore 101 rfl dX11_row_99 rfl (ls' := [_, _, _, _, _]) rfl (by decide) ?_
          refine x_iload 103 rfl dX11_row_101 rfl ?_
          refine x_if_eq 106 140 rfl dX11_row_103 (by decide) (fun c103 => ?_) (fun c103 => ?_)
          · refine x_iload_n 141 rfl dX11_row_140 2 rfl rfl ?_
            refine x_iload 143 rfl dX11_row_141 rfl ?_
            refine x_if_eq 146 150 rfl dX11_row_143 (by decide) (fun c143 => ?_) (fun c143 => ?_)
            · refine x_iconst 151 rfl dX11_row_150 (by decide) ?_
              refine y_iadd 152 rfl dX11_row_151 (by omega) ?_
              refine y_istore_n 153 rfl dX11_row_152 rfl rfl (ls' := [_, _, _, _, _]) rfl (by decide) ?_
              refine x_aload_n 154 rfl dX11_row_153 0 rfl rfl ?_
              refine x_dupr 155 rfl dX11_row_154 ?_
              refine x_geti 158 rfl fX11_146 dX11_row_155 (lyl55 hL) (lys55 hL) (by decide) ?_
              try simp (disch := omega) only [z_up_ne, z_up_nk, z_up_eq, z_mup_ne, z_mup_eq, Int.reduceToNat, Int.toNat_natCast, rwM_57, rwM_62, rwM_6]
              refine x_iload 160 rfl dX11_row_158 rfl ?_
              refine x_if_eq 163 167 rfl dX11_row_160 (by decide) (fun c160 => ?_) (fun c160 => ?_)
              · refine x_iconst 168 rfl dX11_row_167 (by decide) ?_
                refine y_iadd 169 rfl dX11_row_168 (by omega) ?_
                refine x_puti 172 rfl fX11_146 dX11_row_169 (lyl55 hL) (lys55 hL) (by decide) ?_
                try simp only [rwM_57, rwM_62, rwM_6]
                rw [rwM_up]
                refine w_iinc 175 rfl dX11_row_172 rfl (by decide) (by omega) rfl (ls' := [_, _, _, _, _]) rfl (by decide) ?_
                refine x_goto 40 dX11_row_175 (by decide) ?_
                refine z_wk (ls' := [some (zn 55), some (zi (M 55 13)), some (zi _), some (zi _), none]) ⟨rfl, rfl, rfl, rfl, trivial⟩ (ih (n + 1) _ _ _ _ (by omega) (by omega) (by omega) (by rw [hg2]; simp) (by omega))
              · exfalso; omega
            · exfalso; omega
          · exfalso; omega
        · refine x_aload_n 59 rfl dX11_row_58 0 rfl rfl ?_
          refine x_getr 62 rfl fX11_41 dX11_row_59 (lyl55 hL) (lys55 hL) (by decide) (62) rfl ?_
          refine x_iload_n 63 rfl dX11_row_62 3 rfl rfl ?_
          refine x_bald 64 rfl dX11_row_63 (lyl62 hL) (lys62 hL) (by omega) (by omega) ?_
          try simp (disch := omega) only [z_up_ne, z_up_nk, z_up_eq, z_mup_ne, z_mup_eq, Int.reduceToNat, Int.toNat_natCast, rwM_57, rwM_62, rwM_6]
          rw [ey]
          refine x_aload_n 65 rfl dX11_row_64 0 rfl rfl ?_
          refine x_getr 68 rfl fX11_41 dX11_row_65 (lyl55 hL) (lys55 hL) (by decide) (62) rfl ?_
          refine x_iload_n 69 rfl dX11_row_68 3 rfl rfl ?_
          refine x_iconst 70 rfl dX11_row_69 (by decide) ?_
          refine y_iadd 71 rfl dX11_row_70 (by omega) ?_
          refine x_bald 72 rfl dX11_row_71 (lyl62 hL) (lys62 hL) (by omega) (by omega) ?_
          try simp (disch := omega) only [z_up_ne, z_up_nk, z_up_eq, z_mup_ne, z_mup_eq, Int.reduceToNat, Int.toNat_natCast, rwM_57, rwM_62, rwM_6]
          rw [ey1]
          refine x_aload_n 73 rfl dX11_row_72 0 rfl rfl ?_
          refine x_getr 76 rfl fX11_41 dX11_row_73 (lyl55 hL) (lys55 hL) (by decide) (62) rfl ?_
          refine x_iload_n 77 rfl dX11_row_76 3 rfl rfl ?_
          refine x_iconst 78 rfl dX11_row_77 (by decide) ?_
          refine y_iadd 79 rfl dX11_row_78 (by omega) ?_
          refine x_bald 80 rfl dX11_row_79 (lyl62 hL) (lys62 hL) (by omega) (by omega) ?_
          try simp (disch := omega) only [z_up_ne, z_up_nk, z_up_eq, z_mup_ne, z_mup_eq, Int.reduceToNat, Int.toNat_natCast, rwM_57, rwM_62, rwM_6]
          rw [ey2]
          refine x_aload_n 81 rfl dX11_row_80 0 rfl rfl ?_
          refine x_getr 84 rfl fX11_41 dX11_row_81 (lyl55 hL) (lys55 hL) (by decide) (62) rfl ?_
          refine x_iload_n 85 rfl dX11_row_84 3 rfl rfl ?_
          refine x_iconst 86 rfl dX11_row_85 (by decide) ?_
          refine y_iadd 87 rfl dX11_row_86 (by omega) ?_
          refine x_bald 88 rfl dX11_row_87 (lyl62 hL) (lys62 hL) (by omega) (by omega) ?_
          try simp (disch := omega) only [z_up_ne, z_up_nk, z_up_eq, z_mup_ne, z_mup_eq, Int.reduceToNat, Int.toNat_natCast, rwM_57, rwM_62, rwM_6]
          rw [ey3]
          refine x_cSi 91 rfl lX11_121 dX11_row_88 c_X11_canGround rfl rfl (Nat.le_of_ble_eq_true rfl) (fun r1 M1 hr1 => ?_)
          obtain ⟨hr2, hM1⟩ := hr1
          rw [hM1]
          refine x_if_eq 94 98 rfl dX11_row_91 (by decide) (fun c91 => ?_) (fun c91 => ?_)
          · have hg : ¬ zgc kk (M 62 (4 * n)) (M 62 (4 * n + 1)) (M 62 (4 * n + 2)) (M 62 (4 * n + 3)) := fun h9 => by rw [if_pos h9.2] at hr2; omega
            have hg2 := zrow_n (f := M 62) (k := M 57) (i := n) (by rw [hz]; exact hg)
            rw [hz] at hg2
            refine x_iconst 99 rfl dX11_row_98 (by decide) ?_
            refine y_istore 101 rfl dX11_row_99 rfl (ls' := [_, _, _, _, _]) rfl (by decide) ?_
            refine x_iload 103 rfl dX11_row_101 rfl ?_
            refine x_if_eq 106 140 rfl dX11_row_103 (by decide) (fun c103 => ?_) (fun c103 => ?_)
            · refine x_iload_n 141 rfl dX11_row_140 2 rfl rfl ?_
              refine x_iload 143 rfl dX11_row_141 rfl ?_
              refine x_if_eq 146 150 rfl dX11_row_143 (by decide) (fun c143 => ?_) (fun c143 => ?_)
              · refine x_iconst 151 rfl dX11_row_150 (by decide) ?_
                refine y_iadd 152 rfl dX11_row_151 (by omega) ?_
                refine y_istore_n 153 rfl dX11_row_152 rfl rfl (ls' := [_, _, _, _, _]) rfl (by decide) ?_
                refine x_aload_n 154 rfl dX11_row_153 0 rfl rfl ?_
                refine x_dupr 155 rfl dX11_row_154 ?_
                refine x_geti 158 rfl fX11_146 dX11_row_155 (lyl55 hL) (lys55 hL) (by decide) ?_
                try simp (disch := omega) only [z_up_ne, z_up_nk, z_up_eq, z_mup_ne, z_mup_eq, Int.reduceToNat, Int.toNat_natCast, rwM_57, rwM_62, rwM_6]
                refine x_iload 160 rfl dX11_row_158 rfl ?_
                refine x_if_eq 163 167 rfl dX11_row_160 (by decide) (fun c160 => ?_) (fun c160 => ?_)
                · refine x_iconst 168 rfl dX11_row_167 (by decide) ?_
                  refine y_iadd 169 rfl dX11_row_168 (by omega) ?_
                  refine x_puti 172 rfl fX11_146 dX11_row_169 (lyl55 hL) (lys55 hL) (by decide) ?_
                  try simp only [rwM_57, rwM_62, rwM_6]
                  rw [rwM_up]
                  refine w_iinc 175 rfl dX11_row_172 rfl (by decide) (by omega) rfl (ls' := [_, _, _, _, _]) rfl (by decide) ?_
                  refine x_goto 40 dX11_row_175 (by decide) ?_
                  refine z_wk (ls' := [some (zn 55), some (zi (M 55 13)), some (zi _), some (zi _), none]) ⟨rfl, rfl, rfl, rfl, trivial⟩ (ih (n + 1) _ _ _ _ (by omega) (by omega) (by omega) (by rw [hg2]; simp) (by omega))
                · exfalso; omega
              · exfalso; omega
            · exfalso; omega
          · have hg : zgc kk (M 62 (4 * n)) (M 62 (4 * n + 1)) (M 62 (4 * n + 2)) (M 62 (4 * n + 3)) := ⟨by omega, Decidable.byContradiction (fun h9 => by rw [if_neg h9] at hr2; omega)⟩
            have hg2 := zrow_y (f := M 62) (k := M 57) (i := n) (by rw [hz]; exact hg)
            rw [hz] at hg2
            refine x_iconst 95 rfl dX11_row_94 (by decide) ?_
            refine x_goto 99 dX11_row_95 (by decide) ?_
            refine y_istore 101 rfl dX11_row_99 rfl (ls' := [_, _, _, _, _]) rfl (by decide) ?_
            refine x_iload 103 rfl dX11_row_101 rfl ?_
            refine x_if_eq 106 140 rfl dX11_row_103 (by decide) (fun c103 => ?_) (fun c103 => ?_)
            · exfalso; omega
            · refine x_aload_n 107 rfl dX11_row_106 0 rfl rfl ?_
              refine x_aload_n 108 rfl dX11_row_107 0 rfl rfl ?_
              refine x_getr 111 rfl fX11_41 dX11_row_108 (lyl55 hL) (lys55 hL) (by decide) (62) rfl ?_
              refine x_iload_n 112 rfl dX11_row_111 3 rfl rfl ?_
              refine x_bald 113 rfl dX11_row_112 (lyl62 hL) (lys62 hL) (by omega) (by omega) ?_
              try simp (disch := omega) only [z_up_ne, z_up_nk, z_up_eq, z_mup_ne, z_mup_eq, Int.reduceToNat, Int.toNat_natCast, rwM_57, rwM_62, rwM_6]
              rw [ey]
              refine x_aload_n 114 rfl dX11_row_113 0 rfl rfl ?_
              refine x_getr 117 rfl fX11_41 dX11_row_114 (lyl55 hL) (lys55 hL) (by decide) (62) rfl ?_
              refine x_iload_n 118 rfl dX11_row_117 3 rfl rfl ?_
              refine x_iconst 119 rfl dX11_row_118 (by decide) ?_
              refine y_iadd 120 rfl dX11_row_119 (by omega) ?_
              refine x_bald 121 rfl dX11_row_120 (lyl62 hL) (lys62 hL) (by omega) (by omega) ?_
              try simp (disch := omega) only [z_up_ne, z_up_nk, z_up_eq, z_mup_ne, z_mup_eq, Int.reduceToNat, Int.toNat_natCast, rwM_57, rwM_62, rwM_6]
              rw [ey1]
              refine x_aload_n 122 rfl dX11_row_121 0 rfl rfl ?_
              refine x_getr 125 rfl fX11_41 dX11_row_122 (lyl55 hL) (lys55 hL) (by decide) (62) rfl ?_
              refine x_iload_n 126 rfl dX11_row_125 3 rfl rfl ?_
              refine x_iconst 127 rfl dX11_row_126 (by decide) ?_
              refine y_iadd 128 rfl dX11_row_127 (by omega) ?_
              refine x_bald 129 rfl dX11_row_128 (lyl62 hL) (lys62 hL) (by omega) (by omega) ?_
              try simp (disch := omega) only [z_up_ne, z_up_nk, z_up_eq, z_mup_ne, z_mup_eq, Int.reduceToNat, Int.toNat_natCast, rwM_57, rwM_62, rwM_6]
              rw [ey2]
              refine x_aload_n 130 rfl dX11_row_129 0 rfl rfl ?_
              refine x_getr 133 rfl fX11_41 dX11_row_130 (lyl55 hL) (lys55 hL) (by decide) (62) rfl ?_
              refine x_iload_n 134 rfl dX11_row_133 3 rfl rfl ?_
              refine x_iconst 135 rfl dX11_row_134 (by decide) ?_
              refine y_iadd 136 rfl dX11_row_135 (by omega) ?_
              refine x_bald 137 rfl dX11_row_136 (lyl62 hL) (lys62 hL) (by omega) (by omega) ?_
              try simp (disch := omega) only [z_up_ne, z_up_nk, z_up_eq, z_mup_ne, z_mup_eq, Int.reduceToNat, Int.toNat_natCast, rwM_57, rwM_62, rwM_6]
              rw [ey3]
              refine x_cVu 140 rfl lX11_125 dX11_row_137 (lyl55 hL) (lys55 hL) (c_X11_addsGround hL (by rw [rwM_57]; exact hk) (by rw [rwM_57]; omega)) rfl rfl (Nat.le_of_ble_eq_true rfl) (fun M2 hM2 => ?_)
              rw [hM2, rwM_57, rwM_mup]
              refine x_iload_n 141 rfl dX11_row_140 2 rfl rfl ?_
              refine x_iload 143 rfl dX11_row_141 rfl ?_
              refine x_if_eq 146 150 rfl dX11_row_143 (by decide) (fun c143 => ?_) (fun c143 => ?_)
              · exfalso; omega
              · refine x_iconst 147 rfl dX11_row_146 (by decide) ?_
                refine x_goto 151 dX11_row_147 (by decide) ?_
                refine y_iadd 152 rfl dX11_row_151 (by omega) ?_
                refine y_istore_n 153 rfl dX11_row_152 rfl rfl (ls' := [_, _, _, _, _]) rfl (by decide) ?_
                refine x_aload_n 154 rfl dX11_row_153 0 rfl rfl ?_
                refine x_dupr 155 rfl dX11_row_154 ?_
                refine x_geti 158 rfl fX11_146 dX11_row_155 (lyl55 hL) (lys55 hL) (by decide) ?_
                try simp (disch := omega) only [z_up_ne, z_up_nk, z_up_eq, z_mup_ne, z_mup_eq, Int.reduceToNat, Int.toNat_natCast, rwM_57, rwM_62, rwM_6]
                refine x_iload 160 rfl dX11_row_158 rfl ?_
                refine x_if_eq 163 167 rfl dX11_row_160 (by decide) (fun c160 => ?_) (fun c160 => ?_)
                · exfalso; omega
                · refine x_iconst 164 rfl dX11_row_163 (by decide) ?_
                  refine x_goto 168 dX11_row_164 (by decide) ?_
                  refine y_iadd 169 rfl dX11_row_168 (by omega) ?_
                  refine x_puti 172 rfl fX11_146 dX11_row_169 (lyl55 hL) (lys55 hL) (by decide) ?_
                  try simp only [rwM_57, rwM_62, rwM_6]
                  rw [rwM_up]
                  refine w_iinc 175 rfl dX11_row_172 rfl (by decide) (by omega) rfl (ls' := [_, _, _, _, _]) rfl (by decide) ?_
                  refine x_goto 40 dX11_row_175 (by decide) ?_
                  refine z_wk (ls' := [some (zn 55), some (zi (M 55 13)), some (zi _), some (zi _), none]) ⟨rfl, rfl, rfl, rfl, trivial⟩ (ih (n + 1) _ _ _ _ (by omega) (by omega) (by omega) hg2 (by omega))
  refine zX_of pl_RX11 [some (zn 55), none, none, none, none] 4 rfl rfl ?_
  refine x_aload_n 1 rfl dX11_row_0 0 rfl rfl ?_
  refine x_geti 4 rfl fX11_143 dX11_row_1 (lyl55 hL) (lys55 hL) (by decide) ?_
  try simp (disch := omega) only [z_up_ne, z_up_nk, z_up_eq, z_mup_ne, z_mup_eq, Int.reduceToNat, Int.toNat_natCast, rwM_57, rwM_62, rwM_6]
  refine y_istore_n 5 rfl dX11_row_4 rfl rfl (ls' := [_, _, _, _, _]) rfl (by decide) ?_
  refine x_aload_n 6 rfl dX11_row_5 0 rfl rfl ?_
  refine x_iconst 7 rfl dX11_row_6 (by decide) ?_
  refine x_puti 10 rfl fX11_143 dX11_row_7 (lyl55 hL) (lys55 hL) (by decide) ?_
  try simp only [rwM_57, rwM_62, rwM_6]
  refine x_iload_n 11 rfl dX11_row_10 1 rfl rfl ?_
  refine x_if_ne 14 21 rfl dX11_row_11 (by decide) (fun c11 => ?_) (fun c11 => ?_)
  · refine x_iconst 22 rfl dX11_row_21 (by decide) ?_
    refine y_istore_n 23 rfl dX11_row_22 rfl rfl (ls' := [_, _, _, _, _]) rfl (by decide) ?_
    refine x_aload_n 24 rfl dX11_row_23 0 rfl rfl ?_
    refine x_iload_n 25 rfl dX11_row_24 1 rfl rfl ?_
    refine x_iconst 26 rfl dX11_row_25 (by decide) ?_
    refine x_irem 27 rfl dX11_row_26 (by omega) ?_
    refine x_if_ne 30 34 rfl dX11_row_27 (by decide) (fun c27 => ?_) (fun c27 => ?_)
    · rw [z_tmodn (by omega)] at c27
      refine x_iconst 35 rfl dX11_row_34 (by decide) ?_
      refine x_puti 38 rfl fX11_146 dX11_row_35 (lyl55 hL) (lys55 hL) (by decide) ?_
      try simp only [rwM_57, rwM_62, rwM_6]
      rw [rwM_0]
      refine x_iconst 39 rfl dX11_row_38 (by decide) ?_
      refine y_istore_n 40 rfl dX11_row_39 rfl rfl (ls' := [_, _, _, _, _]) rfl (by decide) ?_
      exact loop (by omega) ((M 55 13 / 4).toNat + 1) 0 0 0 _ (M 57) (by omega) (by omega) (by omega) rfl (by first | (rw [if_pos (by omega)]; omega) | (rw [if_neg (by omega)]; omega))
    · rw [z_tmodn (by omega)] at c27
      refine x_iconst 31 rfl dX11_row_30 (by decide) ?_
      refine x_goto 35 dX11_row_31 (by decide) ?_
      refine x_puti 38 rfl fX11_146 dX11_row_35 (lyl55 hL) (lys55 hL) (by decide) ?_
      try simp only [rwM_57, rwM_62, rwM_6]
      rw [rwM_0]
      refine x_iconst 39 rfl dX11_row_38 (by decide) ?_
      refine y_istore_n 40 rfl dX11_row_39 rfl rfl (ls' := [_, _, _, _, _]) rfl (by decide) ?_
      exact loop (by omega) ((M 55 13 / 4).toNat + 1) 0 0 0 _ (M 57) (by omega) (by omega) (by omega) rfl (by first | (rw [if_pos (by omega)]; omega) | (rw [if_neg (by omega)]; omega))
  · refine x_aload_n 15 rfl dX11_row_14 0 rfl rfl ?_
    refine x_bipush 17 rfl dX11_row_15 (by decide) ?_
    refine x_cVi 20 rfl lX11_94 dX11_row_17 (lyl55 hL) (lys55 hL) (c_X11_refuses hL (by rw [z_up_ne (by decide)]; exact hr) (by decide)) rfl rfl (Nat.le_of_ble_eq_true rfl) (fun r5 M5 hr5 => ?_)
    obtain ⟨hr6, hM5⟩ := hr5
    refine x_reti dX11_row_20 rfl ?_
    exact Or.inl ⟨by omega, hr6, hM5⟩

set_option maxRecDepth 100000 in
set_option maxHeartbeats 4000000 in
theorem c_X10_row {d sz : Nat} {S : zSh} {M : zMem} (hL : LY S sz) (hr : ∀ i, i < 7 → 0 ≤ M 54 i ∧ M 54 i ≤ 1000000) {k : Nat → Int} (hs : SR M 1 k) (hi : KI k) (hz0 : 0 ≤ M 30 1 ∧ M 30 1 ≤ 400) : zX (d + 3) 0 0 mX10_row [zn 0] sz S M (zI sz S (fun r M' => (M 30 1 = 0 ∧ r = -6 ∧ M' = cRef (z_up M 30 1 0) (-6)) ∨ (0 < M 30 1 ∧ r = (zrow (M 31) k (M 30 1 / 4).toNat).2 ∧ ∃ M1, SR M1 1 (zrow (M 31) k (M 30 1 / 4).toNat).1 ∧ (∀ i, ¬ (1 ≤ i ∧ i < 1 + 11) → i ≠ 0 → M1 i = z_up M 30 1 0 i) ∧ M1 11 = M 11 ∧ (∀ j, j ≠ 13 → M1 0 j = M 0 j) ∧ M1 0 13 = (if M 30 1 % 4 = 0 then 0 else 1) + (M 30 1 / 4) - (zrow (M 31) k (M 30 1 / 4).toNat).2 ∧ M' = z_up (z_up M1 24 3 0) 0 15 0))) := by
  have fin : 0 < M 30 1 → ∀ (M1 : zMem) (c y : Int), M 30 1 ≤ y → c = (zrow (M 31) k (M 30 1 / 4).toNat).2 → SR M1 1 (zrow (M 31) k (M 30 1 / 4).toNat).1 → (∀ i, ¬ (1 ≤ i ∧ i < 1 + 11) → i ≠ 0 → M1 i = z_up M 30 1 0 i) → M1 11 = M 11 → (∀ j, j ≠ 13 → M1 0 j = M 0 j) → M1 0 13 = (if M 30 1 % 4 = 0 then 0 else 1) + (M 30 1 / 4) - (zrow (M 31) k (M 30 1 / 4).toNat).2 → zW mX10_row (d + 3) 0 0 [] (zI sz S (fun r M' => (M 30 1 = 0 ∧ r = -6 ∧ M' = cRef (z_up M 30 1 0) (-6)) ∨ (0 < M 30 1 ∧ r = (zrow (M 31) k (M 30 1 / 4).toNat).2 ∧ ∃ M1, SR M1 1 (zrow (M 31) k (M 30 1 / 4).toNat).1 ∧ (∀ i, ¬ (1 ≤ i ∧ i < 1 + 11) → i ≠ 0 → M1 i = z_up M 30 1 0 i) ∧ M1 11 = M 11 ∧ (∀ j, j ≠ 13 → M1 0 j = M 0 j) ∧ M1 0 13 = (if M 30 1 % 4 = 0 then 0 else 1) + (M 30 1 / 4) - (zrow (M 31) k (M 30 1 / 4).toNat).2 ∧ M' = z_up (z_up M1 24 3 0) 0 15 0))) 28 [some (zn 0), some (zi (M 30 1)), some (zi c), some (zi y)] [] sz S M1 := by
    intro hz9 M1 c y hy hc hs1 hf1 h11 h0 h13
    refine x_iload_n 29 rfl dX10_row_28 3 rfl rfl ?_
    refine x_iload_n 30 rfl dX10_row_29 1 rfl rfl ?_
    refine x_icmp_ge 33 70 rfl dX10_row_30 (by decide) (fun c30 => ?_) (fun c30 => ?_)
    · refine x_aload_n 71 rfl dX10_row_70 0 rfl rfl ?_
      refine x_getr 74 rfl fX10_26 dX10_row_71 (lyl0 hL) (lys0 hL) (by decide) (24) rfl ?_
      refine x_cVu 77 rfl lX10_97 dX10_row_74 (lyl24 hL) (lys24 hL) (c_X2_clear (ly_lg24 hL)) rfl rfl (Nat.le_of_ble_eq_true rfl) (fun M2 hM2 => ?_)
      rw [hM2]
      refine x_aload_n 78 rfl dX10_row_77 0 rfl rfl ?_
      refine x_iload_n 79 rfl dX10_row_78 2 rfl rfl ?_
      refine x_cVi 82 rfl lX10_104 dX10_row_79 (lyl0 hL) (lys0 hL) (c_X10_accept hL) rfl rfl (Nat.le_of_ble_eq_true rfl) (fun r3 M3 hr3 => ?_)
      obtain ⟨hr4, hM3⟩ := hr3
      rw [hc] at hr4
      refine x_reti dX10_row_82 rfl ?_
      exact Or.inr ⟨hz9, hr4, M1, hs1, hf1, h11, h0, h13, hM3⟩
    · exfalso; omega
  have loop : 0 < M 30 1 → ∀ (q n : Nat) (M1 : zMem) (c y : Int) (kk : Nat → Int), (M 30 1 / 4).toNat < q + n → n ≤ (M 30 1 / 4).toNat → y = 4 * (n : Int) → zrow (M 31) k n = (kk, c) → SR M1 1 kk → (∀ i, ¬ (1 ≤ i ∧ i < 1 + 11) → i ≠ 0 → M1 i = z_up M 30 1 0 i) → M1 11 = M 11 → (∀ j, j ≠ 13 → M1 0 j = M 0 j) → M1 0 13 = (n : Int) - c → zW mX10_row (d + 3) 0 0 [] (zI sz S (fun r M' => (M 30 1 = 0 ∧ r = -6 ∧ M' = cRef (z_up M 30 1 0) (-6)) ∨ (0 < M 30 1 ∧ r = (zrow (M 31) k (M 30 1 / 4).toNat).2 ∧ ∃ M1, SR M1 1 (zrow (M 31) k (M 30 1 / 4).toNat).1 ∧ (∀ i, ¬ (1 ≤ i ∧ i < 1 + 11) → i ≠ 0 → M1 i = z_up M 30 1 0 i) ∧ M1 11 = M 11 ∧ (∀ j, j ≠ 13 → M1 0 j = M 0 j) ∧ M1 0 13 = (if M 30 1 % 4 = 0 then 0 else 1) + (M 30 1 / 4) - (zrow (M 31) k (M 30 1 / 4).toNat).2 ∧ M' = z_up (z_up M1 24 3 0) 0 15 0))) 28 [some (zn 0), some (zi (M 30 1)), some (zi c), some (zi y)] [] sz S M1 := by
    intro hz9 q
    induction q with
    | zero => intro n M1 c y kk hq hn; omega
    | succ q ih =>
      intro n M1 c y kk hq hn hy hz hs1 hf1 h11 h0 h13
      have hc := zrow_c (f := M 31) (k := k) n
      rw [hz] at hc
      have hc : 0 ≤ c ∧ c ≤ (n : Int) := hc
      have hk := zrow_KI (f := M 31) hi n
      rw [hz] at hk
      have hk : KI kk := hk
      have e31 : M1 31 = M 31 := by rw [hf1 31 (by decide) (by decide), z_up_ne (by decide)]
      subst hy
      rcases Classical.em (M 30 1 ≤ 4 * (n : Int)) with h9 | h9
      · have en : (M 30 1 / 4).toNat = n := by omega
        exact fin hz9 _ _ _ (by omega) (by rw [en, hz]) (by rw [en, hz]; exact hs1) hf1 h11 h0 (by rw [en, hz, if_pos (by omega), h13]; show (n : Int) - c = 0 + M 30 1 / 4 - c; omega)
      rw [show (4 * (n : Int)) = ((4 * n : Nat) : Int) by omega]
      refine x_iload_n 29 rfl dX10_row_28 3 rfl rfl ?_
      refine x_iload_n 30 rfl dX10_row_29 1 rfl rfl ?_
      refine x_icmp_ge 33 70 rfl dX10_row_30 (by decide) (fun c30 => ?_) (fun c30 => ?_)
      · exfalso; omega
      · refine x_iload_n 34 rfl dX10_row_33 3 rfl rfl ?_
        refine x_iconst 35 rfl dX10_row_34 (by decide) ?_
        refine y_iadd 36 rfl dX10_row_35 (by omega) ?_
        refine x_iload_n 37 rfl dX10_row_36 1 rfl rfl ?_
        refine x_icmp_gt 40 54 rfl dX10_row_37 (by decide) (fun c37 => ?_) (fun c37 => ?_)
        · refine x_aload_n 55 rfl dX10_row_54 0 rfl rfl ?_
          refine x_dupr 56 rfl dX10_row_55 ?_
          refine x_geti 59 rfl fX10_183 dX10_row_56 (lyl0 hL) (lys0 hL) (by decide) ?_
          refine x_iconst 60 rfl dX10_row_59 (by decide) ?_
          refine y_iadd 61 rfl dX10_row_60 (by omega) ?_
          refine x_puti 64 rfl fX10_183 dX10_row_61 (lyl0 hL) (lys0 hL) (by decide) ?_
          refine w_iinc 67 rfl dX10_row_64 rfl (by decide) (by omega) rfl (ls' := [_, _, _, _]) rfl (by decide) ?_
          refine x_goto 28 dX10_row_67 (by decide) ?_
          have en : (M 30 1 / 4).toNat = n := by omega
          refine fin hz9 _ _ _ (by omega) (by rw [en, hz]) (by rw [en, hz]; exact SR_out hs1 (by decide)) (fun i h1 h2 => by rw [z_up_ne h2]; exact hf1 i h1 h2) (by rw [z_up_ne (by decide)]; exact h11) (fun j hj => by rw [z_up_nk hj]; exact h0 j hj) ?_
          rw [en, hz, z_up_eq, if_neg (by omega)]
          show M1 0 13 + 1 = 1 + M 30 1 / 4 - c
          omega
        · refine x_aload_n 41 rfl dX10_row_40 0 rfl rfl ?_
          refine x_iload_n 42 rfl dX10_row_41 3 rfl rfl ?_
          refine x_cVi 45 rfl lX10_186 dX10_row_42 (lyl0 hL) (lys0 hL) (c_X10_groundCame hL hs1 hk (n := 4 * n) (by omega)) rfl rfl (Nat.le_of_ble_eq_true rfl) (fun r2 M2 hr2 => ?_)
          rw [e31] at hr2
          rcases hr2 with ⟨hg, hr2, hM2⟩ | ⟨hg, hr2, hf2, hl2, hs2⟩
          · rw [hM2]
            have hg2 := zrow_n (f := M 31) (k := k) (i := n) (by rw [hz]; exact hg)
            rw [hz] at hg2
            refine x_if_eq 48 54 rfl dX10_row_45 (by decide) (fun c45 => ?_) (fun c45 => ?_)
            · refine x_aload_n 55 rfl dX10_row_54 0 rfl rfl ?_
              refine x_dupr 56 rfl dX10_row_55 ?_
              refine x_geti 59 rfl fX10_183 dX10_row_56 (lyl0 hL) (lys0 hL) (by decide) ?_
              refine x_iconst 60 rfl dX10_row_59 (by decide) ?_
              refine y_iadd 61 rfl dX10_row_60 (by omega) ?_
              refine x_puti 64 rfl fX10_183 dX10_row_61 (lyl0 hL) (lys0 hL) (by decide) ?_
              refine w_iinc 67 rfl dX10_row_64 rfl (by decide) (by omega) rfl (ls' := [_, _, _, _]) rfl (by decide) ?_
              refine x_goto 28 dX10_row_67 (by decide) ?_
              exact ih (n + 1) _ _ _ kk (by omega) (by omega) (by omega) hg2 (SR_out hs1 (by decide)) (fun i h1 h2 => by rw [z_up_ne h2]; exact hf1 i h1 h2) (by rw [z_up_ne (by decide)]; exact h11) (fun j hj => by rw [z_up_nk hj]; exact h0 j hj) (by rw [z_up_eq]; omega)
            · exfalso; omega
          · have hg2 := zrow_y (f := M 31) (k := k) (i := n) (by rw [hz]; exact hg)
            rw [hz] at hg2
            refine x_if_eq 48 54 rfl dX10_row_45 (by decide) (fun c45 => ?_) (fun c45 => ?_)
            · exfalso; omega
            · refine w_iinc 51 rfl dX10_row_48 rfl (by decide) (by omega) rfl (ls' := [_, _, _, _]) rfl (by decide) ?_
              refine x_goto 64 dX10_row_51 (by decide) ?_
              refine w_iinc 67 rfl dX10_row_64 rfl (by decide) (by omega) rfl (ls' := [_, _, _, _]) rfl (by decide) ?_
              refine x_goto 28 dX10_row_67 (by decide) ?_
              exact ih (n + 1) _ _ _ _ (by omega) (by omega) (by omega) hg2 hs2 (fun i h1 h2 => by rw [hf2 i h1]; exact hf1 i h1 h2) (by rw [hl2]; exact h11) (fun j hj => by rw [hf2 0 (by decide)]; exact h0 j hj) (by rw [hf2 0 (by decide)]; omega)
  refine zX_of pl_RX10 [some (zn 0), none, none, none] 3 rfl rfl ?_
  refine x_aload_n 1 rfl dX10_row_0 0 rfl rfl ?_
  refine x_getr 4 rfl fX10_36 dX10_row_1 (lyl0 hL) (lys0 hL) (by decide) (30) rfl ?_
  refine x_cVi 7 rfl lX10_180 dX10_row_4 (lyl30 hL) (lys30 hL) (c_X8_taken hL) rfl rfl (Nat.le_of_ble_eq_true rfl) (fun r1 M1 hr1 => ?_)
  obtain ⟨hr2, hM1⟩ := hr1
  subst hr2
  rw [hM1]
  refine y_istore_n 8 rfl dX10_row_7 rfl rfl (ls' := [_, _, _, _]) rfl (by decide) ?_
  refine x_iload_n 9 rfl dX10_row_8 1 rfl rfl ?_
  refine x_if_ne 12 19 rfl dX10_row_9 (by decide) (fun c9 => ?_) (fun c9 => ?_)
  · refine x_iconst 20 rfl dX10_row_19 (by decide) ?_
    refine y_istore_n 21 rfl dX10_row_20 rfl rfl (ls' := [_, _, _, _]) rfl (by decide) ?_
    refine x_aload_n 22 rfl dX10_row_21 0 rfl rfl ?_
    refine x_iconst 23 rfl dX10_row_22 (by decide) ?_
    refine x_puti 26 rfl fX10_183 dX10_row_23 (lyl0 hL) (lys0 hL) (by decide) ?_
    refine x_iconst 27 rfl dX10_row_26 (by decide) ?_
    refine y_istore_n 28 rfl dX10_row_27 rfl rfl (ls' := [_, _, _, _]) rfl (by decide) ?_
    refine loop (by omega) ((M 30 1 / 4).toNat + 1) 0 _ 0 0 k (by omega) (by omega) (by omega) rfl (SR_out (SR_out hs (by decide)) (by decide)) (fun i h1 h2 => by rw [z_up_ne h2]) (by rw [z_up_ne (by decide), z_up_ne (by decide)]) (fun j hj => by rw [z_up_nk hj, z_up_ne (by decide)]) (by rw [z_up_eq]; rfl)
  · refine x_aload_n 13 rfl dX10_row_12 0 rfl rfl ?_
    refine x_bipush 15 rfl dX10_row_13 (by decide) ?_
    refine x_cVi 18 rfl lX10_90 dX10_row_15 (lyl0 hL) (lys0 hL) (c_X10_refuse hL (by rw [z_up_ne (by decide)]; exact hr) (by decide)) rfl rfl (Nat.le_of_ble_eq_true rfl) (fun r5 M5 hr5 => ?_)
    obtain ⟨hr6, hM5⟩ := hr5
    refine x_reti dX10_row_18 rfl ?_
    exact Or.inl ⟨by omega, hr6, hM5⟩
