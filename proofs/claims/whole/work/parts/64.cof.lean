/-! of the class -/
set_option maxRecDepth 100000 in
set_option maxHeartbeats 4000000 in
theorem c_X10_of {d sz : Nat} {S : zSh} {M : zMem} (hL : LY S sz) {k : Nat → Int} (hs : SR M 1 k) (hi : KI k) {Lw : List gC} (hLw : LwC S sz M 1 k Lw) (hv : v42 M) {x y : Int} : zX (d + 4) 0 0 mX10_of [zn 0, zi x, zi y] sz S M (zI sz S (fun r M' => r = zof Lw k x y ∧ jF M M')) := by
  have i1 := hi.1
  have i3 := zcrew_in hi
  refine zX_of pl_RX10 [some (zn 0), some (zi x), some (zi y)] 0 rfl rfl ?_
  refine x_aload_n 1 rfl dX10_of_0 0 rfl rfl ?_
  refine x_getr 4 rfl fX10_10 dX10_of_1 (lyl0 hL) (lys0 hL) (by decide) (1) rfl ?_
  refine x_iload_n 5 rfl dX10_of_4 1 rfl rfl ?_
  refine x_cVi 8 rfl lX10_107 dX10_of_5 (lyl1 hL) (lys1 hL) (c_X7_hasHand (ly_sh1 hL) hs hi) rfl rfl (Nat.le_of_ble_eq_true rfl) (fun r1 M1 hr1 => ?_)
  obtain ⟨hr2, hM1⟩ := hr1
  rw [hM1]
  refine x_if_ne 11 14 rfl dX10_of_8 (by decide) (fun c8 => ?_) (fun c8 => ?_)
  · have hx : 0 ≤ x ∧ x < k 75 := Decidable.byContradiction (fun h9 => by rw [if_neg h9] at hr2; omega)
    have i2 := hi.2.1 x.toNat (by omega)
    have q1 : M 2 x.toNat = k (23 + x.toNat) := hs.2.2.1 x.toNat (by omega)
    have q2 : M 3 x.toNat = k (3 + x.toNat) := hs.2.2.2.1 x.toNat (by omega)
    have q3 : M 4 x.toNat = k (31 + x.toNat) := hs.2.2.2.2.1 x.toNat (by omega)
    refine x_iload_n 15 rfl dX10_of_14 2 rfl rfl ?_
    refine x_tsC (0) 60 0 dX10_of_15 (by decide) (by decide) (by decide) rfl (by decide) (fun c15 => ?_) (fun c15_0 => ?_)
    · refine x_aload_n 61 rfl dX10_of_60 0 rfl rfl ?_
      refine x_getr 64 rfl fX10_10 dX10_of_61 (lyl0 hL) (lys0 hL) (by decide) (1) rfl ?_
      refine x_getr 67 rfl fX10_112 dX10_of_64 (lyl1 hL) (lys1 hL) (by decide) (2) rfl ?_
      refine x_iload_n 68 rfl dX10_of_67 1 rfl rfl ?_
      refine x_iald 69 rfl dX10_of_68 (lyl2 hL) (lys2 hL) (by omega) (by omega) ?_
      refine x_reti dX10_of_69 rfl ?_
      subst c15
      refine ⟨?_, jF_refl hv⟩
      rw [zof_p hx]
      exact q1
    refine x_tsC (1) 70 1 dX10_of_15 (by decide) (by decide) (by decide) rfl (by decide) (fun c15 => ?_) (fun c15_1 => ?_)
    · refine x_aload_n 71 rfl dX10_of_70 0 rfl rfl ?_
      refine x_getr 74 rfl fX10_10 dX10_of_71 (lyl0 hL) (lys0 hL) (by decide) (1) rfl ?_
      refine x_getr 77 rfl fX10_115 dX10_of_74 (lyl1 hL) (lys1 hL) (by decide) (3) rfl ?_
      refine x_iload_n 78 rfl dX10_of_77 1 rfl rfl ?_
      refine x_iald 79 rfl dX10_of_78 (lyl3 hL) (lys3 hL) (by omega) (by omega) ?_
      refine x_reti dX10_of_79 rfl ?_
      subst c15
      refine ⟨?_, jF_refl hv⟩
      rw [zof_p hx]
      exact q2
    refine x_tsC (2) 80 2 dX10_of_15 (by decide) (by decide) (by decide) rfl (by decide) (fun c15 => ?_) (fun c15_2 => ?_)
    · refine x_aload_n 81 rfl dX10_of_80 0 rfl rfl ?_
      refine x_getr 84 rfl fX10_10 dX10_of_81 (lyl0 hL) (lys0 hL) (by decide) (1) rfl ?_
      refine x_getr 87 rfl fX10_118 dX10_of_84 (lyl1 hL) (lys1 hL) (by decide) (4) rfl ?_
      refine x_iload_n 88 rfl dX10_of_87 1 rfl rfl ?_
      refine x_iald 89 rfl dX10_of_88 (lyl4 hL) (lys4 hL) (by omega) (by omega) ?_
      refine x_reti dX10_of_89 rfl ?_
      subst c15
      refine ⟨?_, jF_refl hv⟩
      rw [zof_p hx]
      exact q3
    refine x_tsC (3) 90 3 dX10_of_15 (by decide) (by decide) (by decide) rfl (by decide) (fun c15 => ?_) (fun c15_3 => ?_)
    · refine x_aload_n 91 rfl dX10_of_90 0 rfl rfl ?_
      refine x_getr 94 rfl fX10_10 dX10_of_91 (lyl0 hL) (lys0 hL) (by decide) (1) rfl ?_
      refine x_iload_n 95 rfl dX10_of_94 1 rfl rfl ?_
      refine x_cVi 98 rfl lX10_121 dX10_of_95 (lyl1 hL) (lys1 hL) (c_X7_isAboard (ly_sh1 hL) hs hi (by omega)) rfl rfl (Nat.le_of_ble_eq_true rfl) (fun r3 M3 hr3 => ?_)
      obtain ⟨hr4, hM3⟩ := hr3
      rw [hM3]
      refine x_if_eq 101 105 rfl dX10_of_98 (by decide) (fun c98 => ?_) (fun c98 => ?_)
      · refine x_iconst 106 rfl dX10_of_105 (by decide) ?_
        refine x_reti dX10_of_106 rfl ?_
        subst c15
        refine ⟨?_, jF_refl hv⟩
        rw [zof_p hx]
        show _ = k (11 + x.toNat)
        omega
      · refine x_iconst 102 rfl dX10_of_101 (by decide) ?_
        refine x_goto 106 dX10_of_102 (by decide) ?_
        refine x_reti dX10_of_106 rfl ?_
        subst c15
        refine ⟨?_, jF_refl hv⟩
        rw [zof_p hx]
        show _ = k (11 + x.toNat)
        omega
    refine x_tsC (4) 107 4 dX10_of_15 (by decide) (by decide) (by decide) rfl (by decide) (fun c15 => ?_) (fun c15_4 => ?_)
    · refine x_aload_n 108 rfl dX10_of_107 0 rfl rfl ?_
      refine x_getr 111 rfl fX10_50 dX10_of_108 (lyl0 hL) (lys0 hL) (by decide) (39) rfl ?_
      refine x_aload_n 112 rfl dX10_of_111 0 rfl rfl ?_
      refine x_getr 115 rfl fX10_10 dX10_of_112 (lyl0 hL) (lys0 hL) (by decide) (1) rfl ?_
      refine x_iload_n 116 rfl dX10_of_115 1 rfl rfl ?_
      refine x_cVi 119 rfl lX10_124 dX10_of_116 (lyl39 hL) (lys39 hL) (c_X1_eatenBy hL (ly_sh1 hL) (by decide) hs hi hLw hv (by omega)) rfl rfl (Nat.le_of_ble_eq_true rfl) (fun r5 M5 hr5 => ?_)
      obtain ⟨hr6, hm5⟩ := hr5
      refine x_reti dX10_of_119 rfl ?_
      subst c15
      exact ⟨by rw [hr6, zof_p hx]; rfl, hm5⟩
    refine x_tsC (5) 120 5 dX10_of_15 (by decide) (by decide) (by decide) rfl (by decide) (fun c15 => ?_) (fun c15_5 => ?_)
    · refine x_aload_n 121 rfl dX10_of_120 0 rfl rfl ?_
      refine x_getr 124 rfl fX10_50 dX10_of_121 (lyl0 hL) (lys0 hL) (by decide) (39) rfl ?_
      refine x_aload_n 125 rfl dX10_of_124 0 rfl rfl ?_
      refine x_getr 128 rfl fX10_10 dX10_of_125 (lyl0 hL) (lys0 hL) (by decide) (1) rfl ?_
      refine x_iload_n 129 rfl dX10_of_128 1 rfl rfl ?_
      refine x_aload_n 130 rfl dX10_of_129 0 rfl rfl ?_
      refine x_getr 133 rfl fX10_10 dX10_of_130 (lyl0 hL) (lys0 hL) (by decide) (1) rfl ?_
      refine x_getr 136 rfl fX10_112 dX10_of_133 (lyl1 hL) (lys1 hL) (by decide) (2) rfl ?_
      refine x_iload_n 137 rfl dX10_of_136 1 rfl rfl ?_
      refine x_iald 138 rfl dX10_of_137 (lyl2 hL) (lys2 hL) (by omega) (by omega) ?_
      rw [q1]
      refine x_aload_n 139 rfl dX10_of_138 0 rfl rfl ?_
      refine x_getr 142 rfl fX10_10 dX10_of_139 (lyl0 hL) (lys0 hL) (by decide) (1) rfl ?_
      refine x_cVi 145 rfl lX10_128 dX10_of_142 (lyl1 hL) (lys1 hL) (c_X7_crewSize (ly_sh1 hL) hs hi) rfl rfl (Nat.le_of_ble_eq_true rfl) (fun r7 M7 hr7 => ?_)
      obtain ⟨rfl, hM7⟩ := hr7
      rw [hM7]
      refine x_cVi 148 rfl lX10_132 dX10_of_145 (lyl39 hL) (lys39 hL) (c_X1_runsOff hL (ly_sh1 hL) (by decide) hs hi hLw hv (by omega) (by omega) i3) rfl rfl (Nat.le_of_ble_eq_true rfl) (fun r8 M8 hr8 => ?_)
      obtain ⟨hr9, hm8⟩ := hr8
      rw [zdesI_iff] at hr9
      have h01 := zdesI_01 (Lw := Lw) (k := k) (h := x.toNat) (lay := k (23 + x.toNat)) (crew := zcrew k)
      refine x_if_eq 151 155 rfl dX10_of_148 (by decide) (fun c148 => ?_) (fun c148 => ?_)
      · refine x_iconst 156 rfl dX10_of_155 (by decide) ?_
        refine x_reti dX10_of_156 rfl ?_
        subst c15
        refine ⟨?_, hm8⟩
        rw [zof_p hx]
        show _ = zdesI Lw k x.toNat (k (23 + x.toNat)) (zcrew k)
        omega
      · refine x_iconst 152 rfl dX10_of_151 (by decide) ?_
        refine x_goto 156 dX10_of_152 (by decide) ?_
        refine x_reti dX10_of_156 rfl ?_
        subst c15
        refine ⟨?_, hm8⟩
        rw [zof_p hx]
        show _ = zdesI Lw k x.toNat (k (23 + x.toNat)) (zcrew k)
        omega
    refine x_tsC (6) 157 6 dX10_of_15 (by decide) (by decide) (by decide) rfl (by decide) (fun c15 => ?_) (fun c15_6 => ?_)
    · refine x_aload_n 158 rfl dX10_of_157 0 rfl rfl ?_
      refine x_getr 161 rfl fX10_10 dX10_of_158 (lyl0 hL) (lys0 hL) (by decide) (1) rfl ?_
      refine x_iload_n 162 rfl dX10_of_161 1 rfl rfl ?_
      refine x_cVi 165 rfl lX10_136 dX10_of_162 (lyl1 hL) (lys1 hL) (c_X7_wholeOf (ly_sh1 hL) hs hi hx) rfl rfl (Nat.le_of_ble_eq_true rfl) (fun r10 M10 hr10 => ?_)
      obtain ⟨hr11, hM10⟩ := hr10
      refine x_reti dX10_of_165 rfl ?_
      subst c15
      exact ⟨by rw [hr11, zof_p hx]; rfl, by rw [hM10]; exact jF_refl hv⟩
    refine x_tsC (7) 166 7 dX10_of_15 (by decide) (by decide) (by decide) rfl (by decide) (fun c15 => ?_) (fun c15_7 => ?_)
    · refine x_aload_n 167 rfl dX10_of_166 0 rfl rfl ?_
      refine x_getr 170 rfl fX10_10 dX10_of_167 (lyl0 hL) (lys0 hL) (by decide) (1) rfl ?_
      refine x_iload_n 171 rfl dX10_of_170 1 rfl rfl ?_
      refine x_cVi 174 rfl lX10_121 dX10_of_171 (lyl1 hL) (lys1 hL) (c_X7_isAboard (ly_sh1 hL) hs hi (by omega)) rfl rfl (Nat.le_of_ble_eq_true rfl) (fun r12 M12 hr12 => ?_)
      obtain ⟨hr13, hM12⟩ := hr12
      rw [hM12]
      refine x_if_eq 177 198 rfl dX10_of_174 (by decide) (fun c174 => ?_) (fun c174 => ?_)
      · refine x_iconst 199 rfl dX10_of_198 (by decide) ?_
        refine x_reti dX10_of_199 rfl ?_
        subst c15
        refine ⟨?_, jF_refl hv⟩
        rw [zof_p hx]
        show _ = (if k (11 + x.toNat) = 1 then zwholeN k x.toNat - k (3 + x.toNat) else 0)
        rw [if_neg (by omega)]
      · refine x_aload_n 178 rfl dX10_of_177 0 rfl rfl ?_
        refine x_getr 181 rfl fX10_10 dX10_of_178 (lyl0 hL) (lys0 hL) (by decide) (1) rfl ?_
        refine x_iload_n 182 rfl dX10_of_181 1 rfl rfl ?_
        refine x_cVi 185 rfl lX10_136 dX10_of_182 (lyl1 hL) (lys1 hL) (c_X7_wholeOf (ly_sh1 hL) hs hi hx) rfl rfl (Nat.le_of_ble_eq_true rfl) (fun r14 M14 hr14 => ?_)
        obtain ⟨hr15, hM14⟩ := hr14
        rw [hM14]
        have hwi := zwholeN_rg hi hx
        refine x_aload_n 186 rfl dX10_of_185 0 rfl rfl ?_
        refine x_getr 189 rfl fX10_10 dX10_of_186 (lyl0 hL) (lys0 hL) (by decide) (1) rfl ?_
        refine x_getr 192 rfl fX10_115 dX10_of_189 (lyl1 hL) (lys1 hL) (by decide) (3) rfl ?_
        refine x_iload_n 193 rfl dX10_of_192 1 rfl rfl ?_
        refine x_iald 194 rfl dX10_of_193 (lyl3 hL) (lys3 hL) (by omega) (by omega) ?_
        rw [q2]
        refine y_isub 195 rfl dX10_of_194 (by omega) ?_
        refine x_goto 199 dX10_of_195 (by decide) ?_
        refine x_reti dX10_of_199 rfl ?_
        subst c15
        refine ⟨?_, jF_refl hv⟩
        rw [zof_p hx]
        show _ = (if k (11 + x.toNat) = 1 then zwholeN k x.toNat - k (3 + x.toNat) else 0)
        rw [if_pos (by omega), hr15]
    refine x_tsOut 200 dX10_of_15 (by omega) (by decide) ?_
    refine x_ldc (x := -100000000) 202 rfl kX10_111 (by decide) dX10_of_200 ?_
    refine x_reti dX10_of_202 rfl ?_
    refine ⟨?_, jF_refl hv⟩
    unfold zof
    rw [if_pos hx]
    repeat rw [if_neg (by omega)]
  · refine x_ldc (x := -100000000) 13 rfl kX10_111 (by decide) dX10_of_11 ?_
    refine x_reti dX10_of_13 rfl ?_
    refine ⟨?_, jF_refl hv⟩
    rw [zof_0 (fun h9 => by rw [if_pos h9] at hr2; omega)]
