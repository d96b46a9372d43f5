/-! of -/
def zof (Lw : List gC) (k : Nat → Int) (x w : Int) : Int := if 0 ≤ x ∧ x < k 75 then (if w = 0 then k (23 + x.toNat) else if w = 1 then k (3 + x.toNat) else if w = 2 then k (31 + x.toNat) else if w = 3 then k (11 + x.toNat) else if w = 4 then zeats Lw k x.toNat else if w = 5 then zdesI Lw k x.toNat (k (23 + x.toNat)) (zcrew k) else if w = 6 then zwholeN k x.toNat else if w = 7 then (if k (11 + x.toNat) = 1 then zwholeN k x.toNat - k (3 + x.toNat) else 0) else -100000000) else -100000000
theorem zof_0 {Lw : List gC} {k : Nat → Int} {x w : Int} (h : ¬ (0 ≤ x ∧ x < k 75)) : zof Lw k x w = -100000000 := by
  unfold zof
  rw [if_neg h]
theorem zof_p {Lw : List gC} {k : Nat → Int} {x w : Int} (h : 0 ≤ x ∧ x < k 75) : zof Lw k x w = (if w = 0 then k (23 + x.toNat) else if w = 1 then k (3 + x.toNat) else if w = 2 then k (31 + x.toNat) else if w = 3 then k (11 + x.toNat) else if w = 4 then zeats Lw k x.toNat else if w = 5 then zdesI Lw k x.toNat (k (23 + x.toNat)) (zcrew k) else if w = 6 then zwholeN k x.toNat else if w = 7 then (if k (11 + x.toNat) = 1 then zwholeN k x.toNat - k (3 + x.toNat) else 0) else -100000000) := by
  unfold zof
  rw [if_pos h]
theorem zwholeN_rg {k : Nat → Int} {x : Int} (hi : KI k) (hx : 0 ≤ x ∧ x < k 75) : 0 ≤ zwholeN k x.toNat ∧ zwholeN k x.toNat ≤ 1098900 := by
  have i1 := hi.1
  have i2 := zmoney_in hi (oil := k 0) (by omega)
  have i4 := (hi.2.1 x.toNat (by omega)).2.2.2.2.1 (by omega)
  unfold zwholeN zwhole
  split
  · refine ⟨Int.ediv_nonneg (by omega) (by omega), ?_⟩
    have := Int.ediv_le_self (k (23 + x.toNat)) (show 0 ≤ zmoney k (k 0) by omega)
    omega
  · decide

set_option maxRecDepth 100000 in
set_option maxHeartbeats 4000000 in
theorem c_X11_of {d sz : Nat} {S : zSh} {M : zMem} (hL : LY S sz) (hi : KI (M 57)) {Lw : List gC} (hLw : LwI (M 57) Lw) {x y : Int} : zX (d + 44) 0 0 mX11_of [zn 55, zi x, zi y] sz S M (zI sz S (fun r M' => r = zof Lw (M 57) x y ∧ mF M M')) := by
  have i1 := hi.1
  have i3 := zcrew_in hi
  refine zX_of pl_RX11 [some (zn 55), some (zi x), some (zi y)] 0 rfl rfl ?_
  refine x_aload_n 1 rfl dX11_of_0 0 rfl rfl ?_
  refine x_iload_n 2 rfl dX11_of_1 1 rfl rfl ?_
  refine x_cVi 5 rfl lX11_100 dX11_of_2 (lyl55 hL) (lys55 hL) (c_X11_isHand hL hi) rfl rfl (Nat.le_of_ble_eq_true rfl) (fun r1 M1 hr1 => ?_)
  obtain ⟨hr2, hM1⟩ := hr1
  rw [hM1]
  refine x_if_ne 8 11 rfl dX11_of_5 (by decide) (fun c5 => ?_) (fun c5 => ?_)
  · have hx : 0 ≤ x ∧ x < M 57 75 := Decidable.byContradiction (fun h9 => by rw [if_neg h9] at hr2; omega)
    have i2 := hi.2.1 x.toNat (by omega)
    refine x_iload_n 12 rfl dX11_of_11 2 rfl rfl ?_
    refine x_tsC (0) 60 0 dX11_of_12 (by decide) (by decide) (by decide) rfl (by decide) (fun c12 => ?_) (fun c12_0 => ?_)
    · refine x_aload_n 61 rfl dX11_of_60 0 rfl rfl ?_
      refine x_getr 64 rfl fX11_24 dX11_of_61 (lyl55 hL) (lys55 hL) (by decide) (57) rfl ?_
      refine x_bipush 66 rfl dX11_of_64 (by decide) ?_
      refine x_iload_n 67 rfl dX11_of_66 1 rfl rfl ?_
      refine y_iadd 68 rfl dX11_of_67 (by omega) ?_
      refine x_iald 69 rfl dX11_of_68 (lyl57 hL) (lys57 hL) (by omega) (by omega) ?_
      refine x_reti dX11_of_69 rfl ?_
      subst c12
      refine ⟨?_, mF_refl⟩
      rw [zof_p hx, show ((23 : Int) + x).toNat = 23 + x.toNat by omega]
      rfl
    refine x_tsC (1) 70 1 dX11_of_12 (by decide) (by decide) (by decide) rfl (by decide) (fun c12 => ?_) (fun c12_1 => ?_)
    · refine x_aload_n 71 rfl dX11_of_70 0 rfl rfl ?_
      refine x_getr 74 rfl fX11_24 dX11_of_71 (lyl55 hL) (lys55 hL) (by decide) (57) rfl ?_
      refine x_iconst 75 rfl dX11_of_74 (by decide) ?_
      refine x_iload_n 76 rfl dX11_of_75 1 rfl rfl ?_
      refine y_iadd 77 rfl dX11_of_76 (by omega) ?_
      refine x_iald 78 rfl dX11_of_77 (lyl57 hL) (lys57 hL) (by omega) (by omega) ?_
      refine x_reti dX11_of_78 rfl ?_
      subst c12
      refine ⟨?_, mF_refl⟩
      rw [zof_p hx, show ((3 : Int) + x).toNat = 3 + x.toNat by omega]
      rfl
    refine x_tsC (2) 79 2 dX11_of_12 (by decide) (by decide) (by decide) rfl (by decide) (fun c12 => ?_) (fun c12_2 => ?_)
    · refine x_aload_n 80 rfl dX11_of_79 0 rfl rfl ?_
      refine x_getr 83 rfl fX11_24 dX11_of_80 (lyl55 hL) (lys55 hL) (by decide) (57) rfl ?_
      refine x_bipush 85 rfl dX11_of_83 (by decide) ?_
      refine x_iload_n 86 rfl dX11_of_85 1 rfl rfl ?_
      refine y_iadd 87 rfl dX11_of_86 (by omega) ?_
      refine x_iald 88 rfl dX11_of_87 (lyl57 hL) (lys57 hL) (by omega) (by omega) ?_
      refine x_reti dX11_of_88 rfl ?_
      subst c12
      refine ⟨?_, mF_refl⟩
      rw [zof_p hx, show ((31 : Int) + x).toNat = 31 + x.toNat by omega]
      rfl
    refine x_tsC (3) 89 3 dX11_of_12 (by decide) (by decide) (by decide) rfl (by decide) (fun c12 => ?_) (fun c12_3 => ?_)
    · refine x_aload_n 90 rfl dX11_of_89 0 rfl rfl ?_
      refine x_getr 93 rfl fX11_24 dX11_of_90 (lyl55 hL) (lys55 hL) (by decide) (57) rfl ?_
      refine x_bipush 95 rfl dX11_of_93 (by decide) ?_
      refine x_iload_n 96 rfl dX11_of_95 1 rfl rfl ?_
      refine y_iadd 97 rfl dX11_of_96 (by omega) ?_
      refine x_iald 98 rfl dX11_of_97 (lyl57 hL) (lys57 hL) (by omega) (by omega) ?_
      refine x_reti dX11_of_98 rfl ?_
      subst c12
      refine ⟨?_, mF_refl⟩
      rw [zof_p hx, show ((11 : Int) + x).toNat = 11 + x.toNat by omega]
      rfl
    refine x_tsC (4) 99 4 dX11_of_12 (by decide) (by decide) (by decide) rfl (by decide) (fun c12 => ?_) (fun c12_4 => ?_)
    · refine x_aload_n 100 rfl dX11_of_99 0 rfl rfl ?_
      refine x_iload_n 101 rfl dX11_of_100 1 rfl rfl ?_
      refine x_cVi 104 rfl lX11_105 dX11_of_101 (lyl55 hL) (lys55 hL) (c_X11_eatsFor hL hi hLw (by omega)) rfl rfl (Nat.le_of_ble_eq_true rfl) (fun r3 M3 hr3 => ?_)
      obtain ⟨hr4, hm3⟩ := hr3
      refine x_reti dX11_of_104 rfl ?_
      subst c12
      exact ⟨by rw [hr4, zof_p hx]; rfl, hm3⟩
    refine x_tsC (5) 105 5 dX11_of_12 (by decide) (by decide) (by decide) rfl (by decide) (fun c12 => ?_) (fun c12_5 => ?_)
    · refine x_aload_n 106 rfl dX11_of_105 0 rfl rfl ?_
      refine x_iload_n 107 rfl dX11_of_106 1 rfl rfl ?_
      refine x_aload_n 108 rfl dX11_of_107 0 rfl rfl ?_
      refine x_getr 111 rfl fX11_24 dX11_of_108 (lyl55 hL) (lys55 hL) (by decide) (57) rfl ?_
      refine x_bipush 113 rfl dX11_of_111 (by decide) ?_
      refine x_iload_n 114 rfl dX11_of_113 1 rfl rfl ?_
      refine y_iadd 115 rfl dX11_of_114 (by omega) ?_
      refine x_iald 116 rfl dX11_of_115 (lyl57 hL) (lys57 hL) (by omega) (by omega) ?_
      rw [show ((23 : Int) + x).toNat = 23 + x.toNat by omega]
      refine x_aload_n 117 rfl dX11_of_116 0 rfl rfl ?_
      refine x_cVi 120 rfl lX11_108 dX11_of_117 (lyl55 hL) (lys55 hL) (c_X11_crewNow hL hi) rfl rfl (Nat.le_of_ble_eq_true rfl) (fun r5 M5 hr5 => ?_)
      obtain ⟨rfl, hM5⟩ := hr5
      rw [hM5]
      refine x_cVi 123 rfl lX11_112 dX11_of_120 (lyl55 hL) (lys55 hL) (c_X11_deserts hL hi hLw (by omega) (by omega) i3) rfl rfl (Nat.le_of_ble_eq_true rfl) (fun r6 M6 hr6 => ?_)
      obtain ⟨hr7, hm6⟩ := hr6
      rw [zdesI_iff] at hr7
      have h01 := zdesI_01 (Lw := Lw) (k := M 57) (h := x.toNat) (lay := M 57 (23 + x.toNat)) (crew := zcrew (M 57))
      refine x_if_eq 126 130 rfl dX11_of_123 (by decide) (fun c123 => ?_) (fun c123 => ?_)
      · refine x_iconst 131 rfl dX11_of_130 (by decide) ?_
        refine x_reti dX11_of_131 rfl ?_
        subst c12
        refine ⟨?_, hm6⟩
        rw [zof_p hx]
        show _ = zdesI Lw (M 57) x.toNat (M 57 (23 + x.toNat)) (zcrew (M 57))
        omega
      · refine x_iconst 127 rfl dX11_of_126 (by decide) ?_
        refine x_goto 131 dX11_of_127 (by decide) ?_
        refine x_reti dX11_of_131 rfl ?_
        subst c12
        refine ⟨?_, hm6⟩
        rw [zof_p hx]
        show _ = zdesI Lw (M 57) x.toNat (M 57 (23 + x.toNat)) (zcrew (M 57))
        omega
    refine x_tsC (6) 132 6 dX11_of_12 (by decide) (by decide) (by decide) rfl (by decide) (fun c12 => ?_) (fun c12_6 => ?_)
    · refine x_aload_n 133 rfl dX11_of_132 0 rfl rfl ?_
      refine x_iload_n 134 rfl dX11_of_133 1 rfl rfl ?_
      refine x_cVi 137 rfl lX11_115 dX11_of_134 (lyl55 hL) (lys55 hL) (c_X11_wholeNow hL hi hx) rfl rfl (Nat.le_of_ble_eq_true rfl) (fun r8 M8 hr8 => ?_)
      obtain ⟨hr9, hM8⟩ := hr8
      refine x_reti dX11_of_137 rfl ?_
      subst c12
      exact ⟨by rw [hr9, zof_p hx]; rfl, by rw [hM8]; exact mF_refl⟩
    refine x_tsC (7) 138 7 dX11_of_12 (by decide) (by decide) (by decide) rfl (by decide) (fun c12 => ?_) (fun c12_7 => ?_)
    · refine x_aload_n 139 rfl dX11_of_138 0 rfl rfl ?_
      refine x_iload_n 140 rfl dX11_of_139 1 rfl rfl ?_
      refine x_cVi 143 rfl lX11_118 dX11_of_140 (lyl55 hL) (lys55 hL) (c_X11_isAboard hL hi (by omega)) rfl rfl (Nat.le_of_ble_eq_true rfl) (fun r10 M10 hr10 => ?_)
      obtain ⟨hr11, hM10⟩ := hr10
      rw [hM10]
      refine x_if_eq 146 163 rfl dX11_of_143 (by decide) (fun c143 => ?_) (fun c143 => ?_)
      · refine x_iconst 164 rfl dX11_of_163 (by decide) ?_
        refine x_reti dX11_of_164 rfl ?_
        subst c12
        refine ⟨?_, mF_refl⟩
        rw [zof_p hx]
        show _ = (if M 57 (11 + x.toNat) = 1 then zwholeN (M 57) x.toNat - M 57 (3 + x.toNat) else 0)
        rw [if_neg (by omega)]
      · refine x_aload_n 147 rfl dX11_of_146 0 rfl rfl ?_
        refine x_iload_n 148 rfl dX11_of_147 1 rfl rfl ?_
        refine x_cVi 151 rfl lX11_115 dX11_of_148 (lyl55 hL) (lys55 hL) (c_X11_wholeNow hL hi hx) rfl rfl (Nat.le_of_ble_eq_true rfl) (fun r12 M12 hr12 => ?_)
        obtain ⟨hr13, hM12⟩ := hr12
        rw [hM12]
        have hwi := zwholeN_rg hi hx
        refine x_aload_n 152 rfl dX11_of_151 0 rfl rfl ?_
        refine x_getr 155 rfl fX11_24 dX11_of_152 (lyl55 hL) (lys55 hL) (by decide) (57) rfl ?_
        refine x_iconst 156 rfl dX11_of_155 (by decide) ?_
        refine x_iload_n 157 rfl dX11_of_156 1 rfl rfl ?_
        refine y_iadd 158 rfl dX11_of_157 (by omega) ?_
        refine x_iald 159 rfl dX11_of_158 (lyl57 hL) (lys57 hL) (by omega) (by omega) ?_
        rw [show ((3 : Int) + x).toNat = 3 + x.toNat by omega]
        refine y_isub 160 rfl dX11_of_159 (by omega) ?_
        refine x_goto 164 dX11_of_160 (by decide) ?_
        refine x_reti dX11_of_164 rfl ?_
        subst c12
        refine ⟨?_, mF_refl⟩
        rw [zof_p hx]
        show _ = (if M 57 (11 + x.toNat) = 1 then zwholeN (M 57) x.toNat - M 57 (3 + x.toNat) else 0)
        rw [if_pos (by omega), hr13]
    refine x_tsOut 165 dX11_of_12 (by omega) (by decide) ?_
    refine x_ldc (x := -100000000) 167 rfl kX11_104 (by decide) dX11_of_165 ?_
    refine x_reti dX11_of_167 rfl ?_
    refine ⟨?_, mF_refl⟩
    unfold zof
    rw [if_pos hx]
    repeat rw [if_neg (by omega)]
  · refine x_ldc (x := -100000000) 10 rfl kX11_104 (by decide) dX11_of_8 ?_
    refine x_reti dX11_of_10 rfl ?_
    refine ⟨?_, mF_refl⟩
    rw [zof_0 (fun h9 => by rw [if_pos h9] at hr2; omega)]
