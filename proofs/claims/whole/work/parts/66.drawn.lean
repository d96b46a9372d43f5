/-! drawn -/
def zdrawn (h g : Int) (f : Nat → Int) (x w : Int) : Int := if h = -1 then -1 else if w = 0 then f 0 else if w = 1 then f 2 else if w = 2 then (if 0 ≤ x ∧ x < g then f (19 + x.toNat) else -1) else if w = 3 then (if 0 ≤ x ∧ x < h then f (3 + x.toNat) else -1) else -1

set_option maxRecDepth 100000 in
set_option maxHeartbeats 4000000 in
theorem c_X11_drawn {d sz : Nat} {S : zSh} {M : zMem} (hL : LY S sz) (h1 : -1 ≤ M 55 43 ∧ M 55 43 ≤ 8) (h2 : 0 ≤ M 55 44 ∧ M 55 44 ≤ 4) {x y : Int} : zX (d + 1) 0 0 mX11_drawn [zn 55, zi x, zi y] sz S M (zI sz S (fun r M' => r = zdrawn (M 55 43) (M 55 44) (M 74) x y ∧ M' = M)) := by
  refine zX_of pl_RX11 [some (zn 55), some (zi x), some (zi y)] 0 rfl rfl ?_
  refine x_aload_n 1 rfl dX11_drawn_0 0 rfl rfl ?_
  refine x_geti 4 rfl fX11_87 dX11_drawn_1 (lyl55 hL) (lys55 hL) (by decide) ?_
  refine x_iconst 5 rfl dX11_drawn_4 (by decide) ?_
  refine x_icmp_ne 8 10 rfl dX11_drawn_5 (by decide) (fun c5 => ?_) (fun c5 => ?_)
  · refine x_iload_n 11 rfl dX11_drawn_10 2 rfl rfl ?_
    refine x_tsC (0) 40 0 dX11_drawn_11 (by decide) (by decide) (by decide) rfl (by decide) (fun c11 => ?_) (fun c11_0 => ?_)
    · refine x_aload_n 41 rfl dX11_drawn_40 0 rfl rfl ?_
      refine x_getr 44 rfl fX11_84 dX11_drawn_41 (lyl55 hL) (lys55 hL) (by decide) (74) rfl ?_
      refine x_iconst 45 rfl dX11_drawn_44 (by decide) ?_
      refine x_ialk 46 rfl dX11_drawn_45 (lyl74 hL) (lys74 hL) 0 rfl (by decide) ?_
      refine x_reti dX11_drawn_46 rfl ?_
      subst c11
      refine ⟨?_, rfl⟩
      unfold zdrawn
      rw [if_neg c5]
      rfl
    refine x_tsC (1) 47 1 dX11_drawn_11 (by decide) (by decide) (by decide) rfl (by decide) (fun c11 => ?_) (fun c11_1 => ?_)
    · refine x_aload_n 48 rfl dX11_drawn_47 0 rfl rfl ?_
      refine x_getr 51 rfl fX11_84 dX11_drawn_48 (lyl55 hL) (lys55 hL) (by decide) (74) rfl ?_
      refine x_iconst 52 rfl dX11_drawn_51 (by decide) ?_
      refine x_ialk 53 rfl dX11_drawn_52 (lyl74 hL) (lys74 hL) 2 rfl (by decide) ?_
      refine x_reti dX11_drawn_53 rfl ?_
      subst c11
      refine ⟨?_, rfl⟩
      unfold zdrawn
      rw [if_neg c5]
      rfl
    refine x_tsC (2) 54 2 dX11_drawn_11 (by decide) (by decide) (by decide) rfl (by decide) (fun c11 => ?_) (fun c11_2 => ?_)
    · refine x_iload_n 55 rfl dX11_drawn_54 1 rfl rfl ?_
      refine x_iconst 56 rfl dX11_drawn_55 (by decide) ?_
      refine x_aload_n 57 rfl dX11_drawn_56 0 rfl rfl ?_
      refine x_geti 60 rfl fX11_460 dX11_drawn_57 (lyl55 hL) (lys55 hL) (by decide) ?_
      refine x_iconst 61 rfl dX11_drawn_60 (by decide) ?_
      refine y_isub 62 rfl dX11_drawn_61 (by omega) ?_
      refine x_cSi 65 rfl lX11_90 dX11_drawn_62 c_X11_lies rfl rfl (Nat.le_of_ble_eq_true rfl) (fun r1 M1 hr1 => ?_)
      obtain ⟨hr2, hM1⟩ := hr1
      rw [hM1]
      refine x_if_eq 68 80 rfl dX11_drawn_65 (by decide) (fun c65 => ?_) (fun c65 => ?_)
      · have hx : ¬ (0 ≤ x ∧ x ≤ M 55 44 - 1) := fun h9 => by rw [if_pos h9] at hr2; omega
        refine x_iconst 81 rfl dX11_drawn_80 (by decide) ?_
        refine x_reti dX11_drawn_81 rfl ?_
        subst c11
        refine ⟨?_, rfl⟩
        unfold zdrawn
        rw [if_neg c5]
        show _ = (if 0 ≤ x ∧ x < M 55 44 then M 74 (19 + x.toNat) else -1)
        rw [if_neg (by omega)]
      · have hx : 0 ≤ x ∧ x ≤ M 55 44 - 1 := Decidable.byContradiction (fun h9 => by rw [if_neg h9] at hr2; omega)
        refine x_aload_n 69 rfl dX11_drawn_68 0 rfl rfl ?_
        refine x_getr 72 rfl fX11_84 dX11_drawn_69 (lyl55 hL) (lys55 hL) (by decide) (74) rfl ?_
        refine x_bipush 74 rfl dX11_drawn_72 (by decide) ?_
        refine x_iload_n 75 rfl dX11_drawn_74 1 rfl rfl ?_
        refine y_iadd 76 rfl dX11_drawn_75 (by omega) ?_
        refine x_iald 77 rfl dX11_drawn_76 (lyl74 hL) (lys74 hL) (by omega) (by omega) ?_
        refine x_goto 81 dX11_drawn_77 (by decide) ?_
        refine x_reti dX11_drawn_81 rfl ?_
        subst c11
        refine ⟨?_, rfl⟩
        unfold zdrawn
        rw [if_neg c5]
        show _ = (if 0 ≤ x ∧ x < M 55 44 then M 74 (19 + x.toNat) else -1)
        rw [if_pos (by omega), show ((19 : Int) + x).toNat = 19 + x.toNat by omega]
    refine x_tsC (3) 82 3 dX11_drawn_11 (by decide) (by decide) (by decide) rfl (by decide) (fun c11 => ?_) (fun c11_3 => ?_)
    · refine x_iload_n 83 rfl dX11_drawn_82 1 rfl rfl ?_
      refine x_iconst 84 rfl dX11_drawn_83 (by decide) ?_
      refine x_aload_n 85 rfl dX11_drawn_84 0 rfl rfl ?_
      refine x_geti 88 rfl fX11_87 dX11_drawn_85 (lyl55 hL) (lys55 hL) (by decide) ?_
      refine x_iconst 89 rfl dX11_drawn_88 (by decide) ?_
      refine y_isub 90 rfl dX11_drawn_89 (by omega) ?_
      refine x_cSi 93 rfl lX11_90 dX11_drawn_90 c_X11_lies rfl rfl (Nat.le_of_ble_eq_true rfl) (fun r1 M1 hr1 => ?_)
      obtain ⟨hr2, hM1⟩ := hr1
      rw [hM1]
      refine x_if_eq 96 107 rfl dX11_drawn_93 (by decide) (fun c93 => ?_) (fun c93 => ?_)
      · have hx : ¬ (0 ≤ x ∧ x ≤ M 55 43 - 1) := fun h9 => by rw [if_pos h9] at hr2; omega
        refine x_iconst 108 rfl dX11_drawn_107 (by decide) ?_
        refine x_reti dX11_drawn_108 rfl ?_
        subst c11
        refine ⟨?_, rfl⟩
        unfold zdrawn
        rw [if_neg c5]
        show _ = (if 0 ≤ x ∧ x < M 55 43 then M 74 (3 + x.toNat) else -1)
        rw [if_neg (by omega)]
      · have hx : 0 ≤ x ∧ x ≤ M 55 43 - 1 := Decidable.byContradiction (fun h9 => by rw [if_neg h9] at hr2; omega)
        refine x_aload_n 97 rfl dX11_drawn_96 0 rfl rfl ?_
        refine x_getr 100 rfl fX11_84 dX11_drawn_97 (lyl55 hL) (lys55 hL) (by decide) (74) rfl ?_
        refine x_iconst 101 rfl dX11_drawn_100 (by decide) ?_
        refine x_iload_n 102 rfl dX11_drawn_101 1 rfl rfl ?_
        refine y_iadd 103 rfl dX11_drawn_102 (by omega) ?_
        refine x_iald 104 rfl dX11_drawn_103 (lyl74 hL) (lys74 hL) (by omega) (by omega) ?_
        refine x_goto 108 dX11_drawn_104 (by decide) ?_
        refine x_reti dX11_drawn_108 rfl ?_
        subst c11
        refine ⟨?_, rfl⟩
        unfold zdrawn
        rw [if_neg c5]
        show _ = (if 0 ≤ x ∧ x < M 55 43 then M 74 (3 + x.toNat) else -1)
        rw [if_pos (by omega), show ((3 : Int) + x).toNat = 3 + x.toNat by omega]
    refine x_tsOut 109 dX11_drawn_11 (by omega) (by decide) ?_
    refine x_iconst 110 rfl dX11_drawn_109 (by decide) ?_
    refine x_reti dX11_drawn_110 rfl ?_
    refine ⟨?_, rfl⟩
    unfold zdrawn
    repeat rw [if_neg (by omega)]
  · refine x_iconst 9 rfl dX11_drawn_8 (by decide) ?_
    refine x_reti dX11_drawn_9 rfl ?_
    refine ⟨?_, rfl⟩
    unfold zdrawn
    rw [if_pos (by omega)]
