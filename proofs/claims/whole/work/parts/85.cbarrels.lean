/-! barrels, on the class's side; ask -/
/-- only the paper's two numbers have changed -/
def pF (M M' : zMem) : Prop := (∀ i, i ≠ 49 → M' i = M i) ∧ ∀ j, j ≠ 5 → j ≠ 6 → M' 49 j = M 49 j
theorem pF_refl {M : zMem} : pF M M := ⟨fun _ _ => rfl, fun _ _ _ => rfl⟩
theorem pF_up {M M1 : zMem} {j : Nat} {v : Int} (h : pF M M1) (hj : j = 5 ∨ j = 6) : pF M (z_up M1 49 j v) := ⟨fun i a => by rw [z_up_ne a]; exact h.1 i a, fun l a b => by rw [z_up_nk (by omega)]; exact h.2 l a b⟩

set_option maxRecDepth 100000 in
set_option maxHeartbeats 4000000 in
theorem c_X5_weigh {d sz : Nat} {S : zSh} {M : zMem} (hL : LY S sz) {k : Nat → Int} (hs : SR M 1 k) (hi : KI k)  : zX (d + 1) 0 0 mX5_weigh [zn 49, zn 1] sz S M (zU sz S (fun M' => M' 49 5 = (zwg k (k 77).toNat).1 ∧ M' 49 6 = (zwg k (k 77).toNat).2 ∧ pF M M')) := by
  have i1 := hi.1
  have hp := zprice_in hi (m := k 2) (by omega)
  have e70 := hs.2.1.1
  have e71 := hs.2.1.2.1
  have loop : ∀ (q n : Nat) (M1 : zMem), (k 77).toNat < q + n → n ≤ (k 77).toNat → M1 49 5 = (zwg k n).1 → M1 49 6 = (zwg k n).2 → pF M M1 → zW mX5_weigh (d + 1) 0 0 [] (zU sz S (fun M' => M' 49 5 = (zwg k (k 77).toNat).1 ∧ M' 49 6 = (zwg k (k 77).toNat).2 ∧ pF M M')) 28 [some (zn 49), some (zn 1), some (zi (zprice k (k 2))), some (zi n), none, none, none] [] sz S M1 := by
    intro q
    induction q with
    | zero => intro n M1 hq hn; omega
    | succ q ih =>
      intro n M1 hq hn h5 h6 hF
      have hs1 : SR M1 1 k := (SR_frame hs (fun i a b => hF.1 i (by omega)))
      have e12 := hs1.1.2.2.2.2.2.1
      have e9 := hs1.1.2.2.2.2.1
      obtain ⟨lo, hi9, hz⟩ : ∃ lo hi9, zwg k n = (lo, hi9) := ⟨_, _, rfl⟩
      have hin := zwg_in hi n (by omega)
      rw [hz] at hin h5 h6
      have hin : 0 ≤ lo ∧ lo ≤ 1000000000 ∧ -2000000 ≤ hi9 ∧ hi9 ≤ k 73 := hin
      have h5 : M1 49 5 = lo := h5
      have h6 : M1 49 6 = hi9 := h6
      have e : zwg k (n + 1) = if 0 < zprice k (k 2) then (max (zwg k n).1 ((zfr k n + zprice k (k 2) - 1) / zprice k (k 2)), min (zwg k n).2 (zto k n / zprice k (k 2))) else if 0 < zfr k n ∨ zto k n < 0 then ((zwg k n).1, -1) else zwg k n := rfl
      rw [hz] at e
      refine x_iload_n 29 rfl dX5_weigh_28 3 rfl rfl ?_
      refine x_aload_n 30 rfl dX5_weigh_29 1 rfl rfl ?_
      refine x_geti 33 rfl fX5_129 dX5_weigh_30 (lyl1 hL) (lys1 hL) (by decide) ?_
      rw [e12]
      refine x_icmp_ge 36 140 rfl dX5_weigh_33 (by decide) (fun c33 => ?_) (fun c33 => ?_)
      · refine x_retu dX5_weigh_140 rfl ?_
        rw [show (k 77).toNat = n by omega, hz]
        exact ⟨h5, h6, hF⟩
      · obtain ⟨w1, w2, w3, w4, w5⟩ := zwd_in hi (n := n) (by omega)
        have f1 : -1000000 ≤ zfr k n ∧ zfr k n ≤ 998999001 := by unfold zfr; omega
        have f2 : -1000000 ≤ zto k n ∧ zto k n ≤ 999000000 := by unfold zto; omega
        have hzd : ((n : Int)).toNat = n := by omega
        refine x_aload_n 37 rfl dX5_weigh_36 1 rfl rfl ?_
        refine x_getr 40 rfl fX5_101 dX5_weigh_37 (lyl1 hL) (lys1 hL) (by decide) (2) rfl ?_
        refine x_aload_n 41 rfl dX5_weigh_40 1 rfl rfl ?_
        refine x_getr 44 rfl fX5_132 dX5_weigh_41 (lyl1 hL) (lys1 hL) (by decide) (9) rfl ?_
        refine x_iload_n 45 rfl dX5_weigh_44 3 rfl rfl ?_
        refine x_iald 46 rfl dX5_weigh_45 (lyl9 hL) (lys9 hL) (by omega) (by omega) ?_
        rw [show ((n : Int)).toNat = n by omega, hs1.2.2.2.2.2.2.2.2.1 n (by omega)]
        refine x_iald 47 rfl dX5_weigh_46 (lyl2 hL) (lys2 hL) (by omega) (by omega) ?_
        rw [hs1.2.2.1 _ (by omega), show (k (57 + 2 * n)).toNat = zhw k n from rfl]
        refine y_istore 49 rfl dX5_weigh_47 rfl (ls' := [_, _, _, _, _, _, _]) rfl (by decide) ?_
        refine x_aload_n 50 rfl dX5_weigh_49 1 rfl rfl ?_
        refine x_getr 53 rfl fX5_135 dX5_weigh_50 (lyl1 hL) (lys1 hL) (by decide) (10) rfl ?_
        refine x_iload_n 54 rfl dX5_weigh_53 3 rfl rfl ?_
        refine x_iald 55 rfl dX5_weigh_54 (lyl10 hL) (lys10 hL) (by omega) (by omega) ?_
        rw [show ((n : Int)).toNat = n by omega, hs1.2.2.2.2.2.2.2.2.2 n (by omega)]
        refine x_iload 57 rfl dX5_weigh_55 rfl ?_
        refine y_imul 58 rfl dX5_weigh_57 (by omega) ?_
        refine x_aload_n 59 rfl dX5_weigh_58 1 rfl rfl ?_
        refine x_geti 62 rfl fX5_138 dX5_weigh_59 (lyl1 hL) (lys1 hL) (by decide) ?_
        rw [e9]
        refine y_isub 63 rfl dX5_weigh_62 (by omega) ?_
        rw [show k (58 + 2 * n) * k (23 + zhw k n) - k 1 = zfr k n from rfl]
        refine y_istore 65 rfl dX5_weigh_63 rfl (ls' := [_, _, _, _, _, _, _]) rfl (by decide) ?_
        refine x_iload 67 rfl dX5_weigh_65 rfl ?_
        refine x_iload 69 rfl dX5_weigh_67 rfl ?_
        refine y_iadd 70 rfl dX5_weigh_69 (by omega) ?_
        refine x_iconst 71 rfl dX5_weigh_70 (by decide) ?_
        refine y_isub 72 rfl dX5_weigh_71 (by omega) ?_
        rw [show zfr k n + k (23 + zhw k n) - 1 = zto k n from rfl]
        refine y_istore 74 rfl dX5_weigh_72 rfl (ls' := [_, _, _, _, _, _, _]) rfl (by decide) ?_
        refine x_iload_n 75 rfl dX5_weigh_74 2 rfl rfl ?_
        refine x_if_le 78 119 rfl dX5_weigh_75 (by decide) (fun c75 => ?_) (fun c75 => ?_)
        · rw [if_neg (by omega)] at e
          refine x_iload 121 rfl dX5_weigh_119 rfl ?_
          refine x_if_gt 124 129 rfl dX5_weigh_121 (by decide) (fun c121 => ?_) (fun c121 => ?_)
          · refine x_aload_n 130 rfl dX5_weigh_129 0 rfl rfl ?_
            refine x_iconst 131 rfl dX5_weigh_130 (by decide) ?_
            refine x_puti 134 rfl fX5_126 dX5_weigh_131 (lyl49 hL) (lys49 hL) (by decide) ?_
            refine w_iinc 137 rfl dX5_weigh_134 rfl (by decide) (by omega) rfl (ls' := [_, _, _, _, _, _, _]) rfl (by decide) ?_
            refine x_goto 28 dX5_weigh_137 (by decide) ?_
            rw [if_pos (Or.inl (by omega))] at e
            refine z_wk (ls' := [some (zn 49), some (zn 1), some (zi (zprice k (k 2))), some (zi _), none, none, none]) ⟨rfl, rfl, rfl, rfl, trivial⟩ (ih (n + 1) _ (by omega) (by omega) ?_ ?_ (pF_up hF (by omega)))
            · rw [z_up_nk (by decide), h5, e]
            · rw [z_up_eq, e]
          · refine x_iload 126 rfl dX5_weigh_124 rfl ?_
            refine x_if_ge 129 134 rfl dX5_weigh_126 (by decide) (fun c126 => ?_) (fun c126 => ?_)
            · refine w_iinc 137 rfl dX5_weigh_134 rfl (by decide) (by omega) rfl (ls' := [_, _, _, _, _, _, _]) rfl (by decide) ?_
              refine x_goto 28 dX5_weigh_137 (by decide) ?_
              rw [if_neg (by omega)] at e
              refine z_wk (ls' := [some (zn 49), some (zn 1), some (zi (zprice k (k 2))), some (zi _), none, none, none]) ⟨rfl, rfl, rfl, rfl, trivial⟩ (ih (n + 1) _ (by omega) (by omega) (by rw [e]; exact h5) (by rw [e]; exact h6) hF)
            · refine x_aload_n 130 rfl dX5_weigh_129 0 rfl rfl ?_
              refine x_iconst 131 rfl dX5_weigh_130 (by decide) ?_
              refine x_puti 134 rfl fX5_126 dX5_weigh_131 (lyl49 hL) (lys49 hL) (by decide) ?_
              refine w_iinc 137 rfl dX5_weigh_134 rfl (by decide) (by omega) rfl (ls' := [_, _, _, _, _, _, _]) rfl (by decide) ?_
              refine x_goto 28 dX5_weigh_137 (by decide) ?_
              rw [if_pos (Or.inr (by omega))] at e
              refine z_wk (ls' := [some (zn 49), some (zn 1), some (zi (zprice k (k 2))), some (zi _), none, none, none]) ⟨rfl, rfl, rfl, rfl, trivial⟩ (ih (n + 1) _ (by omega) (by omega) ?_ ?_ (pF_up hF (by omega)))
              · rw [z_up_nk (by decide), h5, e]
              · rw [z_up_eq, e]
        · refine x_aload_n 79 rfl dX5_weigh_78 0 rfl rfl ?_
          refine x_aload_n 80 rfl dX5_weigh_79 0 rfl rfl ?_
          refine x_geti 83 rfl fX5_123 dX5_weigh_80 (lyl49 hL) (lys49 hL) (by decide) ?_
          rw [h5]
          refine x_iload 85 rfl dX5_weigh_83 rfl ?_
          refine x_iload_n 86 rfl dX5_weigh_85 2 rfl rfl ?_
          refine y_iadd 87 rfl dX5_weigh_86 (by omega) ?_
          refine x_iconst 88 rfl dX5_weigh_87 (by decide) ?_
          refine y_isub 89 rfl dX5_weigh_88 (by omega) ?_
          refine x_iload_n 90 rfl dX5_weigh_89 2 rfl rfl ?_
          refine x_cSi 93 rfl lX5_141 dX5_weigh_90 (c_floorDiv (by omega) ⟨by omega, by omega⟩ ⟨by omega, by omega⟩) rfl rfl (Nat.le_of_ble_eq_true rfl) (fun r1 M2 hr1 => ?_)
          obtain ⟨hr2, hM2⟩ := hr1
          rw [hM2]
          subst hr2
          refine x_cSi 96 rfl lX5_87 dX5_weigh_93 c_max rfl rfl (Nat.le_of_ble_eq_true rfl) (fun r3 M3 hr3 => ?_)
          obtain ⟨hr4, hM3⟩ := hr3
          rw [hM3]
          subst hr4
          refine x_puti 99 rfl fX5_123 dX5_weigh_96 (lyl49 hL) (lys49 hL) (by decide) ?_
          refine x_aload_n 100 rfl dX5_weigh_99 0 rfl rfl ?_
          refine x_aload_n 101 rfl dX5_weigh_100 0 rfl rfl ?_
          refine x_geti 104 rfl fX5_126 dX5_weigh_101 (lyl49 hL) (lys49 hL) (by decide) ?_
          rw [z_up_nk (by decide), h6]
          refine x_iload 106 rfl dX5_weigh_104 rfl ?_
          refine x_iload_n 107 rfl dX5_weigh_106 2 rfl rfl ?_
          refine x_cSi 110 rfl lX5_141 dX5_weigh_107 (c_floorDiv (by omega) ⟨by omega, by omega⟩ ⟨by omega, by omega⟩) rfl rfl (Nat.le_of_ble_eq_true rfl) (fun r5 M5 hr5 => ?_)
          obtain ⟨hr6, hM5⟩ := hr5
          rw [hM5]
          subst hr6
          refine x_cSi 113 rfl lX5_34 dX5_weigh_110 c_min rfl rfl (Nat.le_of_ble_eq_true rfl) (fun r7 M7 hr7 => ?_)
          obtain ⟨hr8, hM7⟩ := hr7
          rw [hM7]
          subst hr8
          refine x_puti 116 rfl fX5_126 dX5_weigh_113 (lyl49 hL) (lys49 hL) (by decide) ?_
          refine x_goto 134 dX5_weigh_116 (by decide) ?_
          refine w_iinc 137 rfl dX5_weigh_134 rfl (by decide) (by omega) rfl (ls' := [_, _, _, _, _, _, _]) rfl (by decide) ?_
          refine x_goto 28 dX5_weigh_137 (by decide) ?_
          rw [if_pos (by omega)] at e
          refine z_wk (ls' := [some (zn 49), some (zn 1), some (zi (zprice k (k 2))), some (zi _), none, none, none]) ⟨rfl, rfl, rfl, rfl, trivial⟩ (ih (n + 1) _ (by omega) (by omega) ?_ ?_ (pF_up (pF_up hF (by omega)) (by omega)))
          · rw [z_up_nk (by decide), z_up_eq, e]
          · rw [z_up_eq, e]
  refine zX_of pl_RX5 [some (zn 49), some (zn 1), none, none, none, none, none] 5 rfl rfl ?_
  refine x_aload_n 1 rfl dX5_weigh_0 1 rfl rfl ?_
  refine x_aload_n 2 rfl dX5_weigh_1 1 rfl rfl ?_
  refine x_getr 5 rfl fX5_29 dX5_weigh_2 (lyl1 hL) (lys1 hL) (by decide) (8) rfl ?_
  refine x_iconst 6 rfl dX5_weigh_5 (by decide) ?_
  refine x_ialk 7 rfl dX5_weigh_6 (lyl8 hL) (lys8 hL) 0 rfl (by decide) ?_
  rw [e70]
  refine x_cVi 10 rfl lX5_78 dX5_weigh_7 (lyl1 hL) (lys1 hL) (c_X7_priceIn (ly_sh1 hL) hs hi (by omega)) rfl rfl (Nat.le_of_ble_eq_true rfl) (fun a1 M9 ha1 => ?_)
  obtain ⟨ha2, hM9⟩ := ha1
  rw [hM9]
  subst ha2
  refine y_istore_n 11 rfl dX5_weigh_10 rfl rfl (ls' := [_, _, _, _, _, _, _]) rfl (by decide) ?_
  refine x_aload_n 12 rfl dX5_weigh_11 0 rfl rfl ?_
  refine x_iconst 13 rfl dX5_weigh_12 (by decide) ?_
  refine x_puti 16 rfl fX5_123 dX5_weigh_13 (lyl49 hL) (lys49 hL) (by decide) ?_
  refine x_aload_n 17 rfl dX5_weigh_16 0 rfl rfl ?_
  refine x_aload_n 18 rfl dX5_weigh_17 1 rfl rfl ?_
  refine x_getr 21 rfl fX5_29 dX5_weigh_18 (lyl1 hL) (lys1 hL) (by decide) (8) rfl ?_
  refine x_iconst 22 rfl dX5_weigh_21 (by decide) ?_
  refine x_ialk 23 rfl dX5_weigh_22 (lyl8 hL) (lys8 hL) 1 rfl (by decide) ?_
  rw [z_up_ne (by decide), e71]
  refine x_puti 26 rfl fX5_126 dX5_weigh_23 (lyl49 hL) (lys49 hL) (by decide) ?_
  refine x_iconst 27 rfl dX5_weigh_26 (by decide) ?_
  refine y_istore_n 28 rfl dX5_weigh_27 rfl rfl (ls' := [_, _, _, _, _, _, _]) rfl (by decide) ?_
  exact loop ((k 77).toNat + 1) 0 _ (by omega) (by omega) (by rw [z_up_nk (by decide), z_up_eq]; rfl) (by rw [z_up_eq]; rfl) (pF_up (pF_up pF_refl (by omega)) (by omega))

set_option maxRecDepth 100000 in
set_option maxHeartbeats 4000000 in
theorem c_X10_barrels {d sz : Nat} {S : zSh} {M : zMem} (hL : LY S sz) {k : Nat → Int} (hs : SR M 1 k) (hi : KI k) {x : Int} : zX (d + 2) 0 0 mX10_barrels [zn 0, zi x] sz S M (zI sz S (fun r M' => r = zbar k x ∧ pF M M')) := by
  have i1 := hi.1
  have hin := zwg_in hi (k 77).toNat (by omega)
  refine zX_of pl_RX10 [some (zn 0), some (zi x), none] 1 rfl rfl ?_
  refine x_aload_n 1 rfl dX10_barrels_0 0 rfl rfl ?_
  refine x_getr 4 rfl fX10_75 dX10_barrels_1 (lyl0 hL) (lys0 hL) (by decide) (49) rfl ?_
  refine x_aload_n 5 rfl dX10_barrels_4 0 rfl rfl ?_
  refine x_getr 8 rfl fX10_10 dX10_barrels_5 (lyl0 hL) (lys0 hL) (by decide) (1) rfl ?_
  refine x_cVu 11 rfl lX10_274 dX10_barrels_8 (lyl49 hL) (lys49 hL) (c_X5_weigh hL hs hi) rfl rfl (Nat.le_of_ble_eq_true rfl) (fun M1 hr1 => ?_)
  obtain ⟨h5, h6, hF⟩ := hr1
  rw [← h5, ← h6] at hin
  refine x_aload_n 12 rfl dX10_barrels_11 0 rfl rfl ?_
  refine x_getr 15 rfl fX10_75 dX10_barrels_12 (lyl0 hL) (lys0 hL) (by decide) (49) rfl ?_
  refine x_geti 18 rfl fX10_277 dX10_barrels_15 (lyl49 hL) (lys49 hL) (by decide) ?_
  refine x_aload_n 19 rfl dX10_barrels_18 0 rfl rfl ?_
  refine x_getr 22 rfl fX10_75 dX10_barrels_19 (lyl0 hL) (lys0 hL) (by decide) (49) rfl ?_
  refine x_geti 25 rfl fX10_280 dX10_barrels_22 (lyl49 hL) (lys49 hL) (by decide) ?_
  refine x_icmp_gt 28 32 rfl dX10_barrels_25 (by decide) (fun c25 => ?_) (fun c25 => ?_)
  · refine x_iconst 33 rfl dX10_barrels_32 (by decide) ?_
    refine y_istore_n 34 rfl dX10_barrels_33 rfl rfl (ls' := [_, _, _]) rfl (by decide) ?_
    refine x_iload_n 35 rfl dX10_barrels_34 1 rfl rfl ?_
    refine x_tsC (0) 60 0 dX10_barrels_35 (by decide) (by decide) (by decide) rfl (by decide) (fun c35 => ?_) (fun c35_0 => ?_)
    · refine x_iload_n 61 rfl dX10_barrels_60 2 rfl rfl ?_
      refine x_if_eq 64 84 rfl dX10_barrels_61 (by decide) (fun c61 => ?_) (fun c61 => ?_)
      · refine x_iconst 85 rfl dX10_barrels_84 (by decide) ?_
        refine x_reti dX10_barrels_85 rfl ?_
        subst c35
        refine ⟨?_, hF⟩
        unfold zbar
        rw [← h5, ← h6]
        rw [if_pos rfl]
        first | (rw [if_pos (by omega)]; done) | (rw [if_neg (by omega)]; done)
      · exfalso; omega
    refine x_tsC (1) 86 1 dX10_barrels_35 (by decide) (by decide) (by decide) rfl (by decide) (fun c35 => ?_) (fun c35_1 => ?_)
    · refine x_iload_n 87 rfl dX10_barrels_86 2 rfl rfl ?_
      refine x_if_eq 90 100 rfl dX10_barrels_87 (by decide) (fun c87 => ?_) (fun c87 => ?_)
      · refine x_iconst 101 rfl dX10_barrels_100 (by decide) ?_
        refine x_reti dX10_barrels_101 rfl ?_
        subst c35
        refine ⟨?_, hF⟩
        unfold zbar
        rw [← h5, ← h6]
        rw [if_neg (by decide), if_pos rfl]
        first | (rw [if_pos (by omega)]; done) | (rw [if_neg (by omega)]; done)
      · exfalso; omega
    refine x_tsC (2) 102 2 dX10_barrels_35 (by decide) (by decide) (by decide) rfl (by decide) (fun c35 => ?_) (fun c35_2 => ?_)
    · refine x_iload_n 103 rfl dX10_barrels_102 2 rfl rfl ?_
      refine x_if_eq 106 116 rfl dX10_barrels_103 (by decide) (fun c103 => ?_) (fun c103 => ?_)
      · refine x_iconst 117 rfl dX10_barrels_116 (by decide) ?_
        refine x_reti dX10_barrels_117 rfl ?_
        subst c35
        refine ⟨?_, hF⟩
        unfold zbar
        rw [← h5, ← h6]
        rw [if_neg (by decide), if_neg (by decide), if_pos rfl]
        first | (rw [if_pos (by omega)]; done) | (rw [if_neg (by omega)]; done)
      · exfalso; omega
    refine x_tsOut 118 dX10_barrels_35 (by omega) (by decide) ?_
    refine x_iconst 119 rfl dX10_barrels_118 (by decide) ?_
    refine x_reti dX10_barrels_119 rfl ?_
    refine ⟨?_, hF⟩
    unfold zbar
    rw [if_neg (by omega), if_neg (by omega), if_neg (by omega)]
  · refine x_iconst 29 rfl dX10_barrels_28 (by decide) ?_
    refine x_goto 33 dX10_barrels_29 (by decide) ?_
    refine y_istore_n 34 rfl dX10_barrels_33 rfl rfl (ls' := [_, _, _]) rfl (by decide) ?_
    refine x_iload_n 35 rfl dX10_barrels_34 1 rfl rfl ?_
    refine x_tsC (0) 60 0 dX10_barrels_35 (by decide) (by decide) (by decide) rfl (by decide) (fun c35 => ?_) (fun c35_0 => ?_)
    · refine x_iload_n 61 rfl dX10_barrels_60 2 rfl rfl ?_
      refine x_if_eq 64 84 rfl dX10_barrels_61 (by decide) (fun c61 => ?_) (fun c61 => ?_)
      · exfalso; omega
      · refine x_aload_n 65 rfl dX10_barrels_64 0 rfl rfl ?_
        refine x_getr 68 rfl fX10_75 dX10_barrels_65 (lyl0 hL) (lys0 hL) (by decide) (49) rfl ?_
        refine x_geti 71 rfl fX10_280 dX10_barrels_68 (lyl49 hL) (lys49 hL) (by decide) ?_
        refine x_aload_n 72 rfl dX10_barrels_71 0 rfl rfl ?_
        refine x_getr 75 rfl fX10_75 dX10_barrels_72 (lyl0 hL) (lys0 hL) (by decide) (49) rfl ?_
        refine x_geti 78 rfl fX10_277 dX10_barrels_75 (lyl49 hL) (lys49 hL) (by decide) ?_
        refine y_isub 79 rfl dX10_barrels_78 (by omega) ?_
        refine x_iconst 80 rfl dX10_barrels_79 (by decide) ?_
        refine y_iadd 81 rfl dX10_barrels_80 (by omega) ?_
        refine x_goto 85 dX10_barrels_81 (by decide) ?_
        refine x_reti dX10_barrels_85 rfl ?_
        subst c35
        refine ⟨?_, hF⟩
        unfold zbar
        rw [← h5, ← h6]
        rw [if_pos rfl]
        first | (rw [if_pos (by omega)]; done) | (rw [if_neg (by omega)]; done)
    refine x_tsC (1) 86 1 dX10_barrels_35 (by decide) (by decide) (by decide) rfl (by decide) (fun c35 => ?_) (fun c35_1 => ?_)
    · refine x_iload_n 87 rfl dX10_barrels_86 2 rfl rfl ?_
      refine x_if_eq 90 100 rfl dX10_barrels_87 (by decide) (fun c87 => ?_) (fun c87 => ?_)
      · exfalso; omega
      · refine x_aload_n 91 rfl dX10_barrels_90 0 rfl rfl ?_
        refine x_getr 94 rfl fX10_75 dX10_barrels_91 (lyl0 hL) (lys0 hL) (by decide) (49) rfl ?_
        refine x_geti 97 rfl fX10_277 dX10_barrels_94 (lyl49 hL) (lys49 hL) (by decide) ?_
        refine x_goto 101 dX10_barrels_97 (by decide) ?_
        refine x_reti dX10_barrels_101 rfl ?_
        subst c35
        refine ⟨?_, hF⟩
        unfold zbar
        rw [← h5, ← h6]
        rw [if_neg (by decide), if_pos rfl]
        first | (rw [if_pos (by omega)]; done) | (rw [if_neg (by omega)]; done)
    refine x_tsC (2) 102 2 dX10_barrels_35 (by decide) (by decide) (by decide) rfl (by decide) (fun c35 => ?_) (fun c35_2 => ?_)
    · refine x_iload_n 103 rfl dX10_barrels_102 2 rfl rfl ?_
      refine x_if_eq 106 116 rfl dX10_barrels_103 (by decide) (fun c103 => ?_) (fun c103 => ?_)
      · exfalso; omega
      · refine x_aload_n 107 rfl dX10_barrels_106 0 rfl rfl ?_
        refine x_getr 110 rfl fX10_75 dX10_barrels_107 (lyl0 hL) (lys0 hL) (by decide) (49) rfl ?_
        refine x_geti 113 rfl fX10_280 dX10_barrels_110 (lyl49 hL) (lys49 hL) (by decide) ?_
        refine x_goto 117 dX10_barrels_113 (by decide) ?_
        refine x_reti dX10_barrels_117 rfl ?_
        subst c35
        refine ⟨?_, hF⟩
        unfold zbar
        rw [← h5, ← h6]
        rw [if_neg (by decide), if_neg (by decide), if_pos rfl]
        first | (rw [if_pos (by omega)]; done) | (rw [if_neg (by omega)]; done)
    refine x_tsOut 118 dX10_barrels_35 (by omega) (by decide) ?_
    refine x_iconst 119 rfl dX10_barrels_118 (by decide) ?_
    refine x_reti dX10_barrels_119 rfl ?_
    refine ⟨?_, hF⟩
    unfold zbar
    rw [if_neg (by omega), if_neg (by omega), if_neg (by omega)]

/-- the longest run of one and the same whole: run, what it was, the longest, behind n oils from lo on -/
def zma (k : Nat → Int) (h : Nat) (lo : Int) : Nat → Int × Int × Int
  | 0 => (0, -1, 0)
  | n + 1 => (if zwhole k h (lo + (n : Int)) = (zma k h lo n).2.1 then (zma k h lo n).1 + 1 else 1, zwhole k h (lo + (n : Int)), max (zma k h lo n).2.2 (if zwhole k h (lo + (n : Int)) = (zma k h lo n).2.1 then (zma k h lo n).1 + 1 else 1))
theorem zma_s {k : Nat → Int} {h n : Nat} {lo a b c : Int} (e : zma k h lo n = (a, b, c)) : zma k h lo (n + 1) = (if zwhole k h (lo + (n : Int)) = b then a + 1 else 1, zwhole k h (lo + (n : Int)), max c (if zwhole k h (lo + (n : Int)) = b then a + 1 else 1)) := by
  have e2 : zma k h lo (n + 1) = (if zwhole k h (lo + (n : Int)) = (zma k h lo n).2.1 then (zma k h lo n).1 + 1 else 1, zwhole k h (lo + (n : Int)), max (zma k h lo n).2.2 (if zwhole k h (lo + (n : Int)) = (zma k h lo n).2.1 then (zma k h lo n).1 + 1 else 1)) := rfl
  rw [e2, e]
theorem zma_in {k : Nat → Int} {h : Nat} {lo : Int} : ∀ n : Nat, 0 ≤ (zma k h lo n).1 ∧ (zma k h lo n).1 ≤ (n : Int) ∧ 0 ≤ (zma k h lo n).2.2 ∧ (zma k h lo n).2.2 ≤ (n : Int)
  | 0 => by show (0 : Int) ≤ 0 ∧ (0 : Int) ≤ ((0 : Nat) : Int) ∧ (0 : Int) ≤ 0 ∧ (0 : Int) ≤ ((0 : Nat) : Int); decide
  | n + 1 => by
    have ih := zma_in (k := k) (h := h) (lo := lo) n
    rcases e : zma k h lo n with ⟨a, b, c⟩
    rw [e] at ih
    have ih : 0 ≤ a ∧ a ≤ (n : Int) ∧ 0 ≤ c ∧ c ≤ (n : Int) := ih
    rw [zma_s e]
    generalize hy : (if zwhole k h (lo + (n : Int)) = b then a + 1 else 1) = y
    have hy2 : 0 ≤ y ∧ y ≤ (n : Int) + 1 := by
      rw [← hy]
      by_cases hq : zwhole k h (lo + (n : Int)) = b
      · rw [if_pos hq]; omega
      · rw [if_neg hq]; omega
    show 0 ≤ y ∧ y ≤ ((n + 1 : Nat) : Int) ∧ 0 ≤ max c y ∧ max c y ≤ ((n + 1 : Nat) : Int)
    omega
def zmost (k : Nat → Int) (h : Nat) : Int := (zma k h (zwg k (k 77).toNat).1 ((zwg k (k 77).toNat).2 + 1 - (zwg k (k 77).toNat).1).toNat).2.2
theorem zmost_in {k : Nat → Int} {h : Nat} (hi : KI k) : 0 ≤ zmost k h ∧ zmost k h ≤ 1000 := by
  have i1 := hi.1
  have h1 := zwg_in hi (k 77).toNat (by omega)
  have h2 := zma_in (k := k) (h := h) (lo := (zwg k (k 77).toNat).1) ((zwg k (k 77).toNat).2 + 1 - (zwg k (k 77).toNat).1).toNat
  unfold zmost
  omega

set_option maxRecDepth 100000 in
set_option maxHeartbeats 4000000 in
theorem c_X11_mostAlike {d sz : Nat} {S : zSh} {M : zMem} (hL : LY S sz) (hi : KI (M 57)) {x : Int} (hx : 0 ≤ x ∧ x < M 57 75) : zX (d + 4) 0 0 mX11_mostAlike [zn 55, zi x] sz S M (zI sz S (fun r M' => r = zmost (M 57) x.toNat ∧ M' = M)) := by
  have i1 := hi.1
  have hl := (hi.2.1 x.toNat (by omega)).2.2.2.2.1 (by omega)
  have hin := zwg_in hi (M 57 77).toNat (by omega)
  obtain ⟨lo, hi9, hz⟩ : ∃ lo hi9, zwg (M 57) (M 57 77).toNat = (lo, hi9) := ⟨_, _, rfl⟩
  rw [hz] at hin
  have hin : 0 ≤ lo ∧ lo ≤ 1000000000 ∧ -2000000 ≤ hi9 ∧ hi9 ≤ M 57 73 := hin
  have loop : ∀ (q n : Nat) (a b c : Int), 1001 < q + n → (n : Int) ≤ M 57 73 + 1 → zma (M 57) x.toNat lo (min (hi9 + 1) (n : Int) - lo).toNat = (a, b, c) → zW mX11_mostAlike (d + 4) 0 0 [] (zI sz S (fun r M' => r = zmost (M 57) x.toNat ∧ M' = M)) 10 [some (zn 55), some (zi x), some (zi c), some (zi a), some (zi b), some (zi n)] [] sz S M := by
    intro q
    induction q with
    | zero => intro n a b c hq hn; omega
    | succ q ih =>
      intro n a b c hq hn hb
      have hb9 := zma_in (k := M 57) (h := x.toNat) (lo := lo) (min (hi9 + 1) (n : Int) - lo).toNat
      rw [hb] at hb9
      have hb9 : 0 ≤ a ∧ a ≤ (((min (hi9 + 1) (n : Int) - lo).toNat : Nat) : Int) ∧ 0 ≤ c ∧ c ≤ (((min (hi9 + 1) (n : Int) - lo).toNat : Nat) : Int) := hb9
      refine x_iload 12 rfl dX11_mostAlike_10 rfl ?_
      refine x_aload_n 13 rfl dX11_mostAlike_12 0 rfl rfl ?_
      refine x_getr 16 rfl fX11_24 dX11_mostAlike_13 (lyl55 hL) (lys55 hL) (by decide) (57) rfl ?_
      refine x_bipush 18 rfl dX11_mostAlike_16 (by decide) ?_
      refine x_ialk 19 rfl dX11_mostAlike_18 (lyl57 hL) (lys57 hL) 73 rfl (by decide) ?_
      refine x_icmp_gt 22 75 rfl dX11_mostAlike_19 (by decide) (fun c19 => ?_) (fun c19 => ?_)
      · refine x_iload_n 76 rfl dX11_mostAlike_75 2 rfl rfl ?_
        refine x_reti dX11_mostAlike_76 rfl ?_
        refine ⟨?_, rfl⟩
        unfold zmost
        rw [hz]
        show c = (zma (M 57) x.toNat lo (hi9 + 1 - lo).toNat).2.2
        rw [show (hi9 + 1 - lo).toNat = (min (hi9 + 1) (n : Int) - lo).toNat by omega, hb]
      · refine x_aload_n 23 rfl dX11_mostAlike_22 0 rfl rfl ?_
        refine x_iload 25 rfl dX11_mostAlike_23 rfl ?_
        refine x_cVi 28 rfl lX11_406 dX11_mostAlike_25 (lyl55 hL) (lys55 hL) (c_X11_canBe hL hi (by omega)) rfl rfl (Nat.le_of_ble_eq_true rfl) (fun r1 M1 hr1 => ?_)
        obtain ⟨hr2, hM1⟩ := hr1
        rw [hM1]
        unfold zcb at hr2
        rw [hz] at hr2
        have hr2 : (r1 = 1 ∧ lo ≤ (n : Int) ∧ (n : Int) ≤ hi9) ∨ (r1 = 0 ∧ ¬ (lo ≤ (n : Int) ∧ (n : Int) ≤ hi9)) := hr2
        refine x_if_ne 31 34 rfl dX11_mostAlike_28 (by decide) (fun c28 => ?_) (fun c28 => ?_)
        · have hst := zma_s hb
          rw [show lo + (((min (hi9 + 1) (n : Int) - lo).toNat : Nat) : Int) = (n : Int) by omega, show (min (hi9 + 1) (n : Int) - lo).toNat + 1 = (min (hi9 + 1) ((n + 1 : Nat) : Int) - lo).toNat by omega] at hst
          refine x_aload_n 35 rfl dX11_mostAlike_34 0 rfl rfl ?_
          refine x_iload_n 36 rfl dX11_mostAlike_35 1 rfl rfl ?_
          refine x_iload 38 rfl dX11_mostAlike_36 rfl ?_
          refine x_cVi 41 rfl lX11_365 dX11_mostAlike_38 (lyl55 hL) (lys55 hL) (c_X11_wholeOf hL hi (by omega) hl (by omega)) rfl rfl (Nat.le_of_ble_eq_true rfl) (fun r3 M3 hr3 => ?_)
          obtain ⟨hr4, hM3⟩ := hr3
          rw [hM3]
          subst hr4
          refine x_iload 43 rfl dX11_mostAlike_41 rfl ?_
          refine x_icmp_ne 46 52 rfl dX11_mostAlike_43 (by decide) (fun c43 => ?_) (fun c43 => ?_)
          · rw [if_neg c43] at hst
            refine x_iconst 53 rfl dX11_mostAlike_52 (by decide) ?_
            refine y_istore_n 54 rfl dX11_mostAlike_53 rfl rfl (ls' := [_, _, _, _, _, _]) rfl (by decide) ?_
            refine x_aload_n 55 rfl dX11_mostAlike_54 0 rfl rfl ?_
            refine x_iload_n 56 rfl dX11_mostAlike_55 1 rfl rfl ?_
            refine x_iload 58 rfl dX11_mostAlike_56 rfl ?_
            refine x_cVi 61 rfl lX11_365 dX11_mostAlike_58 (lyl55 hL) (lys55 hL) (c_X11_wholeOf hL hi (by omega) hl (by omega)) rfl rfl (Nat.le_of_ble_eq_true rfl) (fun r5 M5 hr5 => ?_)
            obtain ⟨hr6, hM5⟩ := hr5
            rw [hM5]
            subst hr6
            refine y_istore 63 rfl dX11_mostAlike_61 rfl (ls' := [_, _, _, _, _, _]) rfl (by decide) ?_
            refine x_iload_n 64 rfl dX11_mostAlike_63 2 rfl rfl ?_
            refine x_iload_n 65 rfl dX11_mostAlike_64 3 rfl rfl ?_
            refine x_cSi 68 rfl lX11_136 dX11_mostAlike_65 c_X11_greater rfl rfl (Nat.le_of_ble_eq_true rfl) (fun r7 M7 hr7 => ?_)
            obtain ⟨hr8, hM7⟩ := hr7
            rw [hM7]
            subst hr8
            refine y_istore_n 69 rfl dX11_mostAlike_68 rfl rfl (ls' := [_, _, _, _, _, _]) rfl (by decide) ?_
            refine w_iinc 72 rfl dX11_mostAlike_69 rfl (by decide) (by omega) rfl (ls' := [_, _, _, _, _, _]) rfl (by decide) ?_
            refine x_goto 10 dX11_mostAlike_72 (by decide) ?_
            exact ih (n + 1) _ _ _ (by omega) (by omega) hst
          · rw [if_pos c43] at hst
            refine x_iload_n 47 rfl dX11_mostAlike_46 3 rfl rfl ?_
            refine x_iconst 48 rfl dX11_mostAlike_47 (by decide) ?_
            refine y_iadd 49 rfl dX11_mostAlike_48 (by omega) ?_
            refine x_goto 53 dX11_mostAlike_49 (by decide) ?_
            refine y_istore_n 54 rfl dX11_mostAlike_53 rfl rfl (ls' := [_, _, _, _, _, _]) rfl (by decide) ?_
            refine x_aload_n 55 rfl dX11_mostAlike_54 0 rfl rfl ?_
            refine x_iload_n 56 rfl dX11_mostAlike_55 1 rfl rfl ?_
            refine x_iload 58 rfl dX11_mostAlike_56 rfl ?_
            refine x_cVi 61 rfl lX11_365 dX11_mostAlike_58 (lyl55 hL) (lys55 hL) (c_X11_wholeOf hL hi (by omega) hl (by omega)) rfl rfl (Nat.le_of_ble_eq_true rfl) (fun r5 M5 hr5 => ?_)
            obtain ⟨hr6, hM5⟩ := hr5
            rw [hM5]
            subst hr6
            refine y_istore 63 rfl dX11_mostAlike_61 rfl (ls' := [_, _, _, _, _, _]) rfl (by decide) ?_
            refine x_iload_n 64 rfl dX11_mostAlike_63 2 rfl rfl ?_
            refine x_iload_n 65 rfl dX11_mostAlike_64 3 rfl rfl ?_
            refine x_cSi 68 rfl lX11_136 dX11_mostAlike_65 c_X11_greater rfl rfl (Nat.le_of_ble_eq_true rfl) (fun r7 M7 hr7 => ?_)
            obtain ⟨hr8, hM7⟩ := hr7
            rw [hM7]
            subst hr8
            refine y_istore_n 69 rfl dX11_mostAlike_68 rfl rfl (ls' := [_, _, _, _, _, _]) rfl (by decide) ?_
            refine w_iinc 72 rfl dX11_mostAlike_69 rfl (by decide) (by omega) rfl (ls' := [_, _, _, _, _, _]) rfl (by decide) ?_
            refine x_goto 10 dX11_mostAlike_72 (by decide) ?_
            exact ih (n + 1) _ _ _ (by omega) (by omega) hst
        · refine x_goto 69 dX11_mostAlike_31 (by decide) ?_
          refine w_iinc 72 rfl dX11_mostAlike_69 rfl (by decide) (by omega) rfl (ls' := [_, _, _, _, _, _]) rfl (by decide) ?_
          refine x_goto 10 dX11_mostAlike_72 (by decide) ?_
          exact ih (n + 1) _ _ _ (by omega) (by omega) (by rw [show (min (hi9 + 1) ((n + 1 : Nat) : Int) - lo).toNat = (min (hi9 + 1) (n : Int) - lo).toNat by omega]; exact hb)
  refine zX_of pl_RX11 [some (zn 55), some (zi x), none, none, none, none] 4 rfl rfl ?_
  refine x_iconst 1 rfl dX11_mostAlike_0 (by decide) ?_
  refine y_istore_n 2 rfl dX11_mostAlike_1 rfl rfl (ls' := [_, _, _, _, _, _]) rfl (by decide) ?_
  refine x_iconst 3 rfl dX11_mostAlike_2 (by decide) ?_
  refine y_istore_n 4 rfl dX11_mostAlike_3 rfl rfl (ls' := [_, _, _, _, _, _]) rfl (by decide) ?_
  refine x_iconst 5 rfl dX11_mostAlike_4 (by decide) ?_
  refine y_istore 7 rfl dX11_mostAlike_5 rfl (ls' := [_, _, _, _, _, _]) rfl (by decide) ?_
  refine x_iconst 8 rfl dX11_mostAlike_7 (by decide) ?_
  refine y_istore 10 rfl dX11_mostAlike_8 rfl (ls' := [_, _, _, _, _, _]) rfl (by decide) ?_
  exact loop 1002 0 0 (-1) 0 (by omega) (by omega) (by rw [show (min (hi9 + 1) ((0 : Nat) : Int) - lo).toNat = 0 by omega]; rfl)

set_option maxRecDepth 100000 in
set_option maxHeartbeats 4000000 in
theorem c_X5_mostAlike {d sz : Nat} {S : zSh} {M : zMem} (hL : LY S sz) {k : Nat → Int} (hs : SR M 1 k) (hi : KI k) (h5 : M 49 5 = (zwg k (k 77).toNat).1) (h6 : M 49 6 = (zwg k (k 77).toNat).2) {x : Int} (hx : 0 ≤ x ∧ x < k 75) : zX (d + 1) 0 0 mX5_mostAlike [zn 49, zn 1, zi x] sz S M (zI sz S (fun r M' => r = zmost k x.toNat ∧ M' = M)) := by
  have i1 := hi.1
  have hp := zprice_in hi (m := k 2) (by omega)
  have e70 := hs.2.1.1
  have e9 := hs.1.2.2.2.2.1
  have hl := (hi.2.1 x.toNat (by omega)).2.2.2.2.1 (by omega)
  have hin := zwg_in hi (k 77).toNat (by omega)
  obtain ⟨lo, hi9, hz⟩ : ∃ lo hi9, zwg k (k 77).toNat = (lo, hi9) := ⟨_, _, rfl⟩
  rw [hz] at hin h5 h6
  have hin : 0 ≤ lo ∧ lo ≤ 1000000000 ∧ -2000000 ≤ hi9 ∧ hi9 ≤ k 73 := hin
  have h5 : M 49 5 = lo := h5
  have h6 : M 49 6 = hi9 := h6
  have loop : ∀ (q n : Nat) (a b c y : Int), 1001 < q + n → (n : Int) ≤ 1000 → y = lo + (n : Int) → (n = 0 ∨ y ≤ hi9 + 1) → zma k x.toNat lo n = (a, b, c) → zW mX5_mostAlike (d + 1) 0 0 [] (zI sz S (fun r M' => r = zmost k x.toNat ∧ M' = M)) 26 [some (zn 49), some (zn 1), some (zi x), some (zi (zprice k (k 2))), some (zi c), some (zi a), some (zi b), some (zi y), none] [] sz S M := by
    intro q
    induction q with
    | zero => intro n a b c y hq hn; omega
    | succ q ih =>
      intro n a b c y hq hn hy hy2 hb
      have hb9 := zma_in (k := k) (h := x.toNat) (lo := lo) n
      rw [hb] at hb9
      have hb9 : 0 ≤ a ∧ a ≤ (n : Int) ∧ 0 ≤ c ∧ c ≤ (n : Int) := hb9
      refine x_iload 28 rfl dX5_mostAlike_26 rfl ?_
      refine x_aload_n 29 rfl dX5_mostAlike_28 0 rfl rfl ?_
      refine x_geti 32 rfl fX5_126 dX5_mostAlike_29 (lyl49 hL) (lys49 hL) (by decide) ?_
      rw [h6]
      refine x_icmp_gt 35 87 rfl dX5_mostAlike_32 (by decide) (fun c32 => ?_) (fun c32 => ?_)
      · refine x_iload 89 rfl dX5_mostAlike_87 rfl ?_
        refine x_reti dX5_mostAlike_89 rfl ?_
        refine ⟨?_, rfl⟩
        unfold zmost
        rw [hz]
        show c = (zma k x.toNat lo (hi9 + 1 - lo).toNat).2.2
        rw [show (hi9 + 1 - lo).toNat = n by omega, hb]
      · have hmo := zmoney_in hi (oil := y) (by omega)
        have hst := zma_s hb
        rw [← hy] at hst
        have hwd : (k 1 + y * zprice k (k 2)) / k (23 + x.toNat) = zwhole k x.toNat y := rfl
        refine x_aload_n 36 rfl dX5_mostAlike_35 1 rfl rfl ?_
        refine x_iload_n 37 rfl dX5_mostAlike_36 2 rfl rfl ?_
        refine x_aload_n 38 rfl dX5_mostAlike_37 1 rfl rfl ?_
        refine x_geti 41 rfl fX5_138 dX5_mostAlike_38 (lyl1 hL) (lys1 hL) (by decide) ?_
        rw [e9]
        refine x_iload 43 rfl dX5_mostAlike_41 rfl ?_
        refine x_iload_n 44 rfl dX5_mostAlike_43 3 rfl rfl ?_
        refine y_imul 45 rfl dX5_mostAlike_44 (by omega) ?_
        refine y_iadd 46 rfl dX5_mostAlike_45 (by omega) ?_
        refine x_cVi 49 rfl lX5_151 dX5_mostAlike_46 (lyl1 hL) (lys1 hL) (c_X7_wholeBy (ly_sh1 hL) hs hi (by omega) hl (by omega)) rfl rfl (Nat.le_of_ble_eq_true rfl) (fun r3 M3 hr3 => ?_)
        obtain ⟨hr4, hM3⟩ := hr3
        rw [hM3]
        rw [hwd] at hr4
        subst hr4
        refine y_istore 51 rfl dX5_mostAlike_49 rfl (ls' := [_, _, _, _, _, _, _, _, _]) rfl (by decide) ?_
        refine x_iload 53 rfl dX5_mostAlike_51 rfl ?_
        refine x_iload 55 rfl dX5_mostAlike_53 rfl ?_
        refine x_icmp_ne 58 65 rfl dX5_mostAlike_55 (by decide) (fun c55 => ?_) (fun c55 => ?_)
        · rw [if_neg c55] at hst
          refine x_iconst 66 rfl dX5_mostAlike_65 (by decide) ?_
          refine y_istore 68 rfl dX5_mostAlike_66 rfl (ls' := [_, _, _, _, _, _, _, _, _]) rfl (by decide) ?_
          refine x_iload 70 rfl dX5_mostAlike_68 rfl ?_
          refine y_istore 72 rfl dX5_mostAlike_70 rfl (ls' := [_, _, _, _, _, _, _, _, _]) rfl (by decide) ?_
          refine x_iload 74 rfl dX5_mostAlike_72 rfl ?_
          refine x_iload 76 rfl dX5_mostAlike_74 rfl ?_
          refine x_cSi 79 rfl lX5_87 dX5_mostAlike_76 c_max rfl rfl (Nat.le_of_ble_eq_true rfl) (fun r7 M7 hr7 => ?_)
          obtain ⟨hr8, hM7⟩ := hr7
          rw [hM7]
          subst hr8
          refine y_istore 81 rfl dX5_mostAlike_79 rfl (ls' := [_, _, _, _, _, _, _, _, _]) rfl (by decide) ?_
          refine w_iinc 84 rfl dX5_mostAlike_81 rfl (by decide) (by omega) rfl (ls' := [_, _, _, _, _, _, _, _, _]) rfl (by decide) ?_
          refine x_goto 26 dX5_mostAlike_84 (by decide) ?_
          refine z_wk (ls' := [some (zn 49), some (zn 1), some (zi x), some (zi (zprice k (k 2))), some (zi _), some (zi _), some (zi _), some (zi _), none]) ⟨rfl, rfl, rfl, rfl, rfl, rfl, rfl, rfl, trivial⟩ (ih (n + 1) _ _ _ _ (by omega) (by omega) (by omega) (by omega) hst)
        · rw [if_pos c55] at hst
          refine x_iload 60 rfl dX5_mostAlike_58 rfl ?_
          refine x_iconst 61 rfl dX5_mostAlike_60 (by decide) ?_
          refine y_iadd 62 rfl dX5_mostAlike_61 (by omega) ?_
          refine x_goto 66 dX5_mostAlike_62 (by decide) ?_
          refine y_istore 68 rfl dX5_mostAlike_66 rfl (ls' := [_, _, _, _, _, _, _, _, _]) rfl (by decide) ?_
          refine x_iload 70 rfl dX5_mostAlike_68 rfl ?_
          refine y_istore 72 rfl dX5_mostAlike_70 rfl (ls' := [_, _, _, _, _, _, _, _, _]) rfl (by decide) ?_
          refine x_iload 74 rfl dX5_mostAlike_72 rfl ?_
          refine x_iload 76 rfl dX5_mostAlike_74 rfl ?_
          refine x_cSi 79 rfl lX5_87 dX5_mostAlike_76 c_max rfl rfl (Nat.le_of_ble_eq_true rfl) (fun r7 M7 hr7 => ?_)
          obtain ⟨hr8, hM7⟩ := hr7
          rw [hM7]
          subst hr8
          refine y_istore 81 rfl dX5_mostAlike_79 rfl (ls' := [_, _, _, _, _, _, _, _, _]) rfl (by decide) ?_
          refine w_iinc 84 rfl dX5_mostAlike_81 rfl (by decide) (by omega) rfl (ls' := [_, _, _, _, _, _, _, _, _]) rfl (by decide) ?_
          refine x_goto 26 dX5_mostAlike_84 (by decide) ?_
          refine z_wk (ls' := [some (zn 49), some (zn 1), some (zi x), some (zi (zprice k (k 2))), some (zi _), some (zi _), some (zi _), some (zi _), none]) ⟨rfl, rfl, rfl, rfl, rfl, rfl, rfl, rfl, trivial⟩ (ih (n + 1) _ _ _ _ (by omega) (by omega) (by omega) (by omega) hst)
  refine zX_of pl_RX5 [some (zn 49), some (zn 1), some (zi x), none, none, none, none, none, none] 6 rfl rfl ?_
  refine x_aload_n 1 rfl dX5_mostAlike_0 1 rfl rfl ?_
  refine x_aload_n 2 rfl dX5_mostAlike_1 1 rfl rfl ?_
  refine x_getr 5 rfl fX5_29 dX5_mostAlike_2 (lyl1 hL) (lys1 hL) (by decide) (8) rfl ?_
  refine x_iconst 6 rfl dX5_mostAlike_5 (by decide) ?_
  refine x_ialk 7 rfl dX5_mostAlike_6 (lyl8 hL) (lys8 hL) 0 rfl (by decide) ?_
  rw [e70]
  refine x_cVi 10 rfl lX5_78 dX5_mostAlike_7 (lyl1 hL) (lys1 hL) (c_X7_priceIn (ly_sh1 hL) hs hi (by omega)) rfl rfl (Nat.le_of_ble_eq_true rfl) (fun a1 M9 ha1 => ?_)
  obtain ⟨ha2, hM9⟩ := ha1
  rw [hM9]
  subst ha2
  refine y_istore_n 11 rfl dX5_mostAlike_10 rfl rfl (ls' := [_, _, _, _, _, _, _, _, _]) rfl (by decide) ?_
  refine x_iconst 12 rfl dX5_mostAlike_11 (by decide) ?_
  refine y_istore 14 rfl dX5_mostAlike_12 rfl (ls' := [_, _, _, _, _, _, _, _, _]) rfl (by decide) ?_
  refine x_iconst 15 rfl dX5_mostAlike_14 (by decide) ?_
  refine y_istore 17 rfl dX5_mostAlike_15 rfl (ls' := [_, _, _, _, _, _, _, _, _]) rfl (by decide) ?_
  refine x_iconst 18 rfl dX5_mostAlike_17 (by decide) ?_
  refine y_istore 20 rfl dX5_mostAlike_18 rfl (ls' := [_, _, _, _, _, _, _, _, _]) rfl (by decide) ?_
  refine x_aload_n 21 rfl dX5_mostAlike_20 0 rfl rfl ?_
  refine x_geti 24 rfl fX5_123 dX5_mostAlike_21 (lyl49 hL) (lys49 hL) (by decide) ?_
  rw [h5]
  refine y_istore 26 rfl dX5_mostAlike_24 rfl (ls' := [_, _, _, _, _, _, _, _, _]) rfl (by decide) ?_
  exact loop 1002 0 0 (-1) 0 lo (by omega) (by omega) (by omega) (Or.inl rfl) rfl
