set_option maxRecDepth 100000 in
set_option maxHeartbeats 4000000 in
theorem c_X6_cut {d sz : Nat} {S : zSh} {M : zMem} (hL : LY S sz) {size : Nat} (hs : size ≤ 400) (hB : ∀ i, 0 ≤ M 31 i ∧ M 31 i ≤ 255) {T : tS} (hT : tkG (cC (M 31)) (cV (M 31)) (M 31) size 401 0 (0, M 33, M 35, M 34) = T) : zX (d + 6) 0 0 mX6_cut [zn 32, zn 30, zi (size : Int)] sz S M (zU sz S (fun M' => M' = ck M ((T.1 + 1 : Nat) : Int) (ku T.2.1 T.1 32) (ku T.2.2.1 T.1 0) (ku T.2.2.2 T.1 (size : Int)))) := by
  have loop : ∀ (f k : Nat) (s : tS), k ≤ size → s.1 ≤ k → size < f + k → tkG (cC (M 31)) (cV (M 31)) (M 31) size f k s = T → zW mX6_cut (d + 6) 0 0 [] (zU sz S (fun M' => M' = ck M ((T.1 + 1 : Nat) : Int) (ku T.2.1 T.1 32) (ku T.2.2.1 T.1 0) (ku T.2.2.2 T.1 (size : Int)))) 7 [some (zn 32), some (zn 30), some (zi (size : Int)), some (zi (k : Int)), none, none, none] [] sz S (ck M (s.1 : Int) s.2.1 s.2.2.1 s.2.2.2) := by
    intro f
    induction f with
    | zero => intro k s h1 h2 h3; omega
    | succ f ih =>
      intro k s hk hn hf hT9
      simp only [tkG] at hT9
      by_cases hk1 : k < size
      · rw [if_neg (by omega)] at hT9
        have hB1 := hB k
        have finL : 97 ≤ M 31 k ∧ M 31 k ≤ 122 → ∀ tt : Nat, tt = tkTo (M 31) size k → zW mX6_cut (d + 6) 0 0 [] (zU sz S (fun M' => M' = ck M ((T.1 + 1 : Nat) : Int) (ku T.2.1 T.1 32) (ku T.2.2.1 T.1 0) (ku T.2.2.2 T.1 (size : Int)))) 56 [some (zn 32), some (zn 30), some (zi (size : Int)), some (zi (k : Int)), some (zi (tt : Int)), some (zi (M 31 k)), none] [] sz S (ck M (s.1 : Int) s.2.1 s.2.2.1 s.2.2.2) := by
          intro hlt tt htt
          rw [if_neg (by omega)] at hT9
          have hto := tkTo_in (b := M 31) hk1
          rw [← htt] at hto
          refine x_aload_n 57 rfl dX6_cut_56 0 rfl rfl ?_
          refine x_iload_n 58 rfl dX6_cut_57 3 rfl rfl ?_
          refine x_aload_n 59 rfl dX6_cut_58 1 rfl rfl ?_
          refine x_iload_n 60 rfl dX6_cut_59 3 rfl rfl ?_
          refine x_iload 62 rfl dX6_cut_60 rfl ?_
          refine x_cSi 65 rfl lX6_82 dX6_cut_62 (c_X6_wordAt hL hto.1 (by omega) (by simp (disch := decide) only [ck_ne]; exact hB)) rfl rfl (Nat.le_of_ble_eq_true rfl) (fun r M1 hr1 => ?_)
          obtain ⟨rfl, hM1⟩ := hr1
          rw [hM1]
          simp (disch := decide) only [ck_ne]
          refine x_iconst 66 rfl dX6_cut_65 (by decide) ?_
          refine x_cVu 69 rfl lX6_86 dX6_cut_66 (lyl32 hL) (lys32 hL) (c_X6_note hL (s := s) (by omega)) rfl rfl (Nat.le_of_ble_eq_true rfl) (fun M2 hM2 => ?_)
          rw [hM2]
          refine z_mem (M' := ck M ((s.1 + 1 : Nat) : Int) (ku s.2.1 s.1 (cC (M 31) k tt)) (ku s.2.2.1 s.1 (cV (M 31) k tt)) (ku s.2.2.2 s.1 (k : Int))) (by rw [show cC (M 31) k tt = wlN 30 WC 0 (wsg (M 31) k (tt - k)) by unfold cC; rw [if_pos hlt], show cV (M 31) k tt = 0 by unfold cV; rw [if_neg (by omega)]]) ?_
          refine x_goto 164 dX6_cut_69 (by decide) ?_
          refine x_iload 166 rfl dX6_cut_164 rfl ?_
          refine y_istore_n 167 rfl dX6_cut_166 rfl rfl (ls' := [_, _, _, _, _, _, _]) rfl (by decide) ?_
          refine x_goto 7 dX6_cut_167 (by decide) ?_
          refine z_wk (ls' := [some (zn 32), some (zn 30), some (zi (size : Int)), some (zi (tt : Int)), none, none, none]) ⟨rfl, rfl, rfl, rfl, trivial⟩ (ih tt (s.1 + 1, ku s.2.1 s.1 (cC (M 31) k tt), ku s.2.2.1 s.1 (cV (M 31) k tt), ku s.2.2.2 s.1 (k : Int)) (by omega) (by show s.1 + 1 ≤ tt; omega) (by omega) (by rw [← htt] at hT9; exact hT9))
        have loopL : 97 ≤ M 31 k ∧ M 31 k ≤ 122 → ∀ (g to : Nat), to ≤ size → size < g + to → rnL (M 31) size g to = tkTo (M 31) size k → zW mX6_cut (d + 6) 0 0 [] (zU sz S (fun M' => M' = ck M ((T.1 + 1 : Nat) : Int) (ku T.2.1 T.1 32) (ku T.2.2.1 T.1 0) (ku T.2.2.2 T.1 (size : Int)))) 32 [some (zn 32), some (zn 30), some (zi (size : Int)), some (zi (k : Int)), some (zi (to : Int)), some (zi (M 31 k)), none] [] sz S (ck M (s.1 : Int) s.2.1 s.2.2.1 s.2.2.2) := by
          intro hlt g
          induction g with
          | zero => intro to h4 h5; omega
          | succ g ihg =>
            intro to h4 h5 h6
            simp only [rnL] at h6
            have hBt := hB to
            refine x_iload 34 rfl dX6_cut_32 rfl ?_
            refine x_iload_n 35 rfl dX6_cut_34 2 rfl rfl ?_
            refine x_icmp_ge 38 56 rfl dX6_cut_35 (by decide) (fun c35 => ?_) (fun c35 => ?_)
            · rw [if_neg (by omega)] at h6
              exact finL hlt to h6
            · refine x_aload_n 39 rfl dX6_cut_38 1 rfl rfl ?_
              refine x_iload 41 rfl dX6_cut_39 rfl ?_
              refine x_cVi 44 rfl lX6_73 dX6_cut_41 (lyl30 hL) (lys30 hL) (c_X8_byteAt hL) rfl rfl (Nat.le_of_ble_eq_true rfl) (fun r M1 hr1 => ?_)
              obtain ⟨rfl, hM1⟩ := hr1
              rw [hM1, if_pos (by omega)]
              simp (disch := omega) only [ck_ne, Int.toNat_natCast]
              refine x_cSi 47 rfl lX6_79 dX6_cut_44 c_X6_isLetter rfl rfl (Nat.le_of_ble_eq_true rfl) (fun r M1 hr1 => ?_)
              obtain ⟨rfl, hM1⟩ := hr1
              rw [hM1]
              refine x_if_eq 50 56 rfl dX6_cut_47 (by decide) (fun c47 => ?_) (fun c47 => ?_)
              · have h8 : ¬ (97 ≤ M 31 to ∧ M 31 to ≤ 122) := by intro hh; rw [if_pos hh] at c47; omega
                rw [if_neg (by omega)] at h6
                exact finL hlt to h6
              · have h8 : (97 ≤ M 31 to ∧ M 31 to ≤ 122) := by apply Classical.byContradiction; intro hh; rw [if_neg hh] at c47; omega
                rw [if_pos (by omega)] at h6
                refine w_iinc 53 rfl dX6_cut_50 rfl (by decide) (by omega) rfl (ls' := [_, _, _, _, _, _, _]) rfl (by decide) ?_
                refine x_goto 32 dX6_cut_53 (by decide) ?_
                refine z_wk (ls' := [some (zn 32), some (zn 30), some (zi (size : Int)), some (zi (k : Int)), some (zi ((to + 1 : Nat) : Int)), some (zi (M 31 k)), none]) ⟨rfl, rfl, rfl, rfl, z_e (by omega), rfl, trivial⟩ (ihg (to + 1) (by omega) (by omega) h6)
        have loopD : 48 ≤ M 31 k ∧ M 31 k ≤ 57 → ∀ (g to : Nat) (y : Int), to ≤ size → size < g + to → k + 1 ≤ to → rnD (M 31) size g to = tkTo (M 31) size k → vC (M 31) (tkTo (M 31) size k - to) to y = cV (M 31) k (tkTo (M 31) size k) → (0 ≤ y ∧ y ≤ 1001) → zW mX6_cut (d + 6) 0 0 [] (zU sz S (fun M' => M' = ck M ((T.1 + 1 : Nat) : Int) (ku T.2.1 T.1 32) (ku T.2.2.1 T.1 0) (ku T.2.2.2 T.1 (size : Int)))) 87 [some (zn 32), some (zn 30), some (zi (size : Int)), some (zi (k : Int)), some (zi (to : Int)), some (zi (M 31 k)), some (zi y)] [] sz S (ck M (s.1 : Int) s.2.1 s.2.2.1 s.2.2.2) := by
          intro hlt g
          rw [if_neg (by omega)] at hT9
          have hto := tkTo_in (b := M 31) hk1
          induction g with
          | zero => intro to y h4 h5; omega
          | succ g ihg =>
            intro to y h4 h5 h3 h6 h7 h8
            have h6b := h6
            simp only [rnD] at h6
            have hBt := hB to
            refine x_iload 89 rfl dX6_cut_87 rfl ?_
            refine x_iload_n 90 rfl dX6_cut_89 2 rfl rfl ?_
            refine x_icmp_ge 93 134 rfl dX6_cut_90 (by decide) (fun c90 => ?_) (fun c90 => ?_)
            · rw [if_neg (by omega)] at h6
              refine x_aload_n 135 rfl dX6_cut_134 0 rfl rfl ?_
              refine x_iload_n 136 rfl dX6_cut_135 3 rfl rfl ?_
              refine x_bipush 138 rfl dX6_cut_136 (by decide) ?_
              refine x_iload 140 rfl dX6_cut_138 rfl ?_
              refine x_cVu 143 rfl lX6_86 dX6_cut_140 (lyl32 hL) (lys32 hL) (c_X6_note hL (s := s) (by omega)) rfl rfl (Nat.le_of_ble_eq_true rfl) (fun M2 hM2 => ?_)
              rw [hM2]
              obtain ⟨tt, htt⟩ : ∃ tt, tt = tkTo (M 31) size k := ⟨_, rfl⟩
              have hto2 : to = tt := by rw [htt]; exact h6
              subst hto2
              rw [← htt, Nat.sub_self] at h7
              have h7 : y = cV (M 31) k to := h7
              refine z_mem (M' := ck M ((s.1 + 1 : Nat) : Int) (ku s.2.1 s.1 (cC (M 31) k to)) (ku s.2.2.1 s.1 (cV (M 31) k to)) (ku s.2.2.2 s.1 (k : Int))) (by rw [show cC (M 31) k to = 31 by unfold cC; rw [if_neg (by omega), if_pos hlt], h7]) ?_
              refine x_goto 164 dX6_cut_143 (by decide) ?_
              refine x_iload 166 rfl dX6_cut_164 rfl ?_
              refine y_istore_n 167 rfl dX6_cut_166 rfl rfl (ls' := [_, _, _, _, _, _, _]) rfl (by decide) ?_
              refine x_goto 7 dX6_cut_167 (by decide) ?_
              refine z_wk (ls' := [some (zn 32), some (zn 30), some (zi (size : Int)), some (zi (to : Int)), none, none, none]) ⟨rfl, rfl, rfl, rfl, trivial⟩ (ih to (s.1 + 1, ku s.2.1 s.1 (cC (M 31) k to), ku s.2.2.1 s.1 (cV (M 31) k to), ku s.2.2.2 s.1 (k : Int)) (by omega) (by show s.1 + 1 ≤ to; omega) (by omega) (by rw [← htt] at hT9; exact hT9))
            · refine x_aload_n 94 rfl dX6_cut_93 1 rfl rfl ?_
              refine x_iload 96 rfl dX6_cut_94 rfl ?_
              refine x_cVi 99 rfl lX6_73 dX6_cut_96 (lyl30 hL) (lys30 hL) (c_X8_byteAt hL) rfl rfl (Nat.le_of_ble_eq_true rfl) (fun r M1 hr1 => ?_)
              obtain ⟨rfl, hM1⟩ := hr1
              rw [hM1, if_pos (by omega)]
              simp (disch := omega) only [ck_ne, Int.toNat_natCast]
              refine x_cSi 102 rfl lX6_90 dX6_cut_99 c_X6_isDigit rfl rfl (Nat.le_of_ble_eq_true rfl) (fun r M1 hr1 => ?_)
              obtain ⟨rfl, hM1⟩ := hr1
              rw [hM1]
              refine x_if_eq 105 134 rfl dX6_cut_102 (by decide) (fun c102 => ?_) (fun c102 => ?_)
              · have h9 : ¬ (48 ≤ M 31 to ∧ M 31 to ≤ 57) := by intro hh; rw [if_pos hh] at c102; omega
                rw [if_neg (by omega)] at h6
                refine x_aload_n 135 rfl dX6_cut_134 0 rfl rfl ?_
                refine x_iload_n 136 rfl dX6_cut_135 3 rfl rfl ?_
                refine x_bipush 138 rfl dX6_cut_136 (by decide) ?_
                refine x_iload 140 rfl dX6_cut_138 rfl ?_
                refine x_cVu 143 rfl lX6_86 dX6_cut_140 (lyl32 hL) (lys32 hL) (c_X6_note hL (s := s) (by omega)) rfl rfl (Nat.le_of_ble_eq_true rfl) (fun M2 hM2 => ?_)
                rw [hM2]
                obtain ⟨tt, htt⟩ : ∃ tt, tt = tkTo (M 31) size k := ⟨_, rfl⟩
                have hto2 : to = tt := by rw [htt]; exact h6
                subst hto2
                rw [← htt, Nat.sub_self] at h7
                have h7 : y = cV (M 31) k to := h7
                refine z_mem (M' := ck M ((s.1 + 1 : Nat) : Int) (ku s.2.1 s.1 (cC (M 31) k to)) (ku s.2.2.1 s.1 (cV (M 31) k to)) (ku s.2.2.2 s.1 (k : Int))) (by rw [show cC (M 31) k to = 31 by unfold cC; rw [if_neg (by omega), if_pos hlt], h7]) ?_
                refine x_goto 164 dX6_cut_143 (by decide) ?_
                refine x_iload 166 rfl dX6_cut_164 rfl ?_
                refine y_istore_n 167 rfl dX6_cut_166 rfl rfl (ls' := [_, _, _, _, _, _, _]) rfl (by decide) ?_
                refine x_goto 7 dX6_cut_167 (by decide) ?_
                refine z_wk (ls' := [some (zn 32), some (zn 30), some (zi (size : Int)), some (zi (to : Int)), none, none, none]) ⟨rfl, rfl, rfl, rfl, trivial⟩ (ih to (s.1 + 1, ku s.2.1 s.1 (cC (M 31) k to), ku s.2.2.1 s.1 (cV (M 31) k to), ku s.2.2.2 s.1 (k : Int)) (by omega) (by show s.1 + 1 ≤ to; omega) (by omega) (by rw [← htt] at hT9; exact hT9))
              · have h9 : (48 ≤ M 31 to ∧ M 31 to ≤ 57) := by apply Classical.byContradiction; intro hh; rw [if_neg hh] at c102; omega
                rw [if_pos (by omega)] at h6
                have hr9 := rnD_in (M 31) size g (to + 1) (by omega)
                rw [h6] at hr9
                rw [show tkTo (M 31) size k - to = (tkTo (M 31) size k - (to + 1)) + 1 by omega] at h7
                simp only [vC] at h7
                refine x_sipush 108 rfl dX6_cut_105 (by decide) ?_
                refine x_iload 110 rfl dX6_cut_108 rfl ?_
                refine x_bipush 112 rfl dX6_cut_110 (by decide) ?_
                refine y_imul 113 rfl dX6_cut_112 (by omega) ?_
                refine x_aload_n 114 rfl dX6_cut_113 1 rfl rfl ?_
                refine x_iload 116 rfl dX6_cut_114 rfl ?_
                refine x_cVi 119 rfl lX6_73 dX6_cut_116 (lyl30 hL) (lys30 hL) (c_X8_byteAt hL) rfl rfl (Nat.le_of_ble_eq_true rfl) (fun r M1 hr1 => ?_)
                obtain ⟨rfl, hM1⟩ := hr1
                rw [hM1, if_pos (by omega)]
                simp (disch := omega) only [ck_ne, Int.toNat_natCast]
                refine y_iadd 120 rfl dX6_cut_119 (by omega) ?_
                refine x_bipush 122 rfl dX6_cut_120 (by decide) ?_
                refine y_isub 123 rfl dX6_cut_122 (by omega) ?_
                refine x_cSi 126 rfl lX6_30 dX6_cut_123 c_min rfl rfl (Nat.le_of_ble_eq_true rfl) (fun r M1 hr1 => ?_)
                obtain ⟨rfl, hM1⟩ := hr1
                rw [hM1]
                refine y_istore 128 rfl dX6_cut_126 rfl (ls' := [_, _, _, _, _, _, _]) rfl (by decide) ?_
                refine w_iinc 131 rfl dX6_cut_128 rfl (by decide) (by omega) rfl (ls' := [_, _, _, _, _, _, _]) rfl (by decide) ?_
                refine x_goto 87 dX6_cut_131 (by decide) ?_
                refine z_wk (ls' := [some (zn 32), some (zn 30), some (zi (size : Int)), some (zi (k : Int)), some (zi ((to + 1 : Nat) : Int)), some (zi (M 31 k)), some (zi (min 1001 (y * 10 + M 31 to - 48)))]) ⟨rfl, rfl, rfl, rfl, z_e (by omega), rfl, rfl, trivial⟩ (ihg (to + 1) _ (by omega) (by omega) (by omega) h6 h7 (by omega))
        refine x_iload_n 8 rfl dX6_cut_7 3 rfl rfl ?_
        refine x_iload_n 9 rfl dX6_cut_8 2 rfl rfl ?_
        refine x_icmp_ge 12 170 rfl dX6_cut_9 (by decide) (fun c9 => ?_) (fun c9 => ?_)
        · exfalso; omega
        · refine x_iload_n 13 rfl dX6_cut_12 3 rfl rfl ?_
          refine x_iconst 14 rfl dX6_cut_13 (by decide) ?_
          refine y_iadd 15 rfl dX6_cut_14 (by omega) ?_
          refine y_istore 17 rfl dX6_cut_15 rfl (ls' := [_, _, _, _, _, _, _]) rfl (by decide) ?_
          refine x_aload_n 18 rfl dX6_cut_17 1 rfl rfl ?_
          refine x_iload_n 19 rfl dX6_cut_18 3 rfl rfl ?_
          refine x_cVi 22 rfl lX6_73 dX6_cut_19 (lyl30 hL) (lys30 hL) (c_X8_byteAt hL) rfl rfl (Nat.le_of_ble_eq_true rfl) (fun r M1 hr1 => ?_)
          obtain ⟨rfl, hM1⟩ := hr1
          rw [hM1, if_pos (by omega)]
          simp (disch := omega) only [ck_ne, Int.toNat_natCast]
          refine y_istore 24 rfl dX6_cut_22 rfl (ls' := [_, _, _, _, _, _, _]) rfl (by decide) ?_
          refine x_iload 26 rfl dX6_cut_24 rfl ?_
          refine x_cSi 29 rfl lX6_79 dX6_cut_26 c_X6_isLetter rfl rfl (Nat.le_of_ble_eq_true rfl) (fun r M1 hr1 => ?_)
          obtain ⟨rfl, hM1⟩ := hr1
          rw [hM1]
          refine x_if_eq 32 72 rfl dX6_cut_29 (by decide) (fun c29 => ?_) (fun c29 => ?_)
          · have h8 : ¬ (97 ≤ M 31 k ∧ M 31 k ≤ 122) := by intro hh; rw [if_pos hh] at c29; omega
            refine x_iload 74 rfl dX6_cut_72 rfl ?_
            refine x_cSi 77 rfl lX6_90 dX6_cut_74 c_X6_isDigit rfl rfl (Nat.le_of_ble_eq_true rfl) (fun r M1 hr1 => ?_)
            obtain ⟨rfl, hM1⟩ := hr1
            rw [hM1]
            refine x_if_eq 80 146 rfl dX6_cut_77 (by decide) (fun c77 => ?_) (fun c77 => ?_)
            · have h9 : ¬ (48 ≤ M 31 k ∧ M 31 k ≤ 57) := by intro hh; rw [if_pos hh] at c77; omega
              refine x_iload 148 rfl dX6_cut_146 rfl ?_
              refine x_bipush 150 rfl dX6_cut_148 (by decide) ?_
              refine x_icmp_eq 153 164 rfl dX6_cut_150 (by decide) (fun c150 => ?_) (fun c150 => ?_)
              · rw [if_pos (by omega)] at hT9
                refine x_iload 166 rfl dX6_cut_164 rfl ?_
                refine y_istore_n 167 rfl dX6_cut_166 rfl rfl (ls' := [_, _, _, _, _, _, _]) rfl (by decide) ?_
                refine x_goto 7 dX6_cut_167 (by decide) ?_
                refine z_wk (ls' := [some (zn 32), some (zn 30), some (zi (size : Int)), some (zi ((k + 1 : Nat) : Int)), none, none, none]) ⟨rfl, rfl, rfl, z_e (by omega), trivial⟩ (ih (k + 1) s (by omega) (by omega) (by omega) hT9)
              · rw [if_neg (by omega)] at hT9
                obtain ⟨tt, htt⟩ : ∃ tt, tt = tkTo (M 31) size k := ⟨_, rfl⟩
                have htk : tt = k + 1 := by rw [htt]; unfold tkTo; rw [if_neg h8, if_neg h9]
                refine x_aload_n 154 rfl dX6_cut_153 0 rfl rfl ?_
                refine x_iload_n 155 rfl dX6_cut_154 3 rfl rfl ?_
                refine x_bipush 157 rfl dX6_cut_155 (by decide) ?_
                refine x_iload 159 rfl dX6_cut_157 rfl ?_
                refine y_iadd 160 rfl dX6_cut_159 (by omega) ?_
                refine x_iconst 161 rfl dX6_cut_160 (by decide) ?_
                refine x_cVu 164 rfl lX6_86 dX6_cut_161 (lyl32 hL) (lys32 hL) (c_X6_note hL (s := s) (by omega)) rfl rfl (Nat.le_of_ble_eq_true rfl) (fun M2 hM2 => ?_)
                rw [hM2]
                refine z_mem (M' := ck M ((s.1 + 1 : Nat) : Int) (ku s.2.1 s.1 (cC (M 31) k tt)) (ku s.2.2.1 s.1 (cV (M 31) k tt)) (ku s.2.2.2 s.1 (k : Int))) (by rw [show cC (M 31) k tt = 100 + M 31 k by unfold cC; rw [if_neg h8, if_neg h9], show cV (M 31) k tt = 0 by unfold cV; rw [if_neg (by omega)]]) ?_
                refine x_iload 166 rfl dX6_cut_164 rfl ?_
                refine y_istore_n 167 rfl dX6_cut_166 rfl rfl (ls' := [_, _, _, _, _, _, _]) rfl (by decide) ?_
                refine x_goto 7 dX6_cut_167 (by decide) ?_
                refine z_wk (ls' := [some (zn 32), some (zn 30), some (zi (size : Int)), some (zi (tt : Int)), none, none, none]) ⟨rfl, rfl, rfl, z_e (by omega), trivial⟩ (ih tt (s.1 + 1, ku s.2.1 s.1 (cC (M 31) k tt), ku s.2.2.1 s.1 (cV (M 31) k tt), ku s.2.2.2 s.1 (k : Int)) (by omega) (by show s.1 + 1 ≤ tt; omega) (by omega) (by rw [← htt] at hT9; exact hT9))
            · have h9 : (48 ≤ M 31 k ∧ M 31 k ≤ 57) := by apply Classical.byContradiction; intro hh; rw [if_neg hh] at c77; omega
              refine x_iload 82 rfl dX6_cut_80 rfl ?_
              refine x_bipush 84 rfl dX6_cut_82 (by decide) ?_
              refine y_isub 85 rfl dX6_cut_84 (by omega) ?_
              refine y_istore 87 rfl dX6_cut_85 rfl (ls' := [_, _, _, _, _, _, _]) rfl (by decide) ?_
              refine z_wk (ls' := [some (zn 32), some (zn 30), some (zi (size : Int)), some (zi (k : Int)), some (zi ((k + 1 : Nat) : Int)), some (zi (M 31 k)), some (zi (M 31 k - 48))]) ⟨rfl, rfl, rfl, rfl, z_e (by omega), rfl, rfl, trivial⟩ (loopD h9 401 (k + 1) (M 31 k - 48) (by omega) (by omega) (Nat.le_refl _) (by unfold tkTo; rw [if_neg h8, if_pos h9]) (by unfold cV; rw [if_pos h9]) (by omega))
          · have h8 : (97 ≤ M 31 k ∧ M 31 k ≤ 122) := by apply Classical.byContradiction; intro hh; rw [if_neg hh] at c29; omega
            refine z_wk (ls' := [some (zn 32), some (zn 30), some (zi (size : Int)), some (zi (k : Int)), some (zi ((k + 1 : Nat) : Int)), some (zi (M 31 k)), none]) ⟨rfl, rfl, rfl, rfl, z_e (by omega), rfl, trivial⟩ (loopL h8 401 (k + 1) (by omega) (by omega) (by unfold tkTo; rw [if_pos h8]))
      · rw [if_pos (by omega)] at hT9
        refine x_iload_n 8 rfl dX6_cut_7 3 rfl rfl ?_
        refine x_iload_n 9 rfl dX6_cut_8 2 rfl rfl ?_
        refine x_icmp_ge 12 170 rfl dX6_cut_9 (by decide) (fun c9 => ?_) (fun c9 => ?_)
        · refine x_aload_n 171 rfl dX6_cut_170 0 rfl rfl ?_
          refine x_iload_n 172 rfl dX6_cut_171 2 rfl rfl ?_
          refine x_bipush 174 rfl dX6_cut_172 (by decide) ?_
          refine x_iconst 175 rfl dX6_cut_174 (by decide) ?_
          refine x_cVu 178 rfl lX6_86 dX6_cut_175 (lyl32 hL) (lys32 hL) (c_X6_note hL (s := s) (by omega)) rfl rfl (Nat.le_of_ble_eq_true rfl) (fun M2 hM2 => ?_)
          rw [hM2]
          refine x_retu dX6_cut_178 rfl ?_
          rw [← hT9]
        · exfalso; omega
  refine zX_of pl_RX6 [some (zn 32), some (zn 30), some (zi (size : Int)), none, none, none, none] 4 rfl rfl ?_
  refine x_aload_n 1 rfl dX6_cut_0 0 rfl rfl ?_
  refine x_iconst 2 rfl dX6_cut_1 (by decide) ?_
  refine x_puti 5 rfl fX6_70 dX6_cut_2 (lyl32 hL) (lys32 hL) (by decide) ?_
  try simp only [ck_3, ck_o, ck_33, ck_34, ck_35, ck_ne, ck_w3, ck_w33, ck_w34, ck_w35]
  rw [ck_init]
  refine x_iconst 6 rfl dX6_cut_5 (by decide) ?_
  refine y_istore_n 7 rfl dX6_cut_6 rfl rfl (ls' := [_, _, _, _, _, _, _]) rfl (by decide) ?_
  exact loop 401 0 (0, M 33, M 35, M 34) (by omega) (by show 0 ≤ 0; omega) (by omega) hT
