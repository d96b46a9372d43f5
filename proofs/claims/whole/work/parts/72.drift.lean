/-! drift, drawn -/
theorem TX_SH {S : zSh} {sz a T nh nc : Nat} (h : SH S sz a) (hT : TX S sz T nh nc) : T + 2 < a ∨ a + 11 ≤ T := by
  obtain ⟨-, t0, t1, t2⟩ := hT
  have k0 : (S T).1 = 9 := by rw [t0]
  have k1 : (S (T + 1)).1 = 20 := by rw [t1]
  have k2 : (S (T + 2)).1 = 20 := by rw [t2]
  obtain ⟨-, h0, h1, h2, h3, h4, h5, h6, h7, h8, h9, h10⟩ := h
  rcases Classical.em (T + 2 < a ∨ a + 11 ≤ T) with hh | hh
  · exact hh
  · exfalso
    have : a = T + 2 ∨ a = T + 1 ∨ T = a ∨ T = a + 1 ∨ T = a + 2 ∨ T = a + 3 ∨ T = a + 4 ∨ T = a + 5 ∨ T = a + 6 ∨ T = a + 7 ∨ T = a + 8 ∨ T = a + 9 ∨ T = a + 10 := by omega
    rcases this with e | e | e | e | e | e | e | e | e | e | e | e | e
    · rw [e] at h0; rw [h0] at k2; cases k2
    · rw [e] at h0; rw [h0] at k1; cases k1
    · rw [e, h0] at k0; cases k0
    · rw [e, h1] at k0; cases k0
    · rw [e, h2] at k0; cases k0
    · rw [e, h3] at k0; cases k0
    · rw [e, h4] at k0; cases k0
    · rw [e, h5] at k0; cases k0
    · rw [e, h6] at k0; cases k0
    · rw [e, h7] at k0; cases k0
    · rw [e, h8] at k0; cases k0
    · rw [e, h9] at k0; cases k0
    · rw [e, h10] at k0; cases k0
theorem LwC_frame2 {S : zSh} {sz : Nat} {M M' : zMem} {a : Nat} {k k' : Nat → Int} {Lw : List gC} (hS : SH S sz a) (h : LwC S sz M a k Lw) (hk : k' 79 = k 79) (h0 : M' (a + 10) = M (a + 10)) (hM : ∀ i, 75 ≤ i → (i < a ∨ a + 11 ≤ i) → M' i = M i) : LwC S sz M' a k' Lw := by
  intro h79
  rw [hk] at h79 ⊢
  obtain ⟨T, nh, nc, h1, h2, h3, h4⟩ := h h79
  have h5 := TX_SH hS h3
  exact ⟨T, nh, nc, by rw [h0]; exact h1, h2, h3, TXM_frame h4 (hM _ (by omega) (by omega)) (hM _ (by omega) (by omega)) (hM _ (by omega) (by omega))⟩

set_option maxRecDepth 100000 in
set_option maxHeartbeats 4000000 in
theorem c_X4_drift {d sz : Nat} {S : zSh} {M : zMem} (hL : LY S sz) {a : Nat} (h : SH S sz a) (had : 75 ≤ a) {k : Nat → Int} (hs : SR M a k) (hi : KI k) (hg : 0 < k 76) {Lw : List gC} (hLw : LwC S sz M a k Lw) (hv : v42 M) {x y : Int} (hx : 0 ≤ x ∧ x ≤ 1000000) (hy : 1 ≤ y ∧ y ≤ 60) : zX (d + 5) 0 0 mX4_drift [zn 43, zn a, zi x, zi y] sz S M (zI sz S (fun r M' => r = (zyr Lw k x y.toNat).2.2 ∧ SR M' a (zyr Lw k x y.toNat).1 ∧ (∀ i, i ≠ a → i ≠ a + 2 → i ≠ a + 4 → i ≠ a + 7 → i ≠ 41 → i ≠ 42 → i ≠ 44 → M' i = M i) ∧ v42 M')) := by
  have loop : ∀ (q i : Nat) (M1 : zMem) (kk : Nat → Int) (dd c : Int), y.toNat < q + i → i ≤ y.toNat → zyr Lw k x i = (kk, dd, c) → SR M1 a kk → (∀ i, i ≠ a → i ≠ a + 2 → i ≠ a + 4 → i ≠ a + 7 → i ≠ 41 → i ≠ 42 → i ≠ 44 → M1 i = M i) → v42 M1 → zW mX4_drift (d + 5) 0 0 [] (zI sz S (fun r M' => r = (zyr Lw k x y.toNat).2.2 ∧ SR M' a (zyr Lw k x y.toNat).1 ∧ (∀ i, i ≠ a → i ≠ a + 2 → i ≠ a + 4 → i ≠ a + 7 → i ≠ 41 → i ≠ 42 → i ≠ 44 → M' i = M i) ∧ v42 M')) 9 [some (zn 43), some (zn a), some (zi x), some (zi y), some (zi dd), some (zi c), some (zi i), none, none] [] sz S M1 := by
    intro q
    induction q with
    | zero => intro i M1 kk dd c hq hn; omega
    | succ q ih =>
      intro i M1 kk dd c hq hn hz hs1 hF hv1
      have hyy := zyr_in (Lw := Lw) hi hg (d := x) (by omega) i
      rw [hz] at hyy
      obtain ⟨hk, hko, hd0, hc0⟩ := hyy
      have hk : KI kk := hk
      have hko : ∀ i, 23 ≤ i → kk i = k i := hko
      have hd0 : 0 ≤ dd ∧ dd ≤ 1000003 := hd0
      have hc0 : 0 ≤ c ∧ c ≤ 8 * (i : Int) := hc0
      have i1 := hi.1
      have k76 := hko 76 (by omega)
      have hd1 := zdr_in (d := dd)
      have hd2 := zdr_in (d := zdr dd)
      have e5 := hs1.1.2.2.1
      have e4 := hs1.1.2.1
      have e70 := hs1.2.1.1
      have hsg := zyg_in (s := (kk, dd, c)) ⟨by show 0 < kk 76; omega, by show kk 76 ≤ 4; omega⟩
      have hsg : zyg (kk, dd, c) < 4 ∧ ((zyg (kk, dd, c) : Nat) : Int) = zdr dd % kk 76 ∧ zdr dd % kk 76 < kk 76 := hsg
      have hw := zwb_in (d := zdr (zdr dd) % 10) hk hsg.1
      have hcr := zcrew_in hk
      have hcm := zcrew_mask hk
      refine x_iload 11 rfl dX4_drift_9 rfl ?_
      refine x_iload_n 12 rfl dX4_drift_11 3 rfl rfl ?_
      refine x_icmp_ge 15 121 rfl dX4_drift_12 (by decide) (fun c12 => ?_) (fun c12 => ?_)
      · refine x_iload 123 rfl dX4_drift_121 rfl ?_
        refine x_reti dX4_drift_123 rfl ?_
        have ei : y.toNat = i := by omega
        exact ⟨by rw [ei, hz], by rw [ei, hz]; exact hs1, hF, hv1⟩
      · refine x_aload_n 16 rfl dX4_drift_15 1 rfl rfl ?_
        refine x_geti 19 rfl fX4_116 dX4_drift_16 (shl0 h) (shs0 h) (by decide) ?_
        refine x_if_le 22 121 rfl dX4_drift_19 (by decide) (fun c19 => ?_) (fun c19 => ?_)
        · exfalso; omega
        · refine x_aload_n 23 rfl dX4_drift_22 1 rfl rfl ?_
          refine x_geti 26 rfl fX4_53 dX4_drift_23 (shl0 h) (shs0 h) (by decide) ?_
          refine x_if_eq 29 121 rfl dX4_drift_26 (by decide) (fun c26 => ?_) (fun c26 => ?_)
          · have hno : ¬ (0 < zcrew kk ∧ kk 2 < 71) := fun h9 => by have := hcm.1 (by omega); omega
            have hst := zyr_n (Lw := Lw) (k := k) (d := x) (n := i) (by rw [hz]; exact hno) (y.toNat - i)
            rw [show i + (y.toNat - i) = y.toNat by omega, hz] at hst
            refine x_iload 123 rfl dX4_drift_121 rfl ?_
            refine x_reti dX4_drift_123 rfl ?_
            exact ⟨by rw [hst], by rw [hst]; exact hs1, hF, hv1⟩
          · refine x_aload_n 30 rfl dX4_drift_29 1 rfl rfl ?_
            refine x_getr 33 rfl fX4_57 dX4_drift_30 (shl0 h) (shs0 h) (by decide) (a + 7) rfl ?_
            refine x_iconst 34 rfl dX4_drift_33 (by decide) ?_
            refine x_ialk 35 rfl dX4_drift_34 (shl7 h) (shs7 h) 0 rfl (by decide) ?_
            refine x_bipush 37 rfl dX4_drift_35 (by decide) ?_
            refine x_icmp_lt 40 43 rfl dX4_drift_37 (by decide) (fun c37 => ?_) (fun c37 => ?_)
            · have hgo : 0 < zcrew kk ∧ kk 2 < 71 := by
                refine ⟨?_, by omega⟩
                rcases Classical.em (0 < zcrew kk) with h9 | h9
                · exact h9
                · exfalso; exact c26 (by rw [e4]; exact hcm.2 (by omega))
              have hst := zyr_y (Lw := Lw) (k := k) (d := x) (n := i) (by rw [hz]; exact hgo)
              rw [hz] at hst
              refine x_iload 45 rfl dX4_drift_43 rfl ?_
              refine x_sipush 48 rfl dX4_drift_45 (by decide) ?_
              refine y_imul 49 rfl dX4_drift_48 (by omega) ?_
              refine x_sipush 52 rfl dX4_drift_49 (by decide) ?_
              refine y_iadd 53 rfl dX4_drift_52 (by omega) ?_
              refine x_ldc (x := 1000003) 55 rfl kX4_119 (by decide) dX4_drift_53 ?_
              refine x_irem 56 rfl dX4_drift_55 (by omega) ?_
              rw [z_tmodn (by omega), show (dd * 1103 + 12345) % 1000003 = zdr dd by unfold zdr; omega]
              refine y_istore 58 rfl dX4_drift_56 rfl (ls' := [_, _, _, _, _, _, _, _, _]) rfl (by decide) ?_
              refine x_iload 60 rfl dX4_drift_58 rfl ?_
              refine x_aload_n 61 rfl dX4_drift_60 1 rfl rfl ?_
              refine x_geti 64 rfl fX4_116 dX4_drift_61 (shl0 h) (shs0 h) (by decide) ?_
              refine x_irem 65 rfl dX4_drift_64 (by omega) ?_
              rw [z_tmodn (by omega), e5, ← hsg.2.1]
              refine y_istore 67 rfl dX4_drift_65 rfl (ls' := [_, _, _, _, _, _, _, _, _]) rfl (by decide) ?_
              refine x_iload 69 rfl dX4_drift_67 rfl ?_
              refine x_sipush 72 rfl dX4_drift_69 (by decide) ?_
              refine y_imul 73 rfl dX4_drift_72 (by omega) ?_
              refine x_sipush 76 rfl dX4_drift_73 (by decide) ?_
              refine y_iadd 77 rfl dX4_drift_76 (by omega) ?_
              refine x_ldc (x := 1000003) 79 rfl kX4_119 (by decide) dX4_drift_77 ?_
              refine x_irem 80 rfl dX4_drift_79 (by omega) ?_
              rw [z_tmodn (by omega), show (zdr dd * 1103 + 12345) % 1000003 = zdr (zdr dd) by unfold zdr; omega]
              refine y_istore 82 rfl dX4_drift_80 rfl (ls' := [_, _, _, _, _, _, _, _, _]) rfl (by decide) ?_
              refine x_aload_n 83 rfl dX4_drift_82 1 rfl rfl ?_
              refine x_iload 85 rfl dX4_drift_83 rfl ?_
              refine x_iload 87 rfl dX4_drift_85 rfl ?_
              refine x_bipush 89 rfl dX4_drift_87 (by decide) ?_
              refine x_irem 90 rfl dX4_drift_89 (by omega) ?_
              rw [z_tmodn (by omega)]
              refine x_cSi 93 rfl lX4_120 dX4_drift_90 (c_X4_takenBy h hs1 hk (by omega)) rfl rfl (Nat.le_of_ble_eq_true rfl) (fun w5 M5 hw5 => ?_)
              obtain ⟨hw5a, hM5⟩ := hw5
              rw [hM5]
              rw [show ((zyg (kk, dd, c) : Nat) : Int).toNat = zyg (kk, dd, c) by omega] at hw5a
              subst hw5a
              refine y_istore 95 rfl dX4_drift_93 rfl (ls' := [_, _, _, _, _, _, _, _, _]) rfl (by decide) ?_
              refine x_aload_n 96 rfl dX4_drift_95 0 rfl rfl ?_
              refine x_aload_n 97 rfl dX4_drift_96 1 rfl rfl ?_
              refine x_iload 99 rfl dX4_drift_97 rfl ?_
              refine x_iload 101 rfl dX4_drift_99 rfl ?_
              refine x_cVi 104 rfl lX4_25 dX4_drift_101 (lyl43 hL) (lys43 hL) (c_X4_takeWhales hL h (by omega) hs1 hk (LwC_frame2 h hLw (hko 79 (by omega)) (hF _ (by omega) (by omega) (by omega) (by omega) (by omega) (by omega) (by omega)) (fun i a1 a2 => hF i (by omega) (by omega) (by omega) (by omega) (by omega) (by omega) (by omega))) hv1) rfl rfl (Nat.le_of_ble_eq_true rfl) (fun r6 M6 hr6 => ?_)
              rw [show ((zyg (kk, dd, c) : Nat) : Int).toNat = zyg (kk, dd, c) by omega] at hr6
              have hr6 := hr6.resolve_left (fun h9 => h9.1 ⟨hw.1, hw.2.1⟩)
              have hr6 := hr6.resolve_left (fun h9 => h9.2.1 ⟨by omega, by omega⟩)
              have hr6 := hr6.resolve_left (fun h9 => h9.2.2.1 ⟨hgo.1, hgo.2, hw.2.2⟩)
              obtain ⟨-, -, -, -, hs6, hF6, hv6⟩ := hr6
              have hk6 := kH1_KI (Lw := Lw) hk hsg.1 (w := zwb kk (zyg (kk, dd, c)) (zdr (zdr dd) % 10)) ⟨hw.1, hw.2.2⟩ hgo.2
              refine x_popi 105 rfl dX4_drift_104 ?_
              refine x_iload 107 rfl dX4_drift_105 rfl ?_
              refine x_aload_n 108 rfl dX4_drift_107 0 rfl rfl ?_
              refine x_aload_n 109 rfl dX4_drift_108 1 rfl rfl ?_
              refine x_cVi 112 rfl lX4_29 dX4_drift_109 (lyl43 hL) (lys43 hL) (c_X4_runAway (Lw := Lw) hL h (by omega) hs6 hk6 (LwC_frame2 h (LwC_frame2 (k' := kk) h hLw (hko 79 (by omega)) (hF _ (by omega) (by omega) (by omega) (by omega) (by omega) (by omega) (by omega)) (fun i a1 a2 => hF i (by omega) (by omega) (by omega) (by omega) (by omega) (by omega) (by omega))) (kH1_o hsg.1 (by omega)) (hF6 _ (by omega) (by omega) (by omega) (by omega) (by omega) (by omega) (by omega)) (fun i a1 a2 => hF6 i (by omega) (by omega) (by omega) (by omega) (by omega) (by omega) (by omega))) hv6) rfl rfl (Nat.le_of_ble_eq_true rfl) (fun r7 M7 hr7 => ?_)
              obtain ⟨g, hg7, hr8, hs7, hF7, hv7⟩ := hr7
              subst hg7
              have hr8 : r7 = zgone (zoffI Lw (kH1 Lw kk (zyg (kk, dd, c)) (zwb kk (zyg (kk, dd, c)) (zdr (zdr dd) % 10)))) := hr8
              have hr9 := z01_sum (zoff01 (Lw := Lw) hk6)
              have hr9 : 0 ≤ r7 ∧ r7 ≤ 8 := by rw [hr8]; exact hr9
              subst hr8
              refine y_iadd 113 rfl dX4_drift_112 (by omega) ?_
              refine y_istore 115 rfl dX4_drift_113 rfl (ls' := [_, _, _, _, _, _, _, _, _]) rfl (by decide) ?_
              refine w_iinc 118 rfl dX4_drift_115 rfl (by decide) (by omega) rfl (ls' := [_, _, _, _, _, _, _, _, _]) rfl (by decide) ?_
              refine x_goto 9 dX4_drift_118 (by decide) ?_
              refine z_wk (ls' := [some (zn 43), some (zn a), some (zi x), some (zi y), some (zi _), some (zi _), some (zi _), none, none]) ⟨rfl, rfl, rfl, rfl, rfl, rfl, rfl, trivial⟩ (ih (i + 1) M7 _ _ _ (by omega) (by omega) hst hs7 (fun j a1 a2 a3 a4 a5 a6 a7 => ?_) hv7)
              rw [hF7 j a1 a5 a6, hF6 j a1 a2 a3 a4 a5 a6 a7]
              exact hF j a1 a2 a3 a4 a5 a6 a7
            · have hno : ¬ (0 < zcrew kk ∧ kk 2 < 71) := fun h9 => by omega
              have hst := zyr_n (Lw := Lw) (k := k) (d := x) (n := i) (by rw [hz]; exact hno) (y.toNat - i)
              rw [show i + (y.toNat - i) = y.toNat by omega, hz] at hst
              refine x_goto 121 dX4_drift_40 (by decide) ?_
              refine x_iload 123 rfl dX4_drift_121 rfl ?_
              refine x_reti dX4_drift_123 rfl ?_
              exact ⟨by rw [hst], by rw [hst]; exact hs1, hF, hv1⟩
  refine zX_of pl_RX4 [some (zn 43), some (zn a), some (zi x), some (zi y), none, none, none, none, none] 5 rfl rfl ?_
  refine x_iload_n 1 rfl dX4_drift_0 2 rfl rfl ?_
  refine y_istore 3 rfl dX4_drift_1 rfl (ls' := [_, _, _, _, _, _, _, _, _]) rfl (by decide) ?_
  refine x_iconst 4 rfl dX4_drift_3 (by decide) ?_
  refine y_istore 6 rfl dX4_drift_4 rfl (ls' := [_, _, _, _, _, _, _, _, _]) rfl (by decide) ?_
  refine x_iconst 7 rfl dX4_drift_6 (by decide) ?_
  refine y_istore 9 rfl dX4_drift_7 rfl (ls' := [_, _, _, _, _, _, _, _, _]) rfl (by decide) ?_
  exact loop (y.toNat + 1) 0 M k x 0 (by omega) (by omega) rfl hs (fun _ _ _ _ _ _ _ _ => rfl) hv

set_option maxRecDepth 100000 in
set_option maxHeartbeats 4000000 in
theorem c_X10_drawn0 {d sz : Nat} {S : zSh} {M : zMem} (hL : LY S sz) (h3 : M 0 3 = -1) {x y : Int} : zX d 0 0 mX10_drawn [zn 0, zi x, zi y] sz S M (zI sz S (fun r M' => r = -1 ∧ M' = M)) := by
  refine zX_of pl_RX10 [some (zn 0), some (zi x), some (zi y)] 0 rfl rfl ?_
  refine x_aload_n 1 rfl dX10_drawn_0 0 rfl rfl ?_
  refine x_getm 4 rfl fX10_287 dX10_drawn_1 (lyl0 hL) (lys0 hL) (by decide) ?_
  refine x_ifnonnull 7 9 rfl dX10_drawn_4 (by decide) (fun c4 => ?_) (fun c4 => ?_)
  · exact absurd h3 c4
  · refine x_iconst 8 rfl dX10_drawn_7 (by decide) ?_
    refine x_reti dX10_drawn_8 rfl ?_
    exact ⟨rfl, rfl⟩

set_option maxRecDepth 100000 in
set_option maxHeartbeats 4000000 in
theorem c_X10_drawn {d sz : Nat} {S : zSh} {M : zMem} (hL : LY S sz) {a : Nat} (hla : M 0 3 = ((a : Nat) : Int)) (h : SH S sz a) {k : Nat → Int} (hs : SR M a k) (hi : KI k) {x y : Int} : zX (d + 1) 0 0 mX10_drawn [zn 0, zi x, zi y] sz S M (zI sz S (fun r M' => r = zdrawn (k 75) (k 76) k x y ∧ M' = M)) := by
  have i1 := hi.1
  have hs9 := hs
  obtain ⟨s1, s2, s3, s4, s5, s6, -⟩ := hs
  have i2 := hi.1
  refine zX_of pl_RX10 [some (zn 0), some (zi x), some (zi y)] 0 rfl rfl ?_
  refine x_aload_n 1 rfl dX10_drawn_0 0 rfl rfl ?_
  refine x_getm 4 rfl fX10_287 dX10_drawn_1 (lyl0 hL) (lys0 hL) (by decide) ?_
  rw [hla]
  refine x_ifnonnull 7 9 rfl dX10_drawn_4 (by decide) (fun c4 => ?_) (fun c4 => ?_)
  · refine x_iload_n 10 rfl dX10_drawn_9 2 rfl rfl ?_
    refine x_tsC (0) 40 0 dX10_drawn_10 (by decide) (by decide) (by decide) rfl (by decide) (fun c10 => ?_) (fun c10_0 => ?_)
    · refine x_aload_n 41 rfl dX10_drawn_40 0 rfl rfl ?_
      refine x_getm 44 rfl fX10_287 dX10_drawn_41 (lyl0 hL) (lys0 hL) (by decide) ?_
      rw [hla]
      refine x_geti 47 rfl fX10_293 dX10_drawn_44 (shl0 h) (shs0 h) (by decide) ?_
      refine x_reti dX10_drawn_47 rfl ?_
      subst c10
      refine ⟨?_, rfl⟩
      unfold zdrawn
      rw [if_neg (by omega)]
      show M a 8 = k 0
      exact s1.2.2.2.1
    refine x_tsC (1) 48 1 dX10_drawn_10 (by decide) (by decide) (by decide) rfl (by decide) (fun c10 => ?_) (fun c10_1 => ?_)
    · refine x_aload_n 49 rfl dX10_drawn_48 0 rfl rfl ?_
      refine x_getm 52 rfl fX10_287 dX10_drawn_49 (lyl0 hL) (lys0 hL) (by decide) ?_
      rw [hla]
      refine x_getr 55 rfl fX10_170 dX10_drawn_52 (shl0 h) (shs0 h) (by decide) (a + 7) rfl ?_
      refine x_iconst 56 rfl dX10_drawn_55 (by decide) ?_
      refine x_ialk 57 rfl dX10_drawn_56 (shl7 h) (shs7 h) 0 rfl (by decide) ?_
      refine x_reti dX10_drawn_57 rfl ?_
      subst c10
      refine ⟨?_, rfl⟩
      unfold zdrawn
      rw [if_neg (by omega)]
      show M (a + 7) 0 = k 2
      exact s2.1
    refine x_tsC (2) 58 2 dX10_drawn_10 (by decide) (by decide) (by decide) rfl (by decide) (fun c10 => ?_) (fun c10_2 => ?_)
    · refine x_aload_n 59 rfl dX10_drawn_58 0 rfl rfl ?_
      refine x_getm 62 rfl fX10_287 dX10_drawn_59 (lyl0 hL) (lys0 hL) (by decide) ?_
      rw [hla]
      refine x_iload_n 63 rfl dX10_drawn_62 1 rfl rfl ?_
      refine x_cVi 66 rfl lX10_150 dX10_drawn_63 (shl0 h) (shs0 h) (c_X7_hasGround h hs9 hi) rfl rfl (Nat.le_of_ble_eq_true rfl) (fun r1 M1 hr1 => ?_)
      obtain ⟨hr2, hM1⟩ := hr1
      rw [hM1]
      refine x_if_eq 69 81 rfl dX10_drawn_66 (by decide) (fun c66 => ?_) (fun c66 => ?_)
      · have hx : ¬ (0 ≤ x ∧ x < k 76) := fun h9 => by rw [if_pos h9] at hr2; omega
        refine x_iconst 82 rfl dX10_drawn_81 (by decide) ?_
        refine x_reti dX10_drawn_82 rfl ?_
        subst c10
        refine ⟨?_, rfl⟩
        unfold zdrawn
        rw [if_neg (by omega)]
        show _ = (if 0 ≤ x ∧ x < k 76 then k (19 + x.toNat) else -1)
        rw [if_neg hx]
      · have hx : 0 ≤ x ∧ x < k 76 := Decidable.byContradiction (fun h9 => by rw [if_neg h9] at hr2; omega)
        refine x_aload_n 70 rfl dX10_drawn_69 0 rfl rfl ?_
        refine x_getm 73 rfl fX10_287 dX10_drawn_70 (lyl0 hL) (lys0 hL) (by decide) ?_
        rw [hla]
        refine x_getr 76 rfl fX10_153 dX10_drawn_73 (shl0 h) (shs0 h) (by decide) (a + 4) rfl ?_
        refine x_iload_n 77 rfl dX10_drawn_76 1 rfl rfl ?_
        refine x_iald 78 rfl dX10_drawn_77 (shl4 h) (shs4 h) (by omega) (by omega) ?_
        refine x_goto 82 dX10_drawn_78 (by decide) ?_
        refine x_reti dX10_drawn_82 rfl ?_
        subst c10
        refine ⟨?_, rfl⟩
        unfold zdrawn
        rw [if_neg (by omega)]
        show _ = (if 0 ≤ x ∧ x < k 76 then k (19 + x.toNat) else -1)
        rw [if_pos hx]
        exact s6 x.toNat (by omega)
    refine x_tsC (3) 83 3 dX10_drawn_10 (by decide) (by decide) (by decide) rfl (by decide) (fun c10 => ?_) (fun c10_3 => ?_)
    · refine x_aload_n 84 rfl dX10_drawn_83 0 rfl rfl ?_
      refine x_getm 87 rfl fX10_287 dX10_drawn_84 (lyl0 hL) (lys0 hL) (by decide) ?_
      rw [hla]
      refine x_iload_n 88 rfl dX10_drawn_87 1 rfl rfl ?_
      refine x_cVi 91 rfl lX10_107 dX10_drawn_88 (shl0 h) (shs0 h) (c_X7_hasHand h hs9 hi) rfl rfl (Nat.le_of_ble_eq_true rfl) (fun r1 M1 hr1 => ?_)
      obtain ⟨hr2, hM1⟩ := hr1
      rw [hM1]
      refine x_if_eq 94 106 rfl dX10_drawn_91 (by decide) (fun c91 => ?_) (fun c91 => ?_)
      · have hx : ¬ (0 ≤ x ∧ x < k 75) := fun h9 => by rw [if_pos h9] at hr2; omega
        refine x_iconst 107 rfl dX10_drawn_106 (by decide) ?_
        refine x_reti dX10_drawn_107 rfl ?_
        subst c10
        refine ⟨?_, rfl⟩
        unfold zdrawn
        rw [if_neg (by omega)]
        show _ = (if 0 ≤ x ∧ x < k 75 then k (3 + x.toNat) else -1)
        rw [if_neg hx]
      · have hx : 0 ≤ x ∧ x < k 75 := Decidable.byContradiction (fun h9 => by rw [if_neg h9] at hr2; omega)
        refine x_aload_n 95 rfl dX10_drawn_94 0 rfl rfl ?_
        refine x_getm 98 rfl fX10_287 dX10_drawn_95 (lyl0 hL) (lys0 hL) (by decide) ?_
        rw [hla]
        refine x_getr 101 rfl fX10_115 dX10_drawn_98 (shl0 h) (shs0 h) (by decide) (a + 2) rfl ?_
        refine x_iload_n 102 rfl dX10_drawn_101 1 rfl rfl ?_
        refine x_iald 103 rfl dX10_drawn_102 (shl2 h) (shs2 h) (by omega) (by omega) ?_
        refine x_goto 107 dX10_drawn_103 (by decide) ?_
        refine x_reti dX10_drawn_107 rfl ?_
        subst c10
        refine ⟨?_, rfl⟩
        unfold zdrawn
        rw [if_neg (by omega)]
        show _ = (if 0 ≤ x ∧ x < k 75 then k (3 + x.toNat) else -1)
        rw [if_pos hx]
        exact s4 x.toNat (by omega)
    refine x_tsOut 108 dX10_drawn_10 (by omega) (by decide) ?_
    refine x_iconst 109 rfl dX10_drawn_108 (by decide) ?_
    refine x_reti dX10_drawn_109 rfl ?_
    refine ⟨?_, rfl⟩
    unfold zdrawn
    repeat rw [if_neg (by omega)]
  · exfalso; omega
