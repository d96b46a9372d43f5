/-! the acts of the class, as they are called -/
theorem actR_in {Lw : List gC} {k k' : Nat → Int} {K x y r : Int} (hi : KI k) (hK : 16 ≤ K ∧ K ≤ 19) (h : actR Lw k K x y r k') : (-6 ≤ r ∧ r ≤ 1000000) ∧ KI k' := by
  obtain ⟨hA, hB, hC, hD⟩ := h
  have i0 := hi.1
  have : K = 16 ∨ K = 17 ∨ K = 18 ∨ K = 19 := by omega
  rcases this with e | e | e | e
  · rcases hA e with ⟨h1, h2, h3⟩ | ⟨h1, h0, h2, h3⟩ | ⟨h1, h0, h2, h3, h4⟩ | ⟨h1, h0, h2, h3, h4⟩
    · exact ⟨by omega, by rw [h3]; exact hi⟩
    · exact ⟨by omega, by rw [h3]; exact hi⟩
    · exact ⟨by omega, by rw [h4]; exact hi⟩
    · have i1 := kH1_KI (Lw := Lw) (w := y) (g := x.toNat) hi (by omega) ⟨h1.1, h2.2.2⟩ h2.2.1
      have i2 : 0 ≤ zgone (zoffI Lw (kH1 Lw k x.toNat y)) ∧ zgone (zoffI Lw (kH1 Lw k x.toNat y)) ≤ 8 := z01_sum (zoff01 (Lw := Lw) i1)
      exact ⟨by omega, by rw [h4]; exact kH2_KI i1⟩
  · rcases hB e with ⟨h1, h2, h3⟩ | ⟨h1, h2, h3, h4⟩ | ⟨h1, h2, h3, h4⟩
    · exact ⟨by omega, by rw [h3]; exact hi⟩
    · exact ⟨by omega, by rw [h4]; exact hi⟩
    · have i1 := kSell_KI hi h1 h2
      have i2 := i1.1
      exact ⟨by omega, by rw [h4]; exact i1⟩
  · rcases hC e with ⟨h1, h2, h3⟩ | ⟨h1, h0, h2, h3⟩ | ⟨h1, h0, h2, h3, h4⟩ | ⟨h1, h0, h2, h3, h4, h5⟩
    · exact ⟨by omega, by rw [h3]; exact hi⟩
    · exact ⟨by omega, by rw [h3]; exact hi⟩
    · exact ⟨by omega, by rw [h4]; exact hi⟩
    · have i1 := kAdv_KI (h := x.toNat) hi (by omega) ⟨h1.1, h3⟩
      have i2 := (i1.2.1 x.toNat (by omega)).1
      exact ⟨by omega, by rw [h5]; exact i1⟩
  · rcases hD e with ⟨h1, h2, h3⟩ | ⟨h1, h2, h3, h4⟩ | ⟨h1, h2, h3, h4⟩
    · exact ⟨by omega, by rw [h3]; exact hi⟩
    · exact ⟨by omega, by rw [h4]; exact hi⟩
    · have i1 := kLeave_KI (h := x.toNat) hi (by omega)
      have i2 := zcrew_in i1
      exact ⟨by omega, by rw [h4]; exact i1⟩
def cFin (M1 : zMem) (r : Int) : zMem := if r < 0 then cRef M1 r else z_up M1 0 15 0

set_option maxRecDepth 100000 in
set_option maxHeartbeats 4000000 in
theorem c_X10_hunt {d sz : Nat} {S : zSh} {M : zMem} (hL : LY S sz) (hr : ∀ i, i < 7 → 0 ≤ M 54 i ∧ M 54 i ≤ 1000000) {k : Nat → Int} (hs : SR M 1 k) (hi : KI k) {Lw : List gC} (hLw : LwC S sz M 1 k Lw) (hv : v42 M) {n : Nat} {l : Nat → Nat → Int} (hl : LR M 24 l n) {x y : Int} : zX (d + 6) 0 0 mX10_hunt [zn 0, zi x, zi y] sz S M (zI sz S (fun r M' => ∃ k' M1, actR Lw k 16 x y r k' ∧ SR M1 1 k' ∧ KI k' ∧ (r < 0 → LR M1 24 l n) ∧ (0 ≤ r → LR M1 24 (lpush l n k (16 - 16)) (min (n + 1) 16)) ∧ (∀ i, i ≠ 1 → i ≠ 1 + 2 → i ≠ 1 + 4 → i ≠ 1 + 7 → i ≠ 41 → i ≠ 42 → i ≠ 44 → i ≠ 24 → i ≠ 24 + 1 → i ≠ 24 + 2 → M1 i = M i) ∧ v42 M1 ∧ M' = cFin M1 r)) := by
  refine zX_of pl_RX10 [some (zn 0), some (zi x), some (zi y)] 0 rfl rfl ?_
  refine x_aload_n 1 rfl dX10_hunt_0 0 rfl rfl ?_
  refine x_aload_n 2 rfl dX10_hunt_1 0 rfl rfl ?_
  refine x_getr 5 rfl fX10_59 dX10_hunt_2 (lyl0 hL) (lys0 hL) (by decide) (43) rfl ?_
  refine x_aload_n 6 rfl dX10_hunt_5 0 rfl rfl ?_
  refine x_getr 9 rfl fX10_10 dX10_hunt_6 (lyl0 hL) (lys0 hL) (by decide) (1) rfl ?_
  refine x_aload_n 10 rfl dX10_hunt_9 0 rfl rfl ?_
  refine x_getr 13 rfl fX10_26 dX10_hunt_10 (lyl0 hL) (lys0 hL) (by decide) (24) rfl ?_
  refine x_bipush 15 rfl dX10_hunt_13 (by decide) ?_
  refine x_iload_n 16 rfl dX10_hunt_15 1 rfl rfl ?_
  refine x_iload_n 17 rfl dX10_hunt_16 2 rfl rfl ?_
  refine x_cVi 20 rfl lX10_225 dX10_hunt_17 (lyl43 hL) (lys43 hL) (c_X4_act hL (ly_sh1 hL) (by decide) hs hi hLw hv (ly_lg24 hL) (by decide) (by decide) (by decide) (by decide) hl (by decide)) rfl rfl (Nat.le_of_ble_eq_true rfl) (fun r1 M1 hr1 => ?_)
  obtain ⟨k1, hA, hs1, hl1, hl2, hf1, hv1⟩ := hr1
  have hb := actR_in hi (by decide) hA
  have hr5 : ∀ i, i < 7 → 0 ≤ M1 54 i ∧ M1 54 i ≤ 1000000 := by rw [hf1 54 (by decide) (by decide) (by decide) (by decide) (by decide) (by decide) (by decide) (by decide) (by decide) (by decide)]; exact hr
  refine x_cVi 23 rfl lX10_229 dX10_hunt_20 (lyl0 hL) (lys0 hL) (c_X10_answer hL hr5 hb.1) rfl rfl (Nat.le_of_ble_eq_true rfl) (fun r2 M2 hr2 => ?_)
  obtain ⟨hr3, hM2⟩ := hr2
  refine x_reti dX10_hunt_23 rfl ?_
  subst hr3
  exact ⟨k1, M1, hA, hs1, hb.2, hl1, hl2, hf1, hv1, hM2⟩

set_option maxRecDepth 100000 in
set_option maxHeartbeats 4000000 in
theorem c_X10_sell {d sz : Nat} {S : zSh} {M : zMem} (hL : LY S sz) (hr : ∀ i, i < 7 → 0 ≤ M 54 i ∧ M 54 i ≤ 1000000) {k : Nat → Int} (hs : SR M 1 k) (hi : KI k) {Lw : List gC} (hLw : LwC S sz M 1 k Lw) (hv : v42 M) {n : Nat} {l : Nat → Nat → Int} (hl : LR M 24 l n) {x : Int} : zX (d + 6) 0 0 mX10_sell [zn 0, zi x] sz S M (zI sz S (fun r M' => ∃ k' M1, actR Lw k 17 x 0 r k' ∧ SR M1 1 k' ∧ KI k' ∧ (r < 0 → LR M1 24 l n) ∧ (0 ≤ r → LR M1 24 (lpush l n k (17 - 16)) (min (n + 1) 16)) ∧ (∀ i, i ≠ 1 → i ≠ 1 + 2 → i ≠ 1 + 4 → i ≠ 1 + 7 → i ≠ 41 → i ≠ 42 → i ≠ 44 → i ≠ 24 → i ≠ 24 + 1 → i ≠ 24 + 2 → M1 i = M i) ∧ v42 M1 ∧ M' = cFin M1 r)) := by
  refine zX_of pl_RX10 [some (zn 0), some (zi x)] 0 rfl rfl ?_
  refine x_aload_n 1 rfl dX10_sell_0 0 rfl rfl ?_
  refine x_aload_n 2 rfl dX10_sell_1 0 rfl rfl ?_
  refine x_getr 5 rfl fX10_59 dX10_sell_2 (lyl0 hL) (lys0 hL) (by decide) (43) rfl ?_
  refine x_aload_n 6 rfl dX10_sell_5 0 rfl rfl ?_
  refine x_getr 9 rfl fX10_10 dX10_sell_6 (lyl0 hL) (lys0 hL) (by decide) (1) rfl ?_
  refine x_aload_n 10 rfl dX10_sell_9 0 rfl rfl ?_
  refine x_getr 13 rfl fX10_26 dX10_sell_10 (lyl0 hL) (lys0 hL) (by decide) (24) rfl ?_
  refine x_bipush 15 rfl dX10_sell_13 (by decide) ?_
  refine x_iload_n 16 rfl dX10_sell_15 1 rfl rfl ?_
  refine x_iconst 17 rfl dX10_sell_16 (by decide) ?_
  refine x_cVi 20 rfl lX10_225 dX10_sell_17 (lyl43 hL) (lys43 hL) (c_X4_act hL (ly_sh1 hL) (by decide) hs hi hLw hv (ly_lg24 hL) (by decide) (by decide) (by decide) (by decide) hl (by decide)) rfl rfl (Nat.le_of_ble_eq_true rfl) (fun r1 M1 hr1 => ?_)
  obtain ⟨k1, hA, hs1, hl1, hl2, hf1, hv1⟩ := hr1
  have hb := actR_in hi (by decide) hA
  have hr5 : ∀ i, i < 7 → 0 ≤ M1 54 i ∧ M1 54 i ≤ 1000000 := by rw [hf1 54 (by decide) (by decide) (by decide) (by decide) (by decide) (by decide) (by decide) (by decide) (by decide) (by decide)]; exact hr
  refine x_cVi 23 rfl lX10_229 dX10_sell_20 (lyl0 hL) (lys0 hL) (c_X10_answer hL hr5 hb.1) rfl rfl (Nat.le_of_ble_eq_true rfl) (fun r2 M2 hr2 => ?_)
  obtain ⟨hr3, hM2⟩ := hr2
  refine x_reti dX10_sell_23 rfl ?_
  subst hr3
  exact ⟨k1, M1, hA, hs1, hb.2, hl1, hl2, hf1, hv1, hM2⟩

set_option maxRecDepth 100000 in
set_option maxHeartbeats 4000000 in
theorem c_X10_advance {d sz : Nat} {S : zSh} {M : zMem} (hL : LY S sz) (hr : ∀ i, i < 7 → 0 ≤ M 54 i ∧ M 54 i ≤ 1000000) {k : Nat → Int} (hs : SR M 1 k) (hi : KI k) {Lw : List gC} (hLw : LwC S sz M 1 k Lw) (hv : v42 M) {n : Nat} {l : Nat → Nat → Int} (hl : LR M 24 l n) {x y : Int} : zX (d + 6) 0 0 mX10_advance [zn 0, zi x, zi y] sz S M (zI sz S (fun r M' => ∃ k' M1, actR Lw k 18 x y r k' ∧ SR M1 1 k' ∧ KI k' ∧ (r < 0 → LR M1 24 l n) ∧ (0 ≤ r → LR M1 24 (lpush l n k (18 - 16)) (min (n + 1) 16)) ∧ (∀ i, i ≠ 1 → i ≠ 1 + 2 → i ≠ 1 + 4 → i ≠ 1 + 7 → i ≠ 41 → i ≠ 42 → i ≠ 44 → i ≠ 24 → i ≠ 24 + 1 → i ≠ 24 + 2 → M1 i = M i) ∧ v42 M1 ∧ M' = cFin M1 r)) := by
  refine zX_of pl_RX10 [some (zn 0), some (zi x), some (zi y)] 0 rfl rfl ?_
  refine x_aload_n 1 rfl dX10_advance_0 0 rfl rfl ?_
  refine x_aload_n 2 rfl dX10_advance_1 0 rfl rfl ?_
  refine x_getr 5 rfl fX10_59 dX10_advance_2 (lyl0 hL) (lys0 hL) (by decide) (43) rfl ?_
  refine x_aload_n 6 rfl dX10_advance_5 0 rfl rfl ?_
  refine x_getr 9 rfl fX10_10 dX10_advance_6 (lyl0 hL) (lys0 hL) (by decide) (1) rfl ?_
  refine x_aload_n 10 rfl dX10_advance_9 0 rfl rfl ?_
  refine x_getr 13 rfl fX10_26 dX10_advance_10 (lyl0 hL) (lys0 hL) (by decide) (24) rfl ?_
  refine x_bipush 15 rfl dX10_advance_13 (by decide) ?_
  refine x_iload_n 16 rfl dX10_advance_15 1 rfl rfl ?_
  refine x_iload_n 17 rfl dX10_advance_16 2 rfl rfl ?_
  refine x_cVi 20 rfl lX10_225 dX10_advance_17 (lyl43 hL) (lys43 hL) (c_X4_act hL (ly_sh1 hL) (by decide) hs hi hLw hv (ly_lg24 hL) (by decide) (by decide) (by decide) (by decide) hl (by decide)) rfl rfl (Nat.le_of_ble_eq_true rfl) (fun r1 M1 hr1 => ?_)
  obtain ⟨k1, hA, hs1, hl1, hl2, hf1, hv1⟩ := hr1
  have hb := actR_in hi (by decide) hA
  have hr5 : ∀ i, i < 7 → 0 ≤ M1 54 i ∧ M1 54 i ≤ 1000000 := by rw [hf1 54 (by decide) (by decide) (by decide) (by decide) (by decide) (by decide) (by decide) (by decide) (by decide) (by decide)]; exact hr
  refine x_cVi 23 rfl lX10_229 dX10_advance_20 (lyl0 hL) (lys0 hL) (c_X10_answer hL hr5 hb.1) rfl rfl (Nat.le_of_ble_eq_true rfl) (fun r2 M2 hr2 => ?_)
  obtain ⟨hr3, hM2⟩ := hr2
  refine x_reti dX10_advance_23 rfl ?_
  subst hr3
  exact ⟨k1, M1, hA, hs1, hb.2, hl1, hl2, hf1, hv1, hM2⟩

set_option maxRecDepth 100000 in
set_option maxHeartbeats 4000000 in
theorem c_X10_leave {d sz : Nat} {S : zSh} {M : zMem} (hL : LY S sz) (hr : ∀ i, i < 7 → 0 ≤ M 54 i ∧ M 54 i ≤ 1000000) {k : Nat → Int} (hs : SR M 1 k) (hi : KI k) {Lw : List gC} (hLw : LwC S sz M 1 k Lw) (hv : v42 M) {n : Nat} {l : Nat → Nat → Int} (hl : LR M 24 l n) {x : Int} : zX (d + 6) 0 0 mX10_leave [zn 0, zi x] sz S M (zI sz S (fun r M' => ∃ k' M1, actR Lw k 19 x 0 r k' ∧ SR M1 1 k' ∧ KI k' ∧ (r < 0 → LR M1 24 l n) ∧ (0 ≤ r → LR M1 24 (lpush l n k (19 - 16)) (min (n + 1) 16)) ∧ (∀ i, i ≠ 1 → i ≠ 1 + 2 → i ≠ 1 + 4 → i ≠ 1 + 7 → i ≠ 41 → i ≠ 42 → i ≠ 44 → i ≠ 24 → i ≠ 24 + 1 → i ≠ 24 + 2 → M1 i = M i) ∧ v42 M1 ∧ M' = cFin M1 r)) := by
  refine zX_of pl_RX10 [some (zn 0), some (zi x)] 0 rfl rfl ?_
  refine x_aload_n 1 rfl dX10_leave_0 0 rfl rfl ?_
  refine x_aload_n 2 rfl dX10_leave_1 0 rfl rfl ?_
  refine x_getr 5 rfl fX10_59 dX10_leave_2 (lyl0 hL) (lys0 hL) (by decide) (43) rfl ?_
  refine x_aload_n 6 rfl dX10_leave_5 0 rfl rfl ?_
  refine x_getr 9 rfl fX10_10 dX10_leave_6 (lyl0 hL) (lys0 hL) (by decide) (1) rfl ?_
  refine x_aload_n 10 rfl dX10_leave_9 0 rfl rfl ?_
  refine x_getr 13 rfl fX10_26 dX10_leave_10 (lyl0 hL) (lys0 hL) (by decide) (24) rfl ?_
  refine x_bipush 15 rfl dX10_leave_13 (by decide) ?_
  refine x_iload_n 16 rfl dX10_leave_15 1 rfl rfl ?_
  refine x_iconst 17 rfl dX10_leave_16 (by decide) ?_
  refine x_cVi 20 rfl lX10_225 dX10_leave_17 (lyl43 hL) (lys43 hL) (c_X4_act hL (ly_sh1 hL) (by decide) hs hi hLw hv (ly_lg24 hL) (by decide) (by decide) (by decide) (by decide) hl (by decide)) rfl rfl (Nat.le_of_ble_eq_true rfl) (fun r1 M1 hr1 => ?_)
  obtain ⟨k1, hA, hs1, hl1, hl2, hf1, hv1⟩ := hr1
  have hb := actR_in hi (by decide) hA
  have hr5 : ∀ i, i < 7 → 0 ≤ M1 54 i ∧ M1 54 i ≤ 1000000 := by rw [hf1 54 (by decide) (by decide) (by decide) (by decide) (by decide) (by decide) (by decide) (by decide) (by decide) (by decide)]; exact hr
  refine x_cVi 23 rfl lX10_229 dX10_leave_20 (lyl0 hL) (lys0 hL) (c_X10_answer hL hr5 hb.1) rfl rfl (Nat.le_of_ble_eq_true rfl) (fun r2 M2 hr2 => ?_)
  obtain ⟨hr3, hM2⟩ := hr2
  refine x_reti dX10_leave_23 rfl ?_
  subst hr3
  exact ⟨k1, M1, hA, hs1, hb.2, hl1, hl2, hf1, hv1, hM2⟩
