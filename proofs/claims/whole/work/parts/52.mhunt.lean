/-! the mate hunts -/
theorem LwC_frame {S : zSh} {sz : Nat} {M M' : zMem} {a : Nat} {k k' : Nat → Int} {Lw : List gC} (h : LwC S sz M a k Lw) (hk : k' 79 = k 79) (h0 : M' (a + 10) = M (a + 10)) (hM : ∀ i, 75 ≤ i → M' i = M i) : LwC S sz M' a k' Lw := by
  intro h79
  rw [hk] at h79 ⊢
  obtain ⟨T, nh, nc, h1, h2, h3, h4⟩ := h h79
  exact ⟨T, nh, nc, by rw [h0]; exact h1, h2, h3, TXM_frame h4 (hM _ (by omega)) (hM _ (by omega)) (hM _ (by omega))⟩
def jE (M M' : zMem) : Prop := (∀ i, i ≠ 41 → i ≠ 42 → i ≠ 44 → M' i = M i) ∧ v42 M'
theorem jE_refl {M : zMem} (h : v42 M) : jE M M := ⟨fun _ _ _ _ => rfl, h⟩
theorem jE_jF {M M1 M2 : zMem} (h : jE M M1) (h1 : jF M1 M2) : jE M M2 := ⟨fun i a b c => (h1.1 i a b).trans (h.1 i a b c), h1.2⟩
theorem jE_up {M M1 : zMem} {i : Nat} {v : Int} (h : jE M M1) : jE M (z_up M1 44 i v) := ⟨fun j a b c => by rw [z_up_ne c]; exact h.1 j a b c, fun j hj => by rw [z_up_ne (by decide)]; exact h.2 j hj⟩

set_option maxRecDepth 100000 in
set_option maxHeartbeats 4000000 in
theorem c_X4_runAway {d sz : Nat} {S : zSh} {M : zMem} (hL : LY S sz) {a : Nat} (h : SH S sz a) (had : a + 11 ≤ 40 ∨ 45 ≤ a) {k : Nat → Int} (hs : SR M a k) (hi : KI k) {Lw : List gC} (hLw : LwC S sz M a k Lw) (hv : v42 M)  : zX (d + 4) 0 0 mX4_runAway [zn 43, zn a] sz S M (zI sz S (fun r M' => ∃ g, g = zoffI Lw k ∧ r = g 0 + g 1 + g 2 + g 3 + g 4 + g 5 + g 6 + g 7 ∧ SR M' a (kH2 Lw k) ∧ (∀ i, i ≠ a → i ≠ 41 → i ≠ 42 → M' i = M i) ∧ v42 M')) := by
  have i1 := hi.1
  have i3 := zcrew_in hi
  have hf := zoff01 (Lw := Lw) hi
  have loop : ∀ (q n : Nat) (y : Int) (M1 : zMem), (k 75).toNat < q + n → n ≤ (k 75).toNat → y = zmk (ztr (zoffI Lw k) n) → jF M M1 → zW mX4_runAway (d + 4) 0 0 [] (zI sz S (fun r M' => ∃ g, g = zoffI Lw k ∧ r = g 0 + g 1 + g 2 + g 3 + g 4 + g 5 + g 6 + g 7 ∧ SR M' a (kH2 Lw k) ∧ (∀ i, i ≠ a → i ≠ 41 → i ≠ 42 → M' i = M i) ∧ v42 M')) 10 [some (zn 43), some (zn a), some (zi (zcrew k)), some (zi y), some (zi n)] [] sz S M1 := by
    intro q
    induction q with
    | zero => intro n y M1 hq hn; omega
    | succ q ih =>
      intro n y M1 hq hn h1 h2
      have hs1 : SR M1 a k := SR_frame hs (fun i a1 a2 => h2.1 i (by omega) (by omega))
      have hLw1 : LwC S sz M1 a k Lw := LwC_frame hLw rfl (h2.1 _ (by omega) (by omega)) (fun i h9 => h2.1 i (by omega) (by omega))
      have hv1 := h2.2
      have e0 := hs1.1.1
      have e2 := hs1.1.2.1
      refine x_iload 12 rfl dX4_runAway_10 rfl ?_
      refine x_aload_n 13 rfl dX4_runAway_12 1 rfl rfl ?_
      refine x_geti 16 rfl fX4_72 dX4_runAway_13 (shl0 h) (shs0 h) (by decide) ?_
      refine x_icmp_ge 19 62 rfl dX4_runAway_16 (by decide) (fun c16 => ?_) (fun c16 => ?_)
      · refine x_aload_n 63 rfl dX4_runAway_62 1 rfl rfl ?_
        refine x_dupr 64 rfl dX4_runAway_63 ?_
        refine x_geti 67 rfl fX4_53 dX4_runAway_64 (shl0 h) (shs0 h) (by decide) ?_
        refine x_iload_n 68 rfl dX4_runAway_67 3 rfl rfl ?_
        refine x_iconst 69 rfl dX4_runAway_68 (by decide) ?_
        refine x_ixor 70 rfl dX4_runAway_69 ?_
        refine x_iand 71 rfl dX4_runAway_70 ?_
        refine x_puti 74 rfl fX4_53 dX4_runAway_71 (shl0 h) (shs0 h) (by decide) ?_
        have hy : y = zmk (zoffI Lw k) := by rw [h1, ztr_all (fun j hj h8 => zoff_out hi hj (by omega))]
        refine x_iload_n 75 rfl dX4_runAway_74 3 rfl rfl ?_
        refine x_cSi 78 rfl lX4_100 dX4_runAway_75 (c_bitCount (by rw [hy]; exact zmk_in hf)) rfl rfl (Nat.le_of_ble_eq_true rfl) (fun r6 M6 hr6 => ?_)
        obtain ⟨hr7, hM6⟩ := hr6
        refine x_reti dX4_runAway_78 rfl ?_
        refine ⟨_, rfl, by rw [hr7, hy]; exact zpop_mk hf, ?_, fun i a1 a2 a3 => by rw [hM6, z_up_ne a1]; exact h2.1 i a2 a3, fun j hj => by rw [hM6, z_up_ne (by omega)]; exact hv1 j hj⟩
        rw [hM6]
        exact SR_mask hs1 (fun i h9 => by unfold kH2 kOff; rw [if_neg (by omega)]) (by rw [e2, hy]; exact zmask_off hi hf)
      · have i2 := hi.2.1 n (by omega)
        have q1 := hs1.2.2.1 n (by omega)
        refine x_aload_n 20 rfl dX4_runAway_19 1 rfl rfl ?_
        refine x_iload 22 rfl dX4_runAway_20 rfl ?_
        refine x_cVi 25 rfl lX4_75 dX4_runAway_22 (shl0 h) (shs0 h) (c_X7_isAboard h hs1 hi (by omega)) rfl rfl (Nat.le_of_ble_eq_true rfl) (fun r M2 hr1 => ?_)
        obtain ⟨hr, hM2⟩ := hr1
        rw [hM2]
        rw [Int.toNat_natCast] at hr
        refine x_if_eq 28 56 rfl dX4_runAway_25 (by decide) (fun c25 => ?_) (fun c25 => ?_)
        · refine w_iinc 59 rfl dX4_runAway_56 rfl (by decide) (by omega) rfl (ls' := [_, _, _, _, _]) rfl (by decide) ?_
          refine x_goto 10 dX4_runAway_59 (by decide) ?_
          exact ih (n + 1) _ _ (by omega) (by omega) (by rw [h1]; exact zmk_same (by omega) (by unfold zoffI; rw [← hr, c25, Int.zero_mul])) h2
        · refine x_aload_n 29 rfl dX4_runAway_28 0 rfl rfl ?_
          refine x_getr 32 rfl fX4_15 dX4_runAway_29 (lyl43 hL) (lys43 hL) (by decide) (39) rfl ?_
          refine x_aload_n 33 rfl dX4_runAway_32 1 rfl rfl ?_
          refine x_iload 35 rfl dX4_runAway_33 rfl ?_
          refine x_aload_n 36 rfl dX4_runAway_35 1 rfl rfl ?_
          refine x_getr 39 rfl fX4_93 dX4_runAway_36 (shl0 h) (shs0 h) (by decide) (a + 1) rfl ?_
          refine x_iload 41 rfl dX4_runAway_39 rfl ?_
          refine x_iald 42 rfl dX4_runAway_41 (shl1 h) (shs1 h) (by omega) (by omega) ?_
          rw [Int.toNat_natCast, q1]
          refine x_iload_n 43 rfl dX4_runAway_42 2 rfl rfl ?_
          refine x_cVi 46 rfl lX4_96 dX4_runAway_43 (lyl39 hL) (lys39 hL) (c_X1_runsOff hL h (by omega) hs1 hi hLw1 hv1 (by omega) (by omega) i3) rfl rfl (Nat.le_of_ble_eq_true rfl) (fun r1 M3 hr3 => ?_)
          obtain ⟨hr4, h5⟩ := hr3
          rw [Int.toNat_natCast, zdesI_iff] at hr4
          have hz : zoffI Lw k n = zdesI Lw k n (k (23 + n)) (zcrew k) := by unfold zoffI; rw [← hr, show r = 1 by omega, Int.one_mul]
          refine x_if_eq 49 56 rfl dX4_runAway_46 (by decide) (fun c46 => ?_) (fun c46 => ?_)
          · refine w_iinc 59 rfl dX4_runAway_56 rfl (by decide) (by omega) rfl (ls' := [_, _, _, _, _]) rfl (by decide) ?_
            refine x_goto 10 dX4_runAway_59 (by decide) ?_
            exact ih (n + 1) _ _ (by omega) (by omega) (by rw [h1]; exact zmk_same (by omega) (by rcases hf n (by omega) with h9 | h9; exact h9; exfalso; omega)) (jF_trans h2 h5)
          · refine x_iload_n 50 rfl dX4_runAway_49 3 rfl rfl ?_
            refine x_iconst 51 rfl dX4_runAway_50 (by decide) ?_
            refine x_iload 53 rfl dX4_runAway_51 rfl ?_
            refine x_ishl 54 rfl dX4_runAway_53 ?_
            refine x_ior 55 rfl dX4_runAway_54 ?_
            refine y_istore_n 56 rfl dX4_runAway_55 rfl rfl (ls' := [_, _, _, _, _]) rfl (by decide) ?_
            refine w_iinc 59 rfl dX4_runAway_56 rfl (by decide) (by omega) rfl (ls' := [_, _, _, _, _]) rfl (by decide) ?_
            refine x_goto 10 dX4_runAway_59 (by decide) ?_
            exact ih (n + 1) _ _ (by omega) (by omega) (by rw [h1]; exact zor_step hf (by omega) (by omega)) (jF_trans h2 h5)
  refine zX_of pl_RX4 [some (zn 43), some (zn a), none, none, none] 3 rfl rfl ?_
  refine x_aload_n 1 rfl dX4_runAway_0 1 rfl rfl ?_
  refine x_cVi 4 rfl lX4_63 dX4_runAway_1 (shl0 h) (shs0 h) (c_X7_crewSize h hs hi) rfl rfl (Nat.le_of_ble_eq_true rfl) (fun r M1 hr1 => ?_)
  obtain ⟨rfl, hM1⟩ := hr1
  rw [hM1]
  refine y_istore_n 5 rfl dX4_runAway_4 rfl rfl (ls' := [_, _, _, _, _]) rfl (by decide) ?_
  refine x_iconst 6 rfl dX4_runAway_5 (by decide) ?_
  refine y_istore_n 7 rfl dX4_runAway_6 rfl rfl (ls' := [_, _, _, _, _]) rfl (by decide) ?_
  refine x_iconst 8 rfl dX4_runAway_7 (by decide) ?_
  refine y_istore 10 rfl dX4_runAway_8 rfl (ls' := [_, _, _, _, _]) rfl (by decide) ?_
  exact loop ((k 75).toNat + 1) 0 0 M (by omega) (by omega) ztr_0.symm (jF_refl hv)

theorem zcrew_mask {k : Nat → Int} (hi : KI k) : zmask k = 0 ↔ zcrew k = 0 := by
  have := hi.ab
  unfold zmask zcrew
  omega

set_option maxRecDepth 100000 in
set_option maxHeartbeats 4000000 in
theorem c_X4_takeWhales {d sz : Nat} {S : zSh} {M : zMem} (hL : LY S sz) {a : Nat} (h : SH S sz a) (had : a + 11 ≤ 40 ∨ 45 ≤ a) {k : Nat → Int} (hs : SR M a k) (hi : KI k) {Lw : List gC} (hLw : LwC S sz M a k Lw) (hv : v42 M) {x y : Int} : zX (d + 4) 0 0 mX4_takeWhales [zn 43, zn a, zi x, zi y] sz S M (zI sz S (fun r M' => (¬ (0 ≤ y ∧ y ≤ 3) ∧ r = -1 ∧ M' = M) ∨ ((0 ≤ y ∧ y ≤ 3) ∧ ¬ (0 ≤ x ∧ x < k 76) ∧ r = -2 ∧ M' = M) ∨ ((0 ≤ y ∧ y ≤ 3) ∧ (0 ≤ x ∧ x < k 76) ∧ ¬ (0 < zcrew k ∧ k 2 < 71 ∧ y ≤ k (19 + x.toNat)) ∧ r = -3 ∧ M' = M) ∨ ((0 ≤ y ∧ y ≤ 3) ∧ (0 ≤ x ∧ x < k 76) ∧ (0 < zcrew k ∧ k 2 < 71 ∧ y ≤ k (19 + x.toNat)) ∧ r = 0 ∧ SR M' a (kH1 Lw k x.toNat y) ∧ (∀ i, i ≠ a → i ≠ a + 2 → i ≠ a + 4 → i ≠ a + 7 → i ≠ 41 → i ≠ 42 → i ≠ 44 → M' i = M i) ∧ v42 M'))) := by
  have i1 := hi.1
  have i3 := zcrew_in hi
  have e2 := hs.1.2.1
  have t0 := hs.2.1.1
  have hcm := zcrew_mask hi
  have loop2 : (0 ≤ y ∧ y ≤ 3) → (0 ≤ x ∧ x < k 76) → (0 < zcrew k ∧ k 2 < 71 ∧ y ≤ k (19 + x.toNat)) → ∀ (c : Int), c = zcasks Lw k x.toNat (zcrew k) → ∀ (q n : Nat) (M2 : zMem), (k 75).toNat < q + n → n ≤ (k 75).toNat → SR M2 a (kE Lw k (ku (ku k 0 (min (k 73) (k 0 + c * y))) (19 + x.toNat) (k (19 + x.toNat) - y)) n) → (∀ h : Nat, (h : Int) < k 75 → M2 44 h = zeatI Lw k h) → (∀ i, i ≠ a → i ≠ a + 2 → i ≠ a + 4 → i ≠ a + 7 → i ≠ 41 → i ≠ 42 → i ≠ 44 → M2 i = M i) → v42 M2 → zW mX4_takeWhales (d + 4) 0 0 [] (zI sz S (fun r M' => (¬ (0 ≤ y ∧ y ≤ 3) ∧ r = -1 ∧ M' = M) ∨ ((0 ≤ y ∧ y ≤ 3) ∧ ¬ (0 ≤ x ∧ x < k 76) ∧ r = -2 ∧ M' = M) ∨ ((0 ≤ y ∧ y ≤ 3) ∧ (0 ≤ x ∧ x < k 76) ∧ ¬ (0 < zcrew k ∧ k 2 < 71 ∧ y ≤ k (19 + x.toNat)) ∧ r = -3 ∧ M' = M) ∨ ((0 ≤ y ∧ y ≤ 3) ∧ (0 ≤ x ∧ x < k 76) ∧ (0 < zcrew k ∧ k 2 < 71 ∧ y ≤ k (19 + x.toNat)) ∧ r = 0 ∧ SR M' a (kH1 Lw k x.toNat y) ∧ (∀ i, i ≠ a → i ≠ a + 2 → i ≠ a + 4 → i ≠ a + 7 → i ≠ 41 → i ≠ 42 → i ≠ 44 → M' i = M i) ∧ v42 M'))) 151 [some (zn 43), some (zn a), some (zi x), some (zi y), some (zi c), some (zi n)] [] sz S M2 := by
    intro hy hx hcs c hc1 q
    induction q with
    | zero => intro n M2 hq hn; omega
    | succ q ih =>
      intro n M2 hq hn hs2 h44 hfr hv2
      obtain ⟨b, hb⟩ : ∃ b, b = (ku (ku k 0 (min (k 73) (k 0 + c * y))) (19 + x.toNat) (k (19 + x.toNat) - y)) := ⟨_, rfl⟩
      rw [← hb] at ih hs2
      have b75 : kE Lw k b n 75 = k 75 := by rw [kE_o (by omega), hb, ku_ne (by omega), ku_ne (by omega)]
      have b2 : kE Lw k b n 2 = k 2 := by rw [kE_o (by omega), hb, ku_ne (by omega), ku_ne (by omega)]
      have b3 : n < 8 → kE Lw k b n (3 + n) = k (3 + n) := fun h9 => by rw [kE_o (by omega), hb, ku_ne (by omega), ku_ne (by omega)]
      have e0 : M2 a 0 = k 75 := hs2.1.1.trans b75
      have t2 : M2 (a + 7) 0 = k 2 := hs2.2.1.1.trans b2
      refine x_iload 153 rfl dX4_takeWhales_151 rfl ?_
      refine x_aload_n 154 rfl dX4_takeWhales_153 1 rfl rfl ?_
      refine x_geti 157 rfl fX4_72 dX4_takeWhales_154 (shl0 h) (shs0 h) (by decide) ?_
      refine x_icmp_ge 160 194 rfl dX4_takeWhales_157 (by decide) (fun c157 => ?_) (fun c157 => ?_)
      · refine x_aload_n 195 rfl dX4_takeWhales_194 1 rfl rfl ?_
        refine x_getr 198 rfl fX4_57 dX4_takeWhales_195 (shl0 h) (shs0 h) (by decide) (a + 7) rfl ?_
        refine x_iconst 199 rfl dX4_takeWhales_198 (by decide) ?_
        refine x_dup2ir 200 rfl dX4_takeWhales_199 ?_
        refine x_ialk 201 rfl dX4_takeWhales_200 (shl7 h) (shs7 h) 0 rfl (by decide) ?_
        rw [t2]
        refine x_iconst 202 rfl dX4_takeWhales_201 (by decide) ?_
        refine y_iadd 203 rfl dX4_takeWhales_202 (by omega) ?_
        refine x_iastk 204 rfl dX4_takeWhales_203 (shl7 h) (shs7 h) 0 rfl (by decide) ?_
        refine x_iconst 205 rfl dX4_takeWhales_204 (by decide) ?_
        refine x_reti dX4_takeWhales_205 rfl ?_
        refine Or.inr (Or.inr (Or.inr ⟨hy, hx, hcs, rfl, ?_, fun i a1 a2 a3 a4 a5 a6 a7 => by rw [z_up_ne a4]; exact hfr i a1 a2 a3 a4 a5 a6 a7, fun j hj => by rw [z_up_ne (by omega)]; exact hv2 j hj⟩))
        rw [← kE_H1 (n := n) hc1 (by omega) (by omega), ← hb]
        exact SR_month hs2 _
      · have i2 := hi.2.1 n (by omega)
        have i5 := zeatI_in (Lw := Lw) (k := k) (h := n)
        have q2 := (hs2.2.2.2.1 n (by omega)).trans (b3 (by omega))
        have h4n := h44 n (by omega)
        refine x_aload_n 161 rfl dX4_takeWhales_160 1 rfl rfl ?_
        refine x_getr 164 rfl fX4_90 dX4_takeWhales_161 (shl0 h) (shs0 h) (by decide) (a + 2) rfl ?_
        refine x_iload 166 rfl dX4_takeWhales_164 rfl ?_
        refine x_sipush 169 rfl dX4_takeWhales_166 (by decide) ?_
        refine x_aload_n 170 rfl dX4_takeWhales_169 1 rfl rfl ?_
        refine x_getr 173 rfl fX4_90 dX4_takeWhales_170 (shl0 h) (shs0 h) (by decide) (a + 2) rfl ?_
        refine x_iload 175 rfl dX4_takeWhales_173 rfl ?_
        refine x_iald 176 rfl dX4_takeWhales_175 (shl2 h) (shs2 h) (by omega) (by omega) ?_
        rw [Int.toNat_natCast, q2]
        refine x_aload_n 177 rfl dX4_takeWhales_176 0 rfl rfl ?_
        refine x_getr 180 rfl fX4_9 dX4_takeWhales_177 (lyl43 hL) (lys43 hL) (by decide) (44) rfl ?_
        refine x_iload 182 rfl dX4_takeWhales_180 rfl ?_
        refine x_iald 183 rfl dX4_takeWhales_182 (lyl44 hL) (lys44 hL) (by omega) (by omega) ?_
        rw [Int.toNat_natCast, h4n]
        refine y_iadd 184 rfl dX4_takeWhales_183 (by omega) ?_
        refine x_cSi 187 rfl lX4_84 dX4_takeWhales_184 c_min rfl rfl (Nat.le_of_ble_eq_true rfl) (fun r M1 hr1 => ?_)
        obtain ⟨rfl, hM1⟩ := hr1
        rw [hM1]
        refine x_iast 188 rfl dX4_takeWhales_187 (shl2 h) (shs2 h) (by omega) (by omega) ?_
        refine w_iinc 191 rfl dX4_takeWhales_188 rfl (by decide) (by omega) rfl (ls' := [_, _, _, _, _, _]) rfl (by decide) ?_
        refine x_goto 151 dX4_takeWhales_191 (by decide) ?_
        exact ih (n + 1) _ (by omega) (by omega) (by rw [Int.toNat_natCast, ← kE_s]; exact SR_debt hs2 (by omega) _) (fun j hj => by rw [z_up_ne (by omega)]; exact h44 j hj) (fun i a1 a2 a3 a4 a5 a6 a7 => by rw [z_up_ne a2]; exact hfr i a1 a2 a3 a4 a5 a6 a7) (fun j hj => by rw [z_up_ne (by omega)]; exact hv2 j hj)
  have loop1 : (0 ≤ y ∧ y ≤ 3) → (0 ≤ x ∧ x < k 76) → (0 < zcrew k ∧ k 2 < 71 ∧ y ≤ k (19 + x.toNat)) → ∀ (c : Int), c = zcasks Lw k x.toNat (zcrew k) → ∀ (q n : Nat) (M1 : zMem), (k 75).toNat < q + n → n ≤ (k 75).toNat → (∀ h : Nat, h < n → M1 44 h = zeatI Lw k h) → jE M M1 → zW mX4_takeWhales (d + 4) 0 0 [] (zI sz S (fun r M' => (¬ (0 ≤ y ∧ y ≤ 3) ∧ r = -1 ∧ M' = M) ∨ ((0 ≤ y ∧ y ≤ 3) ∧ ¬ (0 ≤ x ∧ x < k 76) ∧ r = -2 ∧ M' = M) ∨ ((0 ≤ y ∧ y ≤ 3) ∧ (0 ≤ x ∧ x < k 76) ∧ ¬ (0 < zcrew k ∧ k 2 < 71 ∧ y ≤ k (19 + x.toNat)) ∧ r = -3 ∧ M' = M) ∨ ((0 ≤ y ∧ y ≤ 3) ∧ (0 ≤ x ∧ x < k 76) ∧ (0 < zcrew k ∧ k 2 < 71 ∧ y ≤ k (19 + x.toNat)) ∧ r = 0 ∧ SR M' a (kH1 Lw k x.toNat y) ∧ (∀ i, i ≠ a → i ≠ a + 2 → i ≠ a + 4 → i ≠ a + 7 → i ≠ 41 → i ≠ 42 → i ≠ 44 → M' i = M i) ∧ v42 M'))) 71 [some (zn 43), some (zn a), some (zi x), some (zi y), some (zi c), some (zi n)] [] sz S M1 := by
    intro hy hx hcs c hc1 q
    induction q with
    | zero => intro n M1 hq hn; omega
    | succ q ih =>
      intro n M1 hq hn h1 h2
      have hs1 : SR M1 a k := SR_frame hs (fun i a1 a2 => h2.1 i (by omega) (by omega) (by omega))
      have hLw1 : LwC S sz M1 a k Lw := LwC_frame hLw rfl (h2.1 _ (by omega) (by omega) (by omega)) (fun i h9 => h2.1 i (by omega) (by omega) (by omega))
      have hv1 := h2.2
      have hc := zcasks_in (Lw := Lw) (k := k) (g := x.toNat) (crew := zcrew k)
      have hcw : 0 ≤ c * y ∧ c * y ≤ 297 := ⟨Int.mul_nonneg (by omega) hy.1, Int.le_trans (Int.mul_le_mul (show c ≤ 99 by omega) hy.2 hy.1 (by decide)) (by decide)⟩
      have i4 := hi.2.2.1 x.toNat (by omega)
      have q4 := hs1.2.2.2.2.2.1 x.toNat (by omega)
      have e0 := hs1.1.1
      have e8 := hs1.1.2.2.2.1
      have t1 := hs1.2.1.2.1
      refine x_iload 73 rfl dX4_takeWhales_71 rfl ?_
      refine x_aload_n 74 rfl dX4_takeWhales_73 1 rfl rfl ?_
      refine x_geti 77 rfl fX4_72 dX4_takeWhales_74 (shl0 h) (shs0 h) (by decide) ?_
      refine x_icmp_ge 80 116 rfl dX4_takeWhales_77 (by decide) (fun c77 => ?_) (fun c77 => ?_)
      · refine x_aload_n 117 rfl dX4_takeWhales_116 1 rfl rfl ?_
        refine x_aload_n 118 rfl dX4_takeWhales_117 1 rfl rfl ?_
        refine x_getr 121 rfl fX4_57 dX4_takeWhales_118 (shl0 h) (shs0 h) (by decide) (a + 7) rfl ?_
        refine x_iconst 122 rfl dX4_takeWhales_121 (by decide) ?_
        refine x_ialk 123 rfl dX4_takeWhales_122 (shl7 h) (shs7 h) 1 rfl (by decide) ?_
        rw [t1]
        refine x_aload_n 124 rfl dX4_takeWhales_123 1 rfl rfl ?_
        refine x_geti 127 rfl fX4_81 dX4_takeWhales_124 (shl0 h) (shs0 h) (by decide) ?_
        rw [e8]
        refine x_iload 129 rfl dX4_takeWhales_127 rfl ?_
        refine x_iload_n 130 rfl dX4_takeWhales_129 3 rfl rfl ?_
        refine y_imul 131 rfl dX4_takeWhales_130 (by omega) ?_
        refine y_iadd 132 rfl dX4_takeWhales_131 (by omega) ?_
        refine x_cSi 135 rfl lX4_84 dX4_takeWhales_132 c_min rfl rfl (Nat.le_of_ble_eq_true rfl) (fun r9 M9 hr9 => ?_)
        obtain ⟨rfl, hM9⟩ := hr9
        rw [hM9]
        refine x_puti 138 rfl fX4_81 dX4_takeWhales_135 (shl0 h) (shs0 h) (by decide) ?_
        have hs2 : SR (z_up M1 a 8 (min (k 73) (k 0 + c * y))) a (ku k 0 (min (k 73) (k 0 + c * y))) := SR_oil hs1 _
        refine x_aload_n 139 rfl dX4_takeWhales_138 1 rfl rfl ?_
        refine x_getr 142 rfl fX4_60 dX4_takeWhales_139 (shl0 h) (shs0 h) (by decide) (a + 4) rfl ?_
        refine x_iload_n 143 rfl dX4_takeWhales_142 2 rfl rfl ?_
        refine x_dup2ir 144 rfl dX4_takeWhales_143 ?_
        refine x_iald 145 rfl dX4_takeWhales_144 (shl4 h) (shs4 h) (by omega) (by omega) ?_
        rw [show (z_up M1 a 8 (min (k 73) (k 0 + c * y))) (a + 4) x.toNat = k (19 + x.toNat) by rw [z_up_ne (by omega)]; exact q4]
        refine x_iload_n 146 rfl dX4_takeWhales_145 3 rfl rfl ?_
        refine y_isub 147 rfl dX4_takeWhales_146 (by omega) ?_
        refine x_iast 148 rfl dX4_takeWhales_147 (shl4 h) (shs4 h) (by omega) (by omega) ?_
        refine x_iconst 149 rfl dX4_takeWhales_148 (by decide) ?_
        refine y_istore 151 rfl dX4_takeWhales_149 rfl (ls' := [_, _, _, _, _, _]) rfl (by decide) ?_
        refine loop2 hy hx hcs c hc1 ((k 75).toNat + 1) 0 _ (by omega) (by omega) (by rw [kE_0]; exact SR_whale hs2 (by omega) _) (fun j hj => by rw [z_up_ne (by omega), z_up_ne (by omega)]; exact h1 j (by omega)) (fun i a1 a2 a3 a4 a5 a6 a7 => by rw [z_up_ne a3, z_up_ne a1]; exact h2.1 i a5 a6 a7) (fun j hj => by rw [z_up_ne (by omega), z_up_ne (by omega)]; exact hv1 j hj)
      · have i2 := hi.2.1 n (by omega)
        refine x_aload_n 81 rfl dX4_takeWhales_80 0 rfl rfl ?_
        refine x_getr 84 rfl fX4_9 dX4_takeWhales_81 (lyl43 hL) (lys43 hL) (by decide) (44) rfl ?_
        refine x_iload 86 rfl dX4_takeWhales_84 rfl ?_
        refine x_aload_n 87 rfl dX4_takeWhales_86 1 rfl rfl ?_
        refine x_iload 89 rfl dX4_takeWhales_87 rfl ?_
        refine x_cVi 92 rfl lX4_75 dX4_takeWhales_89 (shl0 h) (shs0 h) (c_X7_isAboard h hs1 hi (by omega)) rfl rfl (Nat.le_of_ble_eq_true rfl) (fun r M2 hr1 => ?_)
        obtain ⟨hr, hM2⟩ := hr1
        rw [hM2]
        rw [Int.toNat_natCast] at hr
        refine x_if_eq 95 108 rfl dX4_takeWhales_92 (by decide) (fun c92 => ?_) (fun c92 => ?_)
        · refine x_iconst 109 rfl dX4_takeWhales_108 (by decide) ?_
          refine x_iast 110 rfl dX4_takeWhales_109 (lyl44 hL) (lys44 hL) (by omega) (by omega) ?_
          refine w_iinc 113 rfl dX4_takeWhales_110 rfl (by decide) (by omega) rfl (ls' := [_, _, _, _, _, _]) rfl (by decide) ?_
          refine x_goto 71 dX4_takeWhales_113 (by decide) ?_
          exact ih (n + 1) _ (by omega) (by omega) (fun j hj => by rw [Int.toNat_natCast, z_up_at]; split; (rename_i h9; rw [h9]; unfold zeatI; rw [if_neg (by omega)]); exact h1 j (by omega)) (jE_up h2)
        · refine x_aload_n 96 rfl dX4_takeWhales_95 0 rfl rfl ?_
          refine x_getr 99 rfl fX4_15 dX4_takeWhales_96 (lyl43 hL) (lys43 hL) (by decide) (39) rfl ?_
          refine x_aload_n 100 rfl dX4_takeWhales_99 1 rfl rfl ?_
          refine x_iload 102 rfl dX4_takeWhales_100 rfl ?_
          refine x_cVi 105 rfl lX4_78 dX4_takeWhales_102 (lyl39 hL) (lys39 hL) (c_X1_eatenBy hL h (by omega) hs1 hi hLw1 hv1 (by omega)) rfl rfl (Nat.le_of_ble_eq_true rfl) (fun r1 M3 hr3 => ?_)
          obtain ⟨hr4, h5⟩ := hr3
          rw [Int.toNat_natCast] at hr4
          refine x_goto 109 dX4_takeWhales_105 (by decide) ?_
          refine x_iast 110 rfl dX4_takeWhales_109 (lyl44 hL) (lys44 hL) (by omega) (by omega) ?_
          refine w_iinc 113 rfl dX4_takeWhales_110 rfl (by decide) (by omega) rfl (ls' := [_, _, _, _, _, _]) rfl (by decide) ?_
          refine x_goto 71 dX4_takeWhales_113 (by decide) ?_
          exact ih (n + 1) _ (by omega) (by omega) (fun j hj => by rw [Int.toNat_natCast, z_up_at]; split; (rename_i h9; rw [h9, hr4]; unfold zeatI; rw [if_pos (by omega)]); (rw [h5.1 44 (by decide) (by decide)]; exact h1 j (by omega))) (jE_up (jE_jF h2 h5))
  refine zX_of pl_RX4 [some (zn 43), some (zn a), some (zi x), some (zi y), none, none] 2 rfl rfl ?_
  refine x_iload_n 1 rfl dX4_takeWhales_0 3 rfl rfl ?_
  refine x_if_lt 4 9 rfl dX4_takeWhales_1 (by decide) (fun c1 => ?_) (fun c1 => ?_)
  · refine x_iconst 10 rfl dX4_takeWhales_9 (by decide) ?_
    refine x_reti dX4_takeWhales_10 rfl ?_
    exact Or.inl ⟨by omega, rfl, rfl⟩
  · refine x_iload_n 5 rfl dX4_takeWhales_4 3 rfl rfl ?_
    refine x_iconst 6 rfl dX4_takeWhales_5 (by decide) ?_
    refine x_icmp_le 9 11 rfl dX4_takeWhales_6 (by decide) (fun c6 => ?_) (fun c6 => ?_)
    · have hy : 0 ≤ y ∧ y ≤ 3 := by omega
      refine x_aload_n 12 rfl dX4_takeWhales_11 1 rfl rfl ?_
      refine x_iload_n 13 rfl dX4_takeWhales_12 2 rfl rfl ?_
      refine x_cVi 16 rfl lX4_47 dX4_takeWhales_13 (shl0 h) (shs0 h) (c_X7_hasGround h hs hi) rfl rfl (Nat.le_of_ble_eq_true rfl) (fun r1 M1 hr1 => ?_)
      obtain ⟨hr2, hM1⟩ := hr1
      rw [hM1]
      refine x_if_ne 19 22 rfl dX4_takeWhales_16 (by decide) (fun c16 => ?_) (fun c16 => ?_)
      · have hx : 0 ≤ x ∧ x < k 76 := Decidable.byContradiction (fun h9 => by rw [if_neg h9] at hr2; omega)
        have q4 := hs.2.2.2.2.2.1 x.toNat (by omega)
        refine x_aload_n 23 rfl dX4_takeWhales_22 1 rfl rfl ?_
        refine x_geti 26 rfl fX4_53 dX4_takeWhales_23 (shl0 h) (shs0 h) (by decide) ?_
        refine x_if_eq 29 50 rfl dX4_takeWhales_26 (by decide) (fun c26 => ?_) (fun c26 => ?_)
        · refine x_bipush 52 rfl dX4_takeWhales_50 (by decide) ?_
          refine x_reti dX4_takeWhales_52 rfl ?_
          exact Or.inr (Or.inr (Or.inl ⟨hy, hx, fun h9 => by omega, rfl, rfl⟩))
        · refine x_aload_n 30 rfl dX4_takeWhales_29 1 rfl rfl ?_
          refine x_getr 33 rfl fX4_57 dX4_takeWhales_30 (shl0 h) (shs0 h) (by decide) (a + 7) rfl ?_
          refine x_iconst 34 rfl dX4_takeWhales_33 (by decide) ?_
          refine x_ialk 35 rfl dX4_takeWhales_34 (shl7 h) (shs7 h) 0 rfl (by decide) ?_
          refine x_bipush 37 rfl dX4_takeWhales_35 (by decide) ?_
          refine x_icmp_ge 40 50 rfl dX4_takeWhales_37 (by decide) (fun c37 => ?_) (fun c37 => ?_)
          · refine x_bipush 52 rfl dX4_takeWhales_50 (by decide) ?_
            refine x_reti dX4_takeWhales_52 rfl ?_
            exact Or.inr (Or.inr (Or.inl ⟨hy, hx, fun h9 => by omega, rfl, rfl⟩))
          · refine x_iload_n 41 rfl dX4_takeWhales_40 3 rfl rfl ?_
            refine x_aload_n 42 rfl dX4_takeWhales_41 1 rfl rfl ?_
            refine x_getr 45 rfl fX4_60 dX4_takeWhales_42 (shl0 h) (shs0 h) (by decide) (a + 4) rfl ?_
            refine x_iload_n 46 rfl dX4_takeWhales_45 2 rfl rfl ?_
            refine x_iald 47 rfl dX4_takeWhales_46 (shl4 h) (shs4 h) (by omega) (by omega) ?_
            refine x_icmp_le 50 53 rfl dX4_takeWhales_47 (by decide) (fun c47 => ?_) (fun c47 => ?_)
            · refine x_aload_n 54 rfl dX4_takeWhales_53 0 rfl rfl ?_
              refine x_getr 57 rfl fX4_15 dX4_takeWhales_54 (lyl43 hL) (lys43 hL) (by decide) (39) rfl ?_
              refine x_aload_n 58 rfl dX4_takeWhales_57 1 rfl rfl ?_
              refine x_iload_n 59 rfl dX4_takeWhales_58 2 rfl rfl ?_
              refine x_aload_n 60 rfl dX4_takeWhales_59 1 rfl rfl ?_
              refine x_cVi 63 rfl lX4_63 dX4_takeWhales_60 (shl0 h) (shs0 h) (c_X7_crewSize h hs hi) rfl rfl (Nat.le_of_ble_eq_true rfl) (fun r M1 hr1 => ?_)
              obtain ⟨rfl, hM1⟩ := hr1
              rw [hM1]
              refine x_cVi 66 rfl lX4_67 dX4_takeWhales_63 (lyl39 hL) (lys39 hL) (c_X1_casksOf hL h (by omega) hs hi hLw hv (by omega) i3) rfl rfl (Nat.le_of_ble_eq_true rfl) (fun c M5 hr5 => ?_)
              obtain ⟨hc1, hm5⟩ := hr5
              refine y_istore 68 rfl dX4_takeWhales_66 rfl (ls' := [_, _, _, _, _, _]) rfl (by decide) ?_
              refine x_iconst 69 rfl dX4_takeWhales_68 (by decide) ?_
              refine y_istore 71 rfl dX4_takeWhales_69 rfl (ls' := [_, _, _, _, _, _]) rfl (by decide) ?_
              exact loop1 hy hx (by omega) c hc1 ((k 75).toNat + 1) 0 _ (by omega) (by omega) (fun j hj => by omega) (jE_jF (jE_refl hv) hm5)
            · refine x_bipush 52 rfl dX4_takeWhales_50 (by decide) ?_
              refine x_reti dX4_takeWhales_52 rfl ?_
              exact Or.inr (Or.inr (Or.inl ⟨hy, hx, fun h9 => by omega, rfl, rfl⟩))
      · refine x_bipush 21 rfl dX4_takeWhales_19 (by decide) ?_
        refine x_reti dX4_takeWhales_21 rfl ?_
        refine Or.inr (Or.inl ⟨hy, fun h9 => ?_, rfl, rfl⟩)
        rw [if_pos h9] at hr2
        omega
    · refine x_iconst 10 rfl dX4_takeWhales_9 (by decide) ?_
      refine x_reti dX4_takeWhales_10 rfl ?_
      exact Or.inl ⟨by omega, rfl, rfl⟩
