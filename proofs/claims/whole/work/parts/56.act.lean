/-! the mate acts -/
def zgone (g : Nat → Int) : Int := g 0 + g 1 + g 2 + g 3 + g 4 + g 5 + g 6 + g 7
def aHunt (Lw : List gC) (k : Nat → Int) (x y r : Int) (k' : Nat → Int) : Prop := (¬ (0 ≤ y ∧ y ≤ 3) ∧ r = -1 ∧ k' = k) ∨ ((0 ≤ y ∧ y ≤ 3) ∧ ¬ (0 ≤ x ∧ x < k 76) ∧ r = -2 ∧ k' = k) ∨ ((0 ≤ y ∧ y ≤ 3) ∧ (0 ≤ x ∧ x < k 76) ∧ ¬ (0 < zcrew k ∧ k 2 < 71 ∧ y ≤ k (19 + x.toNat)) ∧ r = -3 ∧ k' = k) ∨ ((0 ≤ y ∧ y ≤ 3) ∧ (0 ≤ x ∧ x < k 76) ∧ (0 < zcrew k ∧ k 2 < 71 ∧ y ≤ k (19 + x.toNat)) ∧ r = zgone (zoffI Lw (kH1 Lw k x.toNat y)) ∧ k' = kH2 Lw (kH1 Lw k x.toNat y))
def aSell (k : Nat → Int) (x r : Int) (k' : Nat → Int) : Prop := (¬ (1 ≤ x ∧ x ≤ 999) ∧ r = -1 ∧ k' = k) ∨ ((1 ≤ x ∧ x ≤ 999) ∧ k 0 < x ∧ r = -3 ∧ k' = k) ∨ ((1 ≤ x ∧ x ≤ 999) ∧ x ≤ k 0 ∧ r = kSell k x 1 ∧ k' = kSell k x)
def aAdv (k : Nat → Int) (x y r : Int) (k' : Nat → Int) : Prop := (¬ (1 ≤ y ∧ y ≤ 9999) ∧ r = -1 ∧ k' = k) ∨ ((1 ≤ y ∧ y ≤ 9999) ∧ ¬ (0 ≤ x ∧ x < k 75) ∧ r = -2 ∧ k' = k) ∨ ((1 ≤ y ∧ y ≤ 9999) ∧ (0 ≤ x ∧ x < k 75) ∧ (k (11 + x.toNat) = 0 ∨ k 1 < y) ∧ r = -3 ∧ k' = k) ∨ ((1 ≤ y ∧ y ≤ 9999) ∧ (0 ≤ x ∧ x < k 75) ∧ k (11 + x.toNat) = 1 ∧ y ≤ k 1 ∧ r = kAdv k x.toNat y (3 + x.toNat) ∧ k' = kAdv k x.toNat y)
def aLeave (k : Nat → Int) (x r : Int) (k' : Nat → Int) : Prop := (¬ (0 ≤ x ∧ x < k 75) ∧ r = -2 ∧ k' = k) ∨ ((0 ≤ x ∧ x < k 75) ∧ k (11 + x.toNat) = 0 ∧ r = -3 ∧ k' = k) ∨ ((0 ≤ x ∧ x < k 75) ∧ k (11 + x.toNat) = 1 ∧ r = zcrew (kLeave k x.toNat) ∧ k' = kLeave k x.toNat)
/-- what an act answers, and what is kept then -/
def actR (Lw : List gC) (k : Nat → Int) (K x y r : Int) (k' : Nat → Int) : Prop := (K = 16 → aHunt Lw k x y r k') ∧ (K = 17 → aSell k x r k') ∧ (K = 18 → aAdv k x y r k') ∧ (K = 19 → aLeave k x r k')
theorem slotK_fr {M M' : zMem} {b s : Nat} {e : Nat → Int} (h : slotK M b s e) (h2 : M' (b + 2) = M (b + 2)) : slotK M' b s e := by
  unfold slotK at h ⊢
  rw [h2]
  exact h
theorem LR_fr {M M' : zMem} {b n : Nat} {l : Nat → Nat → Int} (h : LR M b l n) (h0 : M' b = M b) (h1 : M' (b + 1) = M (b + 1)) (h2 : M' (b + 2) = M (b + 2)) : LR M' b l n := by
  unfold LR at h ⊢
  rw [h0, h1]
  exact ⟨h.1, h.2.1, h.2.2.1, fun j hj => ⟨slotK_fr (h.2.2.2 j hj).1 h2, (h.2.2.2 j hj).2⟩⟩

set_option maxRecDepth 100000 in
set_option maxHeartbeats 4000000 in
theorem c_X4_act {d sz : Nat} {S : zSh} {M : zMem} (hL : LY S sz) {a : Nat} (h : SH S sz a) (had : a + 11 ≤ 40 ∨ 45 ≤ a) {k : Nat → Int} (hs : SR M a k) (hi : KI k) {Lw : List gC} (hLw : LwC S sz M a k Lw) (hv : v42 M) {b n : Nat} {l : Nat → Nat → Int} (hb : LG S sz b) (hd : b + 3 ≤ a ∨ a + 11 ≤ b) (hbb : b + 3 ≤ 40 ∨ 45 ≤ b) (hb75 : b + 3 ≤ 75) (ha75 : a + 11 ≤ 75) (hl : LR M b l n) {K x y : Int} (hK : 16 ≤ K ∧ K ≤ 19) : zX (d + 5) 0 0 mX4_act [zn 43, zn a, zn b, zi K, zi x, zi y] sz S M (zI sz S (fun r M' => ∃ k', actR Lw k K x y r k' ∧ SR M' a k' ∧ (r < 0 → LR M' b l n) ∧ (0 ≤ r → LR M' b (lpush l n k (K - 16)) (min (n + 1) 16)) ∧ (∀ i, i ≠ a → i ≠ a + 2 → i ≠ a + 4 → i ≠ a + 7 → i ≠ 41 → i ≠ 42 → i ≠ 44 → i ≠ b → i ≠ b + 1 → i ≠ b + 2 → M' i = M i) ∧ v42 M')) := by
  have i1 := hi.1
  have fin : ∀ (r : Int) (M1 : zMem), (∀ i, i ≠ b + 2 → M1 i = M i) → LR M1 b l n → slotK M1 b (((M b 2).toNat + n) % 17) k → ∀ (k' : Nat → Int) (M2 : zMem), actR Lw k K x y r k' → SR M2 a k' → (∀ i, i ≠ a → i ≠ a + 2 → i ≠ a + 4 → i ≠ a + 7 → i ≠ 41 → i ≠ 42 → i ≠ 44 → M2 i = M1 i) → v42 M2 → zW mX4_act (d + 5) 0 0 [] (zI sz S (fun r M' => ∃ k', actR Lw k K x y r k' ∧ SR M' a k' ∧ (r < 0 → LR M' b l n) ∧ (0 ≤ r → LR M' b (lpush l n k (K - 16)) (min (n + 1) 16)) ∧ (∀ i, i ≠ a → i ≠ a + 2 → i ≠ a + 4 → i ≠ a + 7 → i ≠ 41 → i ≠ 42 → i ≠ 44 → i ≠ b → i ≠ b + 1 → i ≠ b + 2 → M' i = M i) ∧ v42 M')) 97 [some (zn 43), some (zn a), some (zn b), some (zi K), some (zi x), some (zi y), some (zi r)] [] sz S M2 := by
    intro r M1 hn1 hl1 hk1 k' M2 hA hs2 hf hv2
    have hl2 : LR M2 b l n := LR_fr hl1 (hf _ (by omega) (by omega) (by omega) (by omega) (by omega) (by omega) (by omega)) (hf _ (by omega) (by omega) (by omega) (by omega) (by omega) (by omega) (by omega)) (hf _ (by omega) (by omega) (by omega) (by omega) (by omega) (by omega) (by omega))
    have hk2 : slotK M2 b (((M2 b 2).toNat + n) % 17) k := by
      rw [show M2 b = M b by rw [hf b (by omega) (by omega) (by omega) (by omega) (by omega) (by omega) (by omega)]; exact hn1 b (by omega)]
      exact slotK_fr hk1 (hf _ (by omega) (by omega) (by omega) (by omega) (by omega) (by omega) (by omega))
    refine x_iload 99 rfl dX4_act_97 rfl ?_
    refine x_if_lt 102 110 rfl dX4_act_99 (by decide) (fun c99 => ?_) (fun c99 => ?_)
    · refine x_iload 112 rfl dX4_act_110 rfl ?_
      refine x_reti dX4_act_112 rfl ?_
      exact ⟨k', hA, hs2, fun _ => hl2, fun h9 => absurd h9 (by omega), fun i a1 a2 a3 a4 a5 a6 a7 a8 a9 a10 => by rw [hf i a1 a2 a3 a4 a5 a6 a7]; exact hn1 i a10, hv2⟩
    · refine x_aload_n 103 rfl dX4_act_102 2 rfl rfl ?_
      refine x_iload_n 104 rfl dX4_act_103 3 rfl rfl ?_
      refine x_bipush 106 rfl dX4_act_104 (by decide) ?_
      refine y_isub 107 rfl dX4_act_106 (by omega) ?_
      refine x_cVu 110 rfl lX4_43 dX4_act_107 (lgl0 hb) (lgs0 hb) (c_X2_keepNoted hb hl2 hk2) rfl rfl (Nat.le_of_ble_eq_true rfl) (fun M3 hr3 => ?_)
      obtain ⟨h31, h32⟩ := hr3
      refine x_iload 112 rfl dX4_act_110 rfl ?_
      refine x_reti dX4_act_112 rfl ?_
      exact ⟨k', hA, SR_frame hs2 (fun i a1 a2 => h31 i (by omega) (by omega)), fun h9 => absurd h9 (by omega), fun _ => h32, fun i a1 a2 a3 a4 a5 a6 a7 a8 a9 a10 => by rw [h31 i a8 a9, hf i a1 a2 a3 a4 a5 a6 a7]; exact hn1 i a10, fun j hj => by rw [h31 42 (by omega) (by omega)]; exact hv2 j hj⟩
  refine zX_of pl_RX4 [some (zn 43), some (zn a), some (zn b), some (zi K), some (zi x), some (zi y), none] 1 rfl rfl ?_
  refine x_aload_n 1 rfl dX4_act_0 2 rfl rfl ?_
  refine x_aload_n 2 rfl dX4_act_1 1 rfl rfl ?_
  refine x_cVu 5 rfl lX4_19 dX4_act_2 (lgl0 hb) (lgs0 hb) (c_X2_note hb h (by omega) hl hs) rfl rfl (Nat.le_of_ble_eq_true rfl) (fun M1 hr1 => ?_)
  obtain ⟨hn1, hl1, hk1⟩ := hr1
  have hs1 : SR M1 a k := SR_frame hs (fun i a1 a2 => hn1 i (by omega))
  have hLw1 : LwC S sz M1 a k Lw := LwC_frame hLw rfl (hn1 _ (by omega)) (fun i h9 => hn1 i (by omega))
  have hv1 : v42 M1 := fun j hj => by rw [hn1 42 (by omega)]; exact hv j hj
  refine x_iconst 6 rfl dX4_act_5 (by decide) ?_
  refine y_istore 8 rfl dX4_act_6 rfl (ls' := [_, _, _, _, _, _, _]) rfl (by decide) ?_
  refine x_iload_n 9 rfl dX4_act_8 3 rfl rfl ?_
  refine x_tsC (16) 36 0 dX4_act_9 (by decide) (by decide) (by decide) rfl (by decide) (fun c9 => ?_) (fun c9_0 => ?_)
  · refine x_aload_n 37 rfl dX4_act_36 0 rfl rfl ?_
    refine x_aload_n 38 rfl dX4_act_37 1 rfl rfl ?_
    refine x_iload 40 rfl dX4_act_38 rfl ?_
    refine x_iload 42 rfl dX4_act_40 rfl ?_
    refine x_cVi 45 rfl lX4_25 dX4_act_42 (lyl43 hL) (lys43 hL) (c_X4_takeWhales hL h had hs1 hi hLw1 hv1) rfl rfl (Nat.le_of_ble_eq_true rfl) (fun r2 M2 hr2 => ?_)
    refine y_istore 47 rfl dX4_act_45 rfl (ls' := [_, _, _, _, _, _, _]) rfl (by decide) ?_
    refine x_iload 49 rfl dX4_act_47 rfl ?_
    refine x_if_lt 52 97 rfl dX4_act_49 (by decide) (fun c49 => ?_) (fun c49 => ?_)
    · rcases hr2 with ⟨b1, b2, b3⟩ | ⟨b1, b0, b2, b3⟩ | ⟨b1, b0, b4, b2, b3⟩ | ⟨b1, b0, b4, b2, -⟩
      · rw [b3]; exact fin _ M1 hn1 hl1 hk1 k _ ⟨fun _ => Or.inl ⟨b1, b2, rfl⟩, fun hh => by omega, fun hh => by omega, fun hh => by omega⟩ hs1 (fun i _ _ _ _ _ _ _ => rfl) hv1
      · rw [b3]; exact fin _ M1 hn1 hl1 hk1 k _ ⟨fun _ => Or.inr (Or.inl ⟨b1, b0, b2, rfl⟩), fun hh => by omega, fun hh => by omega, fun hh => by omega⟩ hs1 (fun i _ _ _ _ _ _ _ => rfl) hv1
      · rw [b3]; exact fin _ M1 hn1 hl1 hk1 k _ ⟨fun _ => Or.inr (Or.inr (Or.inl ⟨b1, b0, b4, b2, rfl⟩)), fun hh => by omega, fun hh => by omega, fun hh => by omega⟩ hs1 (fun i _ _ _ _ _ _ _ => rfl) hv1
      · exfalso; omega
    · have hok : (0 ≤ y ∧ y ≤ 3) ∧ (0 ≤ x ∧ x < k 76) ∧ (0 < zcrew k ∧ k 2 < 71 ∧ y ≤ k (19 + x.toNat)) ∧ SR M2 a (kH1 Lw k x.toNat y) ∧ (∀ i, i ≠ a → i ≠ a + 2 → i ≠ a + 4 → i ≠ a + 7 → i ≠ 41 → i ≠ 42 → i ≠ 44 → M2 i = M1 i) ∧ v42 M2 := by
        rcases hr2 with ⟨b1, b2, b3⟩ | ⟨b1, b0, b2, b3⟩ | ⟨b1, b0, b4, b2, b3⟩ | ⟨b1, b0, b4, b2, b5, b6, b7⟩
        · exfalso; omega
        · exfalso; omega
        · exfalso; omega
        · exact ⟨b1, b0, b4, b5, b6, b7⟩
      obtain ⟨b1, b0, b4, b5, b6, b7⟩ := hok
      have hkk := kH1_KI (Lw := Lw) (w := y) (g := x.toNat) hi (by omega) ⟨b1.1, b4.2.2⟩ b4.2.1
      have hLw2 : LwC S sz M2 a (kH1 Lw k x.toNat y) Lw := LwC_frame hLw1 (kH1_o (by omega) (by omega)) (b6 _ (by omega) (by omega) (by omega) (by omega) (by omega) (by omega) (by omega)) (fun i h9 => b6 i (by omega) (by omega) (by omega) (by omega) (by omega) (by omega) (by omega))
      refine x_aload_n 53 rfl dX4_act_52 0 rfl rfl ?_
      refine x_aload_n 54 rfl dX4_act_53 1 rfl rfl ?_
      refine x_cVi 57 rfl lX4_29 dX4_act_54 (lyl43 hL) (lys43 hL) (c_X4_runAway hL h had b5 hkk hLw2 b7) rfl rfl (Nat.le_of_ble_eq_true rfl) (fun r3 M3 hr3 => ?_)
      obtain ⟨g, hg, hr4, hs3, hf3, hv3⟩ := hr3
      refine y_istore 59 rfl dX4_act_57 rfl (ls' := [_, _, _, _, _, _, _]) rfl (by decide) ?_
      refine x_goto 97 dX4_act_59 (by decide) ?_
      exact fin _ M1 hn1 hl1 hk1 _ _ ⟨fun _ => Or.inr (Or.inr (Or.inr ⟨b1, b0, b4, by rw [hr4, hg]; rfl, rfl⟩)), fun hh => by omega, fun hh => by omega, fun hh => by omega⟩ hs3 (fun i a1 a2 a3 a4 a5 a6 a7 => by rw [hf3 i a1 a5 a6]; exact b6 i a1 a2 a3 a4 a5 a6 a7) hv3
  refine x_tsC (17) 62 1 dX4_act_9 (by decide) (by decide) (by decide) rfl (by decide) (fun c9 => ?_) (fun c9_1 => ?_)
  · refine x_aload_n 63 rfl dX4_act_62 0 rfl rfl ?_
    refine x_aload_n 64 rfl dX4_act_63 1 rfl rfl ?_
    refine x_iload 66 rfl dX4_act_64 rfl ?_
    refine x_cVi 69 rfl lX4_33 dX4_act_66 (lyl43 hL) (lys43 hL) (c_X4_sellOff h had hs1 hi) rfl rfl (Nat.le_of_ble_eq_true rfl) (fun r2 M2 hr2 => ?_)
    refine y_istore 71 rfl dX4_act_69 rfl (ls' := [_, _, _, _, _, _, _]) rfl (by decide) ?_
    refine x_goto 97 dX4_act_71 (by decide) ?_
    rcases hr2 with ⟨b1, b2, b3⟩ | ⟨b1, b4, b2, b3⟩ | ⟨b1, b4, b2, b5, b6⟩
    · rw [b3]; exact fin _ M1 hn1 hl1 hk1 k _ ⟨fun hh => by omega, fun _ => Or.inl ⟨b1, b2, rfl⟩, fun hh => by omega, fun hh => by omega⟩ hs1 (fun i _ _ _ _ _ _ _ => rfl) hv1
    · rw [b3]; exact fin _ M1 hn1 hl1 hk1 k _ ⟨fun hh => by omega, fun _ => Or.inr (Or.inl ⟨b1, b4, b2, rfl⟩), fun hh => by omega, fun hh => by omega⟩ hs1 (fun i _ _ _ _ _ _ _ => rfl) hv1
    · exact fin _ M1 hn1 hl1 hk1 _ _ ⟨fun hh => by omega, fun _ => Or.inr (Or.inr ⟨b1, b4, b2, rfl⟩), fun hh => by omega, fun hh => by omega⟩ b5 (fun i a1 a2 a3 a4 a5 a6 a7 => b6 i a1) (fun j hj => by rw [b6 42 (by omega)]; exact hv1 j hj)
  refine x_tsC (18) 74 2 dX4_act_9 (by decide) (by decide) (by decide) rfl (by decide) (fun c9 => ?_) (fun c9_2 => ?_)
  · refine x_aload_n 75 rfl dX4_act_74 0 rfl rfl ?_
    refine x_aload_n 76 rfl dX4_act_75 1 rfl rfl ?_
    refine x_iload 78 rfl dX4_act_76 rfl ?_
    refine x_iload 80 rfl dX4_act_78 rfl ?_
    refine x_cVi 83 rfl lX4_37 dX4_act_80 (lyl43 hL) (lys43 hL) (c_X4_payOut h had hs1 hi) rfl rfl (Nat.le_of_ble_eq_true rfl) (fun r2 M2 hr2 => ?_)
    refine y_istore 85 rfl dX4_act_83 rfl (ls' := [_, _, _, _, _, _, _]) rfl (by decide) ?_
    refine x_goto 97 dX4_act_85 (by decide) ?_
    rcases hr2 with ⟨b1, b2, b3⟩ | ⟨b1, b0, b2, b3⟩ | ⟨b1, b0, b4, b2, b3⟩ | ⟨b1, b0, b4, b7, b2, b5, b6⟩
    · rw [b3]; exact fin _ M1 hn1 hl1 hk1 k _ ⟨fun hh => by omega, fun hh => by omega, fun _ => Or.inl ⟨b1, b2, rfl⟩, fun hh => by omega⟩ hs1 (fun i _ _ _ _ _ _ _ => rfl) hv1
    · rw [b3]; exact fin _ M1 hn1 hl1 hk1 k _ ⟨fun hh => by omega, fun hh => by omega, fun _ => Or.inr (Or.inl ⟨b1, b0, b2, rfl⟩), fun hh => by omega⟩ hs1 (fun i _ _ _ _ _ _ _ => rfl) hv1
    · rw [b3]; exact fin _ M1 hn1 hl1 hk1 k _ ⟨fun hh => by omega, fun hh => by omega, fun _ => Or.inr (Or.inr (Or.inl ⟨b1, b0, b4, b2, rfl⟩)), fun hh => by omega⟩ hs1 (fun i _ _ _ _ _ _ _ => rfl) hv1
    · exact fin _ M1 hn1 hl1 hk1 _ _ ⟨fun hh => by omega, fun hh => by omega, fun _ => Or.inr (Or.inr (Or.inr ⟨b1, b0, b4, b7, b2, rfl⟩)), fun hh => by omega⟩ b5 (fun i a1 a2 a3 a4 a5 a6 a7 => b6 i a1 a2) (fun j hj => by rw [b6 42 (by omega) (by omega)]; exact hv1 j hj)
  refine x_tsOut 88 dX4_act_9 (by omega) (by decide) ?_
  refine x_aload_n 89 rfl dX4_act_88 0 rfl rfl ?_
  refine x_aload_n 90 rfl dX4_act_89 1 rfl rfl ?_
  refine x_iload 92 rfl dX4_act_90 rfl ?_
  refine x_cVi 95 rfl lX4_40 dX4_act_92 (lyl43 hL) (lys43 hL) (c_X4_putAshore h had hs1 hi) rfl rfl (Nat.le_of_ble_eq_true rfl) (fun r2 M2 hr2 => ?_)
  refine y_istore 97 rfl dX4_act_95 rfl (ls' := [_, _, _, _, _, _, _]) rfl (by decide) ?_
  rcases hr2 with ⟨b1, b2, b3⟩ | ⟨b1, b4, b2, b3⟩ | ⟨b1, b4, b2, b5, b6⟩
  · rw [b3]; exact fin _ M1 hn1 hl1 hk1 k _ ⟨fun hh => by omega, fun hh => by omega, fun hh => by omega, fun _ => Or.inl ⟨b1, b2, rfl⟩⟩ hs1 (fun i _ _ _ _ _ _ _ => rfl) hv1
  · rw [b3]; exact fin _ M1 hn1 hl1 hk1 k _ ⟨fun hh => by omega, fun hh => by omega, fun hh => by omega, fun _ => Or.inr (Or.inl ⟨b1, b4, b2, rfl⟩)⟩ hs1 (fun i _ _ _ _ _ _ _ => rfl) hv1
  · exact fin _ M1 hn1 hl1 hk1 _ _ ⟨fun hh => by omega, fun hh => by omega, fun hh => by omega, fun _ => Or.inr (Or.inr ⟨b1, b4, b2, rfl⟩)⟩ b5 (fun i a1 a2 a3 a4 a5 a6 a7 => b6 i a1) (fun j hj => by rw [b6 42 (by omega)]; exact hv1 j hj)
