/-! the mate -/
theorem SR_oil {M : zMem} {a : Nat} {k : Nat → Int} (h : SR M a k) (v : Int) : SR (z_up M (a) 8 v) a (ku k 0 v) := by
  obtain ⟨⟨s1, s2, s3, s4, s5, s6, s7, s8⟩, ⟨s9, s10, s11⟩, q1, q2, q3, q4, q5, q6, q7, q8⟩ := h
  have em : zmask (ku k 0 v) = zmask k := by simp [zmask, ku]
  refine ⟨⟨?_, ?_, ?_, ?_, ?_, ?_, ?_, ?_⟩, ⟨?_, ?_, ?_⟩, ?_, ?_, ?_, ?_, ?_, ?_, ?_, ?_⟩
  · simp (disch := omega) only [z_up_ne, z_up_nk, ku, if_neg]; exact s1
  · rw [em]; simp (disch := omega) only [z_up_ne, z_up_nk]; exact s2
  · simp (disch := omega) only [z_up_ne, z_up_nk, ku, if_neg]; exact s3
  · simp [z_up, ku]
  · simp (disch := omega) only [z_up_ne, z_up_nk, ku, if_neg]; exact s5
  · simp (disch := omega) only [z_up_ne, z_up_nk, ku, if_neg]; exact s6
  · simp (disch := omega) only [z_up_ne, z_up_nk, ku, if_neg]; exact s7
  · simp (disch := omega) only [z_up_ne, z_up_nk, ku, if_neg]; exact s8
  · simp (disch := omega) only [z_up_ne, z_up_nk, ku, if_neg]; exact s9
  · simp (disch := omega) only [z_up_ne, z_up_nk, ku, if_neg]; exact s10
  · simp (disch := omega) only [z_up_ne, z_up_nk, ku, if_neg]; exact s11
  · intro j hj; simp (disch := omega) only [z_up_ne, ku, if_neg]; exact q1 j hj
  · intro j hj; simp (disch := omega) only [z_up_ne, ku, if_neg]; exact q2 j hj
  · intro j hj; simp (disch := omega) only [z_up_ne, ku, if_neg]; exact q3 j hj
  · intro j hj; simp (disch := omega) only [z_up_ne, ku, if_neg]; exact q4 j hj
  · intro j hj; simp (disch := omega) only [z_up_ne, ku, if_neg]; exact q5 j hj
  · intro j hj; simp (disch := omega) only [z_up_ne, ku, if_neg]; exact q6 j hj
  · intro j hj; simp (disch := omega) only [z_up_ne, ku, if_neg]; exact q7 j hj
  · intro j hj; simp (disch := omega) only [z_up_ne, ku, if_neg]; exact q8 j hj

theorem SR_purse {M : zMem} {a : Nat} {k : Nat → Int} (h : SR M a k) (v : Int) : SR (z_up M (a) 9 v) a (ku k 1 v) := by
  obtain ⟨⟨s1, s2, s3, s4, s5, s6, s7, s8⟩, ⟨s9, s10, s11⟩, q1, q2, q3, q4, q5, q6, q7, q8⟩ := h
  have em : zmask (ku k 1 v) = zmask k := by simp [zmask, ku]
  refine ⟨⟨?_, ?_, ?_, ?_, ?_, ?_, ?_, ?_⟩, ⟨?_, ?_, ?_⟩, ?_, ?_, ?_, ?_, ?_, ?_, ?_, ?_⟩
  · simp (disch := omega) only [z_up_ne, z_up_nk, ku, if_neg]; exact s1
  · rw [em]; simp (disch := omega) only [z_up_ne, z_up_nk]; exact s2
  · simp (disch := omega) only [z_up_ne, z_up_nk, ku, if_neg]; exact s3
  · simp (disch := omega) only [z_up_ne, z_up_nk, ku, if_neg]; exact s4
  · simp [z_up, ku]
  · simp (disch := omega) only [z_up_ne, z_up_nk, ku, if_neg]; exact s6
  · simp (disch := omega) only [z_up_ne, z_up_nk, ku, if_neg]; exact s7
  · simp (disch := omega) only [z_up_ne, z_up_nk, ku, if_neg]; exact s8
  · simp (disch := omega) only [z_up_ne, z_up_nk, ku, if_neg]; exact s9
  · simp (disch := omega) only [z_up_ne, z_up_nk, ku, if_neg]; exact s10
  · simp (disch := omega) only [z_up_ne, z_up_nk, ku, if_neg]; exact s11
  · intro j hj; simp (disch := omega) only [z_up_ne, ku, if_neg]; exact q1 j hj
  · intro j hj; simp (disch := omega) only [z_up_ne, ku, if_neg]; exact q2 j hj
  · intro j hj; simp (disch := omega) only [z_up_ne, ku, if_neg]; exact q3 j hj
  · intro j hj; simp (disch := omega) only [z_up_ne, ku, if_neg]; exact q4 j hj
  · intro j hj; simp (disch := omega) only [z_up_ne, ku, if_neg]; exact q5 j hj
  · intro j hj; simp (disch := omega) only [z_up_ne, ku, if_neg]; exact q6 j hj
  · intro j hj; simp (disch := omega) only [z_up_ne, ku, if_neg]; exact q7 j hj
  · intro j hj; simp (disch := omega) only [z_up_ne, ku, if_neg]; exact q8 j hj

theorem SR_debt {M : zMem} {a : Nat} {k : Nat → Int} (h : SR M a k) {y : Nat} (hy : y < 8) (v : Int) : SR (z_up M (a + 2) y v) a (ku k (3 + y) v) := by
  obtain ⟨⟨s1, s2, s3, s4, s5, s6, s7, s8⟩, ⟨s9, s10, s11⟩, q1, q2, q3, q4, q5, q6, q7, q8⟩ := h
  have em : zmask (ku k (3 + y) v) = zmask k := by simp only [zmask, ku]; repeat' rw [if_neg (by omega)]
  refine ⟨⟨?_, ?_, ?_, ?_, ?_, ?_, ?_, ?_⟩, ⟨?_, ?_, ?_⟩, ?_, ?_, ?_, ?_, ?_, ?_, ?_, ?_⟩
  · simp (disch := omega) only [z_up_ne, ku, if_neg]; exact s1
  · rw [em]; simp (disch := omega) only [z_up_ne]; exact s2
  · simp (disch := omega) only [z_up_ne, ku, if_neg]; exact s3
  · simp (disch := omega) only [z_up_ne, ku, if_neg]; exact s4
  · simp (disch := omega) only [z_up_ne, ku, if_neg]; exact s5
  · simp (disch := omega) only [z_up_ne, ku, if_neg]; exact s6
  · simp (disch := omega) only [z_up_ne, ku, if_neg]; exact s7
  · simp (disch := omega) only [z_up_ne, ku, if_neg]; exact s8
  · simp (disch := omega) only [z_up_ne, ku, if_neg]; exact s9
  · simp (disch := omega) only [z_up_ne, ku, if_neg]; exact s10
  · simp (disch := omega) only [z_up_ne, ku, if_neg]; exact s11
  · intro j hj; simp (disch := omega) only [z_up_ne, ku, if_neg]; exact q1 j hj
  · intro j hj
    rw [z_up_at]
    simp only [ku]
    by_cases e : j = y
    · rw [if_pos e, if_pos (by omega)]
    · rw [if_neg e, if_neg (by omega)]; exact q2 j hj
  · intro j hj; simp (disch := omega) only [z_up_ne, ku, if_neg]; exact q3 j hj
  · intro j hj; simp (disch := omega) only [z_up_ne, ku, if_neg]; exact q4 j hj
  · intro j hj; simp (disch := omega) only [z_up_ne, ku, if_neg]; exact q5 j hj
  · intro j hj; simp (disch := omega) only [z_up_ne, ku, if_neg]; exact q6 j hj
  · intro j hj; simp (disch := omega) only [z_up_ne, ku, if_neg]; exact q7 j hj
  · intro j hj; simp (disch := omega) only [z_up_ne, ku, if_neg]; exact q8 j hj

theorem SR_whale {M : zMem} {a : Nat} {k : Nat → Int} (h : SR M a k) {y : Nat} (hy : y < 4) (v : Int) : SR (z_up M (a + 4) y v) a (ku k (19 + y) v) := by
  obtain ⟨⟨s1, s2, s3, s4, s5, s6, s7, s8⟩, ⟨s9, s10, s11⟩, q1, q2, q3, q4, q5, q6, q7, q8⟩ := h
  have em : zmask (ku k (19 + y) v) = zmask k := by simp only [zmask, ku]; repeat' rw [if_neg (by omega)]
  refine ⟨⟨?_, ?_, ?_, ?_, ?_, ?_, ?_, ?_⟩, ⟨?_, ?_, ?_⟩, ?_, ?_, ?_, ?_, ?_, ?_, ?_, ?_⟩
  · simp (disch := omega) only [z_up_ne, ku, if_neg]; exact s1
  · rw [em]; simp (disch := omega) only [z_up_ne]; exact s2
  · simp (disch := omega) only [z_up_ne, ku, if_neg]; exact s3
  · simp (disch := omega) only [z_up_ne, ku, if_neg]; exact s4
  · simp (disch := omega) only [z_up_ne, ku, if_neg]; exact s5
  · simp (disch := omega) only [z_up_ne, ku, if_neg]; exact s6
  · simp (disch := omega) only [z_up_ne, ku, if_neg]; exact s7
  · simp (disch := omega) only [z_up_ne, ku, if_neg]; exact s8
  · simp (disch := omega) only [z_up_ne, ku, if_neg]; exact s9
  · simp (disch := omega) only [z_up_ne, ku, if_neg]; exact s10
  · simp (disch := omega) only [z_up_ne, ku, if_neg]; exact s11
  · intro j hj; simp (disch := omega) only [z_up_ne, ku, if_neg]; exact q1 j hj
  · intro j hj; simp (disch := omega) only [z_up_ne, ku, if_neg]; exact q2 j hj
  · intro j hj; simp (disch := omega) only [z_up_ne, ku, if_neg]; exact q3 j hj
  · intro j hj
    rw [z_up_at]
    simp only [ku]
    by_cases e : j = y
    · rw [if_pos e, if_pos (by omega)]
    · rw [if_neg e, if_neg (by omega)]; exact q4 j hj
  · intro j hj; simp (disch := omega) only [z_up_ne, ku, if_neg]; exact q5 j hj
  · intro j hj; simp (disch := omega) only [z_up_ne, ku, if_neg]; exact q6 j hj
  · intro j hj; simp (disch := omega) only [z_up_ne, ku, if_neg]; exact q7 j hj
  · intro j hj; simp (disch := omega) only [z_up_ne, ku, if_neg]; exact q8 j hj

theorem SR_mask {M : zMem} {a : Nat} {k k' : Nat → Int} {v : Int} (h : SR M a k) (e : ∀ i, (i < 11 ∨ 19 ≤ i) → k' i = k i) (hv : v = zmask k') : SR (z_up M a 4 v) a k' := by
  obtain ⟨⟨s1, s2, s3, s4, s5, s6, s7, s8⟩, ⟨s9, s10, s11⟩, q1, q2, q3, q4, q5, q6, q7, q8⟩ := h
  refine ⟨⟨?_, ?_, ?_, ?_, ?_, ?_, ?_, ?_⟩, ⟨?_, ?_, ?_⟩, ?_, ?_, ?_, ?_, ?_, ?_, ?_, ?_⟩
  · rw [z_up_nk (by decide), e 75 (by omega)]; exact s1
  · rw [z_up_eq]; exact hv
  · rw [z_up_nk (by decide), e 76 (by omega)]; exact s3
  · rw [z_up_nk (by decide), e 0 (by omega)]; exact s4
  · rw [z_up_nk (by decide), e 1 (by omega)]; exact s5
  · rw [z_up_nk (by decide), e 77 (by omega)]; exact s6
  · rw [z_up_nk (by decide), e 78 (by omega)]; exact s7
  · rw [z_up_nk (by decide), e 79 (by omega)]; exact s8
  · rw [z_up_ne (by omega), e 2 (by omega)]; exact s9
  · rw [z_up_ne (by omega), e 73 (by omega)]; exact s10
  · rw [z_up_ne (by omega), e 74 (by omega)]; exact s11
  · intro j hj; rw [z_up_ne (by omega), e _ (by omega)]; exact q1 j hj
  · intro j hj; rw [z_up_ne (by omega), e _ (by omega)]; exact q2 j hj
  · intro j hj; rw [z_up_ne (by omega), e _ (by omega)]; exact q3 j hj
  · intro j hj; rw [z_up_ne (by omega), e _ (by omega)]; exact q4 j hj
  · intro j hj; rw [z_up_ne (by omega), e _ (by omega)]; exact q5 j hj
  · intro j hj; rw [z_up_ne (by omega), e _ (by omega)]; exact q6 j hj
  · intro j hj; rw [z_up_ne (by omega), e _ (by omega)]; exact q7 j hj
  · intro j hj; rw [z_up_ne (by omega), e _ (by omega)]; exact q8 j hj
theorem zmk_congr {f g : Nat → Int} (h : ∀ j, j < 8 → f j = g j) : zmk f = zmk g := by
  unfold zmk
  rw [h 0 (by decide), h 1 (by decide), h 2 (by decide), h 3 (by decide), h 4 (by decide), h 5 (by decide), h 6 (by decide), h 7 (by decide)]
theorem zmask_off {k g : Nat → Int} (hi : KI k) (hg : z01 g) : zand (zmask k) (zxor (zmk g) (-1)) = zmask (kOff g 8 k) := by
  have h1 := zmk_andn (zab01 hi) hg
  refine h1.trans ?_
  show _ = zmk (fun j => kOff g 8 k (11 + j))
  refine zmk_congr (fun j hj => ?_)
  show k (11 + j) * (1 - g j) = kOff g 8 k (11 + j)
  unfold kOff
  rw [Nat.add_sub_cancel_left]
  rcases hg j hj with h2 | h2
  · rw [h2, if_neg (by omega)]; simp
  · rw [h2, if_pos (by omega)]; simp
theorem zmk_one {h : Nat} (hh : h < 8) : zshl 1 h = zmk (fun j => if j = h then 1 else 0) := by
  rw [zshl_1 h hh]
  have : h = 0 ∨ h = 1 ∨ h = 2 ∨ h = 3 ∨ h = 4 ∨ h = 5 ∨ h = 6 ∨ h = 7 := by omega
  rcases this with rfl | rfl | rfl | rfl | rfl | rfl | rfl | rfl <;> decide
theorem zone01 {h : Nat} : z01 (fun j => if j = h then 1 else 0) := fun j _ => by
  show (if j = h then (1 : Int) else 0) = 0 ∨ (if j = h then (1 : Int) else 0) = 1
  split
  · exact Or.inr rfl
  · exact Or.inl rfl
theorem kOff_one {k : Nat → Int} {h : Nat} (hh : h < 8) : kOff (fun j => if j = h then 1 else 0) 8 k = kLeave k h := by
  funext i
  unfold kOff kLeave ku
  by_cases h1 : i = 11 + h
  · rw [if_pos h1, if_pos ⟨by omega, by omega, by show (if i - 11 = h then (1 : Int) else 0) = 1; rw [if_pos (by omega)]⟩]
  · rw [if_neg h1, if_neg (fun h2 => by
      have h3 : (if i - 11 = h then (1 : Int) else 0) = 1 := h2.2.2
      have h4 := h2.1
      rw [if_neg (by omega)] at h3
      exact absurd h3 (by decide))]

set_option maxRecDepth 100000 in
set_option maxHeartbeats 4000000 in
theorem c_X4_sellOff {d sz : Nat} {S : zSh} {M : zMem} {a : Nat} (h : SH S sz a) (had : a + 11 ≤ 40 ∨ 45 ≤ a) {k : Nat → Int} (hs : SR M a k) (hi : KI k) {x : Int} : zX (d + 1) 0 0 mX4_sellOff [zn 43, zn a, zi x] sz S M (zI sz S (fun r M' => (¬ (1 ≤ x ∧ x ≤ 999) ∧ r = -1 ∧ M' = M) ∨ ((1 ≤ x ∧ x ≤ 999) ∧ k 0 < x ∧ r = -3 ∧ M' = M) ∨ ((1 ≤ x ∧ x ≤ 999) ∧ x ≤ k 0 ∧ r = kSell k x 1 ∧ SR M' a (kSell k x) ∧ ∀ i, i ≠ a → M' i = M i))) := by
  have i1 := hi.1
  have e4 := hs.1.2.2.2.1
  have e5 := hs.1.2.2.2.2.1
  have t0 := hs.2.1.1
  refine zX_of pl_RX4 [some (zn 43), some (zn a), some (zi x)] 0 rfl rfl ?_
  refine x_iload_n 1 rfl dX4_sellOff_0 2 rfl rfl ?_
  refine x_iconst 2 rfl dX4_sellOff_1 (by decide) ?_
  refine x_icmp_lt 5 12 rfl dX4_sellOff_2 (by decide) (fun c2 => ?_) (fun c2 => ?_)
  · refine x_iconst 13 rfl dX4_sellOff_12 (by decide) ?_
    refine x_reti dX4_sellOff_13 rfl ?_
    exact Or.inl ⟨by omega, rfl, rfl⟩
  · refine x_iload_n 6 rfl dX4_sellOff_5 2 rfl rfl ?_
    refine x_sipush 9 rfl dX4_sellOff_6 (by decide) ?_
    refine x_icmp_le 12 14 rfl dX4_sellOff_9 (by decide) (fun c9 => ?_) (fun c9 => ?_)
    · have hx : 1 ≤ x ∧ x ≤ 999 := by omega
      have i3 := zsell_in hi hx
      refine x_iload_n 15 rfl dX4_sellOff_14 2 rfl rfl ?_
      refine x_aload_n 16 rfl dX4_sellOff_15 1 rfl rfl ?_
      refine x_geti 19 rfl fX4_81 dX4_sellOff_16 (shl0 h) (shs0 h) (by decide) ?_
      refine x_icmp_le 22 25 rfl dX4_sellOff_19 (by decide) (fun c19 => ?_) (fun c19 => ?_)
      · refine x_aload_n 26 rfl dX4_sellOff_25 1 rfl rfl ?_
        refine x_dupr 27 rfl dX4_sellOff_26 ?_
        refine x_geti 30 rfl fX4_81 dX4_sellOff_27 (shl0 h) (shs0 h) (by decide) ?_
        refine x_iload_n 31 rfl dX4_sellOff_30 2 rfl rfl ?_
        refine y_isub 32 rfl dX4_sellOff_31 (by omega) ?_
        refine x_puti 35 rfl fX4_81 dX4_sellOff_32 (shl0 h) (shs0 h) (by decide) ?_
        refine z_mem (M' := (z_up M a 8 (k 0 - x))) (by rw [e4]) ?_
        have hs1 : SR (z_up M a 8 (k 0 - x)) a (ku k 0 (k 0 - x)) := SR_oil hs _
        refine x_aload_n 36 rfl dX4_sellOff_35 1 rfl rfl ?_
        refine x_ldc (x := 999999) 38 rfl kX4_106 (by decide) dX4_sellOff_36 ?_
        refine x_aload_n 39 rfl dX4_sellOff_38 1 rfl rfl ?_
        refine x_geti 42 rfl fX4_107 dX4_sellOff_39 (shl0 h) (shs0 h) (by decide) ?_
        rw [show (z_up M a 8 (k 0 - x)) a 9 = k 1 by rw [z_up_nk (by decide)]; exact e5]
        refine x_iload_n 43 rfl dX4_sellOff_42 2 rfl rfl ?_
        refine x_aload_n 44 rfl dX4_sellOff_43 1 rfl rfl ?_
        refine x_aload_n 45 rfl dX4_sellOff_44 1 rfl rfl ?_
        refine x_getr 48 rfl fX4_57 dX4_sellOff_45 (shl0 h) (shs0 h) (by decide) (a + 7) rfl ?_
        refine x_iconst 49 rfl dX4_sellOff_48 (by decide) ?_
        refine x_ialk 50 rfl dX4_sellOff_49 (shl7 h) (shs7 h) 0 rfl (by decide) ?_
        rw [show (z_up M a 8 (k 0 - x)) (a + 7) 0 = k 2 by rw [z_up_ne (by omega)]; exact t0]
        refine x_cVi 53 rfl lX4_110 dX4_sellOff_50 (shl0 h) (shs0 h) (c_X7_priceIn (M := (z_up M a 8 (k 0 - x))) h hs1 (KI_ku0 hi (by omega)) (by omega)) rfl rfl (Nat.le_of_ble_eq_true rfl) (fun r6 M6 hr6 => ?_)
        obtain ⟨hr7, hM6⟩ := hr6
        rw [zprice_ku] at hr7
        subst hr7
        rw [hM6]
        refine y_imul 54 rfl dX4_sellOff_53 (by omega) ?_
        refine y_iadd 55 rfl dX4_sellOff_54 (by omega) ?_
        refine x_cSi 58 rfl lX4_84 dX4_sellOff_55 c_min rfl rfl (Nat.le_of_ble_eq_true rfl) (fun r M1 hr1 => ?_)
        obtain ⟨rfl, hM1⟩ := hr1
        rw [hM1]
        refine x_puti 61 rfl fX4_107 dX4_sellOff_58 (shl0 h) (shs0 h) (by decide) ?_
        refine x_aload_n 62 rfl dX4_sellOff_61 1 rfl rfl ?_
        refine x_geti 65 rfl fX4_107 dX4_sellOff_62 (shl0 h) (shs0 h) (by decide) ?_
        refine x_reti dX4_sellOff_65 rfl ?_
        exact Or.inr (Or.inr ⟨hx, by omega, by rw [z_up_eq]; rfl, SR_purse hs1 _, fun i h1 => by rw [z_up_ne h1, z_up_ne h1]⟩)
      · refine x_bipush 24 rfl dX4_sellOff_22 (by decide) ?_
        refine x_reti dX4_sellOff_24 rfl ?_
        exact Or.inr (Or.inl ⟨hx, by omega, rfl, rfl⟩)
    · refine x_iconst 13 rfl dX4_sellOff_12 (by decide) ?_
      refine x_reti dX4_sellOff_13 rfl ?_
      exact Or.inl ⟨by omega, rfl, rfl⟩

set_option maxRecDepth 100000 in
set_option maxHeartbeats 4000000 in
theorem c_X4_payOut {d sz : Nat} {S : zSh} {M : zMem} {a : Nat} (h : SH S sz a) (had : a + 11 ≤ 40 ∨ 45 ≤ a) {k : Nat → Int} (hs : SR M a k) (hi : KI k) {x y : Int} : zX (d + 1) 0 0 mX4_payOut [zn 43, zn a, zi x, zi y] sz S M (zI sz S (fun r M' => (¬ (1 ≤ y ∧ y ≤ 9999) ∧ r = -1 ∧ M' = M) ∨ ((1 ≤ y ∧ y ≤ 9999) ∧ ¬ (0 ≤ x ∧ x < k 75) ∧ r = -2 ∧ M' = M) ∨ ((1 ≤ y ∧ y ≤ 9999) ∧ (0 ≤ x ∧ x < k 75) ∧ (k (11 + x.toNat) = 0 ∨ k 1 < y) ∧ r = -3 ∧ M' = M) ∨ ((1 ≤ y ∧ y ≤ 9999) ∧ (0 ≤ x ∧ x < k 75) ∧ k (11 + x.toNat) = 1 ∧ y ≤ k 1 ∧ r = kAdv k x.toNat y (3 + x.toNat) ∧ SR M' a (kAdv k x.toNat y) ∧ ∀ i, i ≠ a → i ≠ a + 2 → M' i = M i))) := by
  have i1 := hi.1
  have e5 := hs.1.2.2.2.2.1
  refine zX_of pl_RX4 [some (zn 43), some (zn a), some (zi x), some (zi y)] 0 rfl rfl ?_
  refine x_iload_n 1 rfl dX4_payOut_0 3 rfl rfl ?_
  refine x_iconst 2 rfl dX4_payOut_1 (by decide) ?_
  refine x_icmp_lt 5 12 rfl dX4_payOut_2 (by decide) (fun c2 => ?_) (fun c2 => ?_)
  · refine x_iconst 13 rfl dX4_payOut_12 (by decide) ?_
    refine x_reti dX4_payOut_13 rfl ?_
    exact Or.inl ⟨by omega, rfl, rfl⟩
  · refine x_iload_n 6 rfl dX4_payOut_5 3 rfl rfl ?_
    refine x_sipush 9 rfl dX4_payOut_6 (by decide) ?_
    refine x_icmp_le 12 14 rfl dX4_payOut_9 (by decide) (fun c9 => ?_) (fun c9 => ?_)
    · have hy : 1 ≤ y ∧ y ≤ 9999 := by omega
      refine x_aload_n 15 rfl dX4_payOut_14 1 rfl rfl ?_
      refine x_iload_n 16 rfl dX4_payOut_15 2 rfl rfl ?_
      refine x_cVi 19 rfl lX4_113 dX4_payOut_16 (shl0 h) (shs0 h) (c_X7_hasHand h hs hi) rfl rfl (Nat.le_of_ble_eq_true rfl) (fun r1 M1 hr1 => ?_)
      obtain ⟨hr2, hM1⟩ := hr1
      rw [hM1]
      refine x_if_ne 22 25 rfl dX4_payOut_19 (by decide) (fun c19 => ?_) (fun c19 => ?_)
      · have hx : 0 ≤ x ∧ x < k 75 := Decidable.byContradiction (fun h9 => by rw [if_neg h9] at hr2; omega)
        have i2 := hi.2.1 x.toNat (by omega)
        have q2 := hs.2.2.2.1 x.toNat (by omega)
        refine x_aload_n 26 rfl dX4_payOut_25 1 rfl rfl ?_
        refine x_iload_n 27 rfl dX4_payOut_26 2 rfl rfl ?_
        refine x_cVi 30 rfl lX4_75 dX4_payOut_27 (shl0 h) (shs0 h) (c_X7_isAboard h hs hi (by omega)) rfl rfl (Nat.le_of_ble_eq_true rfl) (fun r2 M2 hr2a => ?_)
        obtain ⟨hr3, hM2⟩ := hr2a
        rw [hM2]
        refine x_if_eq 33 41 rfl dX4_payOut_30 (by decide) (fun c30 => ?_) (fun c30 => ?_)
        · refine x_bipush 43 rfl dX4_payOut_41 (by decide) ?_
          refine x_reti dX4_payOut_43 rfl ?_
          exact Or.inr (Or.inr (Or.inl ⟨hy, hx, Or.inl (by omega), rfl, rfl⟩))
        · refine x_iload_n 34 rfl dX4_payOut_33 3 rfl rfl ?_
          refine x_aload_n 35 rfl dX4_payOut_34 1 rfl rfl ?_
          refine x_geti 38 rfl fX4_107 dX4_payOut_35 (shl0 h) (shs0 h) (by decide) ?_
          refine x_icmp_le 41 44 rfl dX4_payOut_38 (by decide) (fun c38 => ?_) (fun c38 => ?_)
          · refine x_aload_n 45 rfl dX4_payOut_44 1 rfl rfl ?_
            refine x_dupr 46 rfl dX4_payOut_45 ?_
            refine x_geti 49 rfl fX4_107 dX4_payOut_46 (shl0 h) (shs0 h) (by decide) ?_
            refine x_iload_n 50 rfl dX4_payOut_49 3 rfl rfl ?_
            refine y_isub 51 rfl dX4_payOut_50 (by omega) ?_
            refine x_puti 54 rfl fX4_107 dX4_payOut_51 (shl0 h) (shs0 h) (by decide) ?_
            refine z_mem (M' := (z_up M a 9 (k 1 - y))) (by rw [e5]) ?_
            have hs1 : SR (z_up M a 9 (k 1 - y)) a (ku k 1 (k 1 - y)) := SR_purse hs _
            refine x_aload_n 55 rfl dX4_payOut_54 1 rfl rfl ?_
            refine x_getr 58 rfl fX4_90 dX4_payOut_55 (shl0 h) (shs0 h) (by decide) (a + 2) rfl ?_
            refine x_iload_n 59 rfl dX4_payOut_58 2 rfl rfl ?_
            refine x_sipush 62 rfl dX4_payOut_59 (by decide) ?_
            refine x_aload_n 63 rfl dX4_payOut_62 1 rfl rfl ?_
            refine x_getr 66 rfl fX4_90 dX4_payOut_63 (shl0 h) (shs0 h) (by decide) (a + 2) rfl ?_
            refine x_iload_n 67 rfl dX4_payOut_66 2 rfl rfl ?_
            refine x_iald 68 rfl dX4_payOut_67 (shl2 h) (shs2 h) (by omega) (by omega) ?_
            rw [show (z_up M a 9 (k 1 - y)) (a + 2) x.toNat = k (3 + x.toNat) by rw [z_up_ne (by omega)]; exact q2]
            refine x_iload_n 69 rfl dX4_payOut_68 3 rfl rfl ?_
            refine y_iadd 70 rfl dX4_payOut_69 (by omega) ?_
            refine x_cSi 73 rfl lX4_84 dX4_payOut_70 c_min rfl rfl (Nat.le_of_ble_eq_true rfl) (fun r M1 hr1 => ?_)
            obtain ⟨rfl, hM1⟩ := hr1
            rw [hM1]
            refine x_iast 74 rfl dX4_payOut_73 (shl2 h) (shs2 h) (by omega) (by omega) ?_
            refine x_aload_n 75 rfl dX4_payOut_74 1 rfl rfl ?_
            refine x_getr 78 rfl fX4_90 dX4_payOut_75 (shl0 h) (shs0 h) (by decide) (a + 2) rfl ?_
            refine x_iload_n 79 rfl dX4_payOut_78 2 rfl rfl ?_
            refine x_iald 80 rfl dX4_payOut_79 (shl2 h) (shs2 h) (by omega) (by omega) ?_
            refine x_reti dX4_payOut_80 rfl ?_
            exact Or.inr (Or.inr (Or.inr ⟨hy, hx, by omega, by omega, by rw [z_up_eq]; exact ku_eq.symm, SR_debt hs1 (by omega) _, fun i h1 h2 => by rw [z_up_ne h2, z_up_ne h1]⟩))
          · refine x_bipush 43 rfl dX4_payOut_41 (by decide) ?_
            refine x_reti dX4_payOut_43 rfl ?_
            exact Or.inr (Or.inr (Or.inl ⟨hy, hx, Or.inr (by omega), rfl, rfl⟩))
      · refine x_bipush 24 rfl dX4_payOut_22 (by decide) ?_
        refine x_reti dX4_payOut_24 rfl ?_
        refine Or.inr (Or.inl ⟨hy, fun h9 => ?_, rfl, rfl⟩)
        rw [if_pos h9] at hr2
        omega
    · refine x_iconst 13 rfl dX4_payOut_12 (by decide) ?_
      refine x_reti dX4_payOut_13 rfl ?_
      exact Or.inl ⟨by omega, rfl, rfl⟩

set_option maxRecDepth 100000 in
set_option maxHeartbeats 4000000 in
theorem c_X4_putAshore {d sz : Nat} {S : zSh} {M : zMem} {a : Nat} (h : SH S sz a) (had : a + 11 ≤ 40 ∨ 45 ≤ a) {k : Nat → Int} (hs : SR M a k) (hi : KI k) {x : Int} : zX (d + 2) 0 0 mX4_putAshore [zn 43, zn a, zi x] sz S M (zI sz S (fun r M' => (¬ (0 ≤ x ∧ x < k 75) ∧ r = -2 ∧ M' = M) ∨ ((0 ≤ x ∧ x < k 75) ∧ k (11 + x.toNat) = 0 ∧ r = -3 ∧ M' = M) ∨ ((0 ≤ x ∧ x < k 75) ∧ k (11 + x.toNat) = 1 ∧ r = zcrew (kLeave k x.toNat) ∧ SR M' a (kLeave k x.toNat) ∧ ∀ i, i ≠ a → M' i = M i))) := by
  have i1 := hi.1
  have e2 := hs.1.2.1
  refine zX_of pl_RX4 [some (zn 43), some (zn a), some (zi x)] 0 rfl rfl ?_
  refine x_aload_n 1 rfl dX4_putAshore_0 1 rfl rfl ?_
  refine x_iload_n 2 rfl dX4_putAshore_1 2 rfl rfl ?_
  refine x_cVi 5 rfl lX4_113 dX4_putAshore_2 (shl0 h) (shs0 h) (c_X7_hasHand h hs hi) rfl rfl (Nat.le_of_ble_eq_true rfl) (fun r M1 hr1 => ?_)
  obtain ⟨hr, hM1⟩ := hr1
  rw [hM1]
  refine x_if_ne 8 11 rfl dX4_putAshore_5 (by decide) (fun c5 => ?_) (fun c5 => ?_)
  · have hx : 0 ≤ x ∧ x < k 75 := Decidable.byContradiction (fun h9 => by rw [if_neg h9] at hr; omega)
    have i2 := hi.2.1 x.toNat (by omega)
    refine x_aload_n 12 rfl dX4_putAshore_11 1 rfl rfl ?_
    refine x_iload_n 13 rfl dX4_putAshore_12 2 rfl rfl ?_
    refine x_cVi 16 rfl lX4_75 dX4_putAshore_13 (shl0 h) (shs0 h) (c_X7_isAboard h hs hi (by omega)) rfl rfl (Nat.le_of_ble_eq_true rfl) (fun r2 M2 hr2 => ?_)
    obtain ⟨hr3, hM2⟩ := hr2
    rw [hM2]
    refine x_if_ne 19 22 rfl dX4_putAshore_16 (by decide) (fun c16 => ?_) (fun c16 => ?_)
    · refine x_aload_n 23 rfl dX4_putAshore_22 1 rfl rfl ?_
      refine x_dupr 24 rfl dX4_putAshore_23 ?_
      refine x_geti 27 rfl fX4_53 dX4_putAshore_24 (shl0 h) (shs0 h) (by decide) ?_
      refine x_iconst 28 rfl dX4_putAshore_27 (by decide) ?_
      refine x_iload_n 29 rfl dX4_putAshore_28 2 rfl rfl ?_
      refine x_ishl 30 rfl dX4_putAshore_29 ?_
      refine x_iconst 31 rfl dX4_putAshore_30 (by decide) ?_
      refine x_ixor 32 rfl dX4_putAshore_31 ?_
      refine x_iand 33 rfl dX4_putAshore_32 ?_
      refine x_puti 36 rfl fX4_53 dX4_putAshore_33 (shl0 h) (shs0 h) (by decide) ?_
      have hs1 : SR (z_up M a 4 (zand (M a 4) (zxor (zshl 1 x) (-1)))) a (kLeave k x.toNat) := SR_mask hs (fun i h9 => by unfold kLeave; exact ku_ne (by omega)) (by rw [e2, ← kOff_one (by omega), ← zmask_off hi zone01, ← zmk_one (by omega), Int.toNat_of_nonneg hx.1])
      refine x_aload_n 37 rfl dX4_putAshore_36 1 rfl rfl ?_
      refine x_cVi 40 rfl lX4_63 dX4_putAshore_37 (shl0 h) (shs0 h) (c_X7_crewSize h hs1 (kLeave_KI hi (by omega))) rfl rfl (Nat.le_of_ble_eq_true rfl) (fun r6 M6 hr6 => ?_)
      obtain ⟨hr7, hM6⟩ := hr6
      refine x_reti dX4_putAshore_40 rfl ?_
      exact Or.inr (Or.inr ⟨hx, by omega, hr7, by rw [hM6]; exact hs1, fun i h1 => by rw [hM6, z_up_ne h1]⟩)
    · refine x_bipush 21 rfl dX4_putAshore_19 (by decide) ?_
      refine x_reti dX4_putAshore_21 rfl ?_
      exact Or.inr (Or.inl ⟨hx, by omega, rfl, rfl⟩)
  · refine x_bipush 10 rfl dX4_putAshore_8 (by decide) ?_
    refine x_reti dX4_putAshore_10 rfl ?_
    refine Or.inl ⟨fun h9 => ?_, rfl, rfl⟩
    rw [if_pos h9] at hr
    omega
