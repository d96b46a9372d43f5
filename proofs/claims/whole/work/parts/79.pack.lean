/-! law, on the class's side: a text is packed -/
theorem txS_0 {S : zSh} {a nh nc : Nat} : txS S a nh nc a = (9, 4, txF a) := by
  unfold txS
  rw [z_sup_ne (by omega), z_sup_ne (by omega), z_sup_eq]
theorem txS_1 {S : zSh} {a nh nc : Nat} : txS S a nh nc (a + 1) = (20, nh, zN) := by
  unfold txS
  rw [z_sup_ne (by omega), z_sup_eq]
theorem txS_2 {S : zSh} {a nh nc : Nat} : txS S a nh nc (a + 2) = (20, nc, zN) := by
  unfold txS
  rw [z_sup_eq]
theorem SR_congr {M : zMem} {a : Nat} {k k' : Nat → Int} (h : SR M a k) (e : ∀ i, i < 80 → k' i = k i) : SR M a k' := by
  have em : zmask k' = zmask k := by unfold zmask; simp (disch := omega) only [e]
  obtain ⟨⟨s1, s2, s3, s4, s5, s6, s7, s8⟩, ⟨s9, s10, s11⟩, q1, q2, q3, q4, q5, q6, q7, q8⟩ := h
  refine ⟨⟨?_, ?_, ?_, ?_, ?_, ?_, ?_, ?_⟩, ⟨?_, ?_, ?_⟩, ?_, ?_, ?_, ?_, ?_, ?_, ?_, ?_⟩
  · rw [e _ (by omega)]; exact s1
  · rw [em]; exact s2
  · rw [e _ (by omega)]; exact s3
  · rw [e _ (by omega)]; exact s4
  · rw [e _ (by omega)]; exact s5
  · rw [e _ (by omega)]; exact s6
  · rw [e _ (by omega)]; exact s7
  · rw [e _ (by omega)]; exact s8
  · rw [e _ (by omega)]; exact s9
  · rw [e _ (by omega)]; exact s10
  · rw [e _ (by omega)]; exact s11
  · intro j hj; rw [e _ (by omega)]; exact q1 j hj
  · intro j hj; rw [e _ (by omega)]; exact q2 j hj
  · intro j hj; rw [e _ (by omega)]; exact q3 j hj
  · intro j hj; rw [e _ (by omega)]; exact q4 j hj
  · intro j hj; rw [e _ (by omega)]; exact q5 j hj
  · intro j hj; rw [e _ (by omega)]; exact q6 j hj
  · intro j hj; rw [e _ (by omega)]; exact q7 j hj
  · intro j hj; rw [e _ (by omega)]; exact q8 j hj
theorem SR_laws {M : zMem} {a : Nat} {k : Nat → Int} (h : SR M a k) (v : Int) : SR (z_up M (a) 15 v) a (ku k 78 v) := by
  obtain ⟨⟨s1, s2, s3, s4, s5, s6, s7, s8⟩, ⟨s9, s10, s11⟩, q1, q2, q3, q4, q5, q6, q7, q8⟩ := h
  have em : zmask (ku k 78 v) = zmask k := by simp [zmask, ku]
  refine ⟨⟨?_, ?_, ?_, ?_, ?_, ?_, ?_, ?_⟩, ⟨?_, ?_, ?_⟩, ?_, ?_, ?_, ?_, ?_, ?_, ?_, ?_⟩
  · simp (disch := omega) only [z_up_ne, z_up_nk, ku, if_neg]; exact s1
  · rw [em]; simp (disch := omega) only [z_up_ne, z_up_nk]; exact s2
  · simp (disch := omega) only [z_up_ne, z_up_nk, ku, if_neg]; exact s3
  · simp (disch := omega) only [z_up_ne, z_up_nk, ku, if_neg]; exact s4
  · simp (disch := omega) only [z_up_ne, z_up_nk, ku, if_neg]; exact s5
  · simp (disch := omega) only [z_up_ne, z_up_nk, ku, if_neg]; exact s6
  · simp [z_up, ku]
  · simp (disch := omega) only [z_up_ne, z_up_nk, ku, if_neg]; exact s8
  · simp (disch := omega) only [z_up_ne, z_up_nk, ku, if_neg]; exact s9
  · simp (disch := omega) only [z_up_ne, z_up_nk, ku, if_neg]; exact s10
  · simp (disch := omega) only [z_up_ne, z_up_nk, ku, if_neg]; exact s11
  · intro j hj; simp (disch := omega) only [z_up_ne, ku, if_neg]; exact q1 j hj
  · intro j hj; simp (disch := omega) only [z_up_ne, ku, if_neg]; exact q2 j hj
  · intro j hj; simp (disch := omega) only [z_up_ne, ku, if_neg]; exact q3 j hj
  · intro j hj; simp (disch := omega) only [z_up_ne, ku, if_neg]; exact q4 j hj
  · intro j hj; simp (disch := omega) only [z_up_ne, ku, if_neg]; exact q5 j hj
  · intro j hj; simp (disch := omega) only [z_up_ne, ku, if_neg]; exact q6 j hj
  · intro j hj; simp (disch := omega) only [z_up_ne, ku, if_neg]; exact q7 j hj
  · intro j hj; simp (disch := omega) only [z_up_ne, ku, if_neg]; exact q8 j hj

set_option maxRecDepth 100000 in
set_option maxHeartbeats 4000000 in
theorem c_X9_packed {d sz : Nat} {S : zSh} {M : zMem} (hL : LY S sz) {m n : Nat} (h0 : M 36 0 = (m : Int)) (h1 : M 36 1 = (n : Int)) (hm : m ≤ 12) (hn : n ≤ 400) : zX (d + 2) 3 464 mX9_packed [zn 36] sz S M (fun v sz' S' M' => v = some (zr (sz : Int)) ∧ sz' = sz + 3 ∧ S' = txS (z_sup S sz (9, 4, fun _ => -1)) sz (5 * m) n ∧ (∀ i, i < sz → M' i = M i) ∧ M' sz 0 = (m : Int) ∧ M' sz 1 = (n : Int) ∧ (∀ j, j < 5 * m → M' (sz + 1) j = M 37 j) ∧ (∀ j, j < n → M' (sz + 2) j = M 38 j)) := by
  have hsz := hL.1
  refine zX_of pl_RX9 [some (zn 36), none] 1 rfl rfl ?_
  refine x_new (N := 4) (sz := sz) 3 rfl nX9_9 dX9_packed_0 ?_
  refine x_dupr 4 rfl dX9_packed_3 ?_
  refine x_aload_n 5 rfl dX9_packed_4 0 rfl rfl ?_
  refine x_geti 8 rfl fX9_18 dX9_packed_5 (by omega) (z_sup_at (by omega) (lys36 hL)) (by decide) ?_
  try simp (disch := omega) only [z_up_ne, z_up_nk, z_up_eq, z_mup_ne, z_mup_eq, Int.reduceToNat, Int.toNat_natCast]
  rw [h0]
  refine x_aload_n 9 rfl dX9_packed_8 0 rfl rfl ?_
  refine x_geti 12 rfl fX9_22 dX9_packed_9 (by omega) (z_sup_at (by omega) (lys36 hL)) (by decide) ?_
  try simp (disch := omega) only [z_up_ne, z_up_nk, z_up_eq, z_mup_ne, z_mup_eq, Int.reduceToNat, Int.toNat_natCast]
  rw [h1]
  refine x_callI  15 rfl lX9_25 dX9_packed_12 (c_X9_init (sz := 0) (a := sz) z_sup_eq hm hn) rfl rfl (Nat.le_of_ble_eq_true rfl) ?_
  rintro v sz1 S1 M1 ⟨rfl, rfl, rfl, rfl⟩
  refine y_astore_n 16 rfl dX9_packed_15 rfl rfl (ls' := [_, _]) rfl (by decide) ?_
  refine x_aload_n 17 rfl dX9_packed_16 1 rfl rfl ?_
  refine x_aload_n 18 rfl dX9_packed_17 0 rfl rfl ?_
  refine x_geti 21 rfl fX9_18 dX9_packed_18 (by omega) (txS_at (by omega) (z_sup_at (by omega) (lys36 hL))) (by decide) ?_
  try simp (disch := omega) only [z_up_ne, z_up_nk, z_up_eq, z_mup_ne, z_mup_eq, Int.reduceToNat, Int.toNat_natCast]
  rw [h0]
  refine x_puti 24 rfl fX9_18 dX9_packed_21 (by omega) txS_0 (by decide) ?_
  refine x_aload_n 25 rfl dX9_packed_24 1 rfl rfl ?_
  refine x_aload_n 26 rfl dX9_packed_25 0 rfl rfl ?_
  refine x_geti 29 rfl fX9_22 dX9_packed_26 (by omega) (txS_at (by omega) (z_sup_at (by omega) (lys36 hL))) (by decide) ?_
  try simp (disch := omega) only [z_up_ne, z_up_nk, z_up_eq, z_mup_ne, z_mup_eq, Int.reduceToNat, Int.toNat_natCast]
  rw [h1]
  refine x_puti 32 rfl fX9_22 dX9_packed_29 (by omega) txS_0 (by decide) ?_
  refine x_aload_n 33 rfl dX9_packed_32 0 rfl rfl ?_
  refine x_getr 36 rfl fX9_11 dX9_packed_33 (by omega) (txS_at (by omega) (z_sup_at (by omega) (lys36 hL))) (by decide) (37) rfl ?_
  refine x_iconst 37 rfl dX9_packed_36 (by decide) ?_
  refine x_aload_n 38 rfl dX9_packed_37 1 rfl rfl ?_
  refine x_getr 41 rfl fX9_11 dX9_packed_38 (by omega) txS_0 (by decide) (sz + 1) rfl ?_
  refine x_iconst 42 rfl dX9_packed_41 (by decide) ?_
  refine x_aload_n 43 rfl dX9_packed_42 0 rfl rfl ?_
  refine x_geti 46 rfl fX9_18 dX9_packed_43 (by omega) (txS_at (by omega) (z_sup_at (by omega) (lys36 hL))) (by decide) ?_
  try simp (disch := omega) only [z_up_ne, z_up_nk, z_up_eq, z_mup_ne, z_mup_eq, Int.reduceToNat, Int.toNat_natCast]
  rw [h0]
  refine x_iconst 47 rfl dX9_packed_46 (by decide) ?_
  refine y_imul 48 rfl dX9_packed_47 (by omega) ?_
  refine x_copy 51 rfl lX9_28 w_nat w_natS w_natI dX9_packed_48 (Nat.le_of_ble_eq_true rfl) (by omega) (txS_at (by omega) (z_sup_at (by omega) (lys37 hL))) (by omega) txS_1 (by omega) (by omega) (by omega) (by omega) (by omega) ?_
  refine x_aload_n 52 rfl dX9_packed_51 0 rfl rfl ?_
  refine x_getr 55 rfl fX9_15 dX9_packed_52 (by omega) (txS_at (by omega) (z_sup_at (by omega) (lys36 hL))) (by decide) (38) rfl ?_
  refine x_iconst 56 rfl dX9_packed_55 (by decide) ?_
  refine x_aload_n 57 rfl dX9_packed_56 1 rfl rfl ?_
  refine x_getr 60 rfl fX9_15 dX9_packed_57 (by omega) txS_0 (by decide) (sz + 2) rfl ?_
  refine x_iconst 61 rfl dX9_packed_60 (by decide) ?_
  refine x_aload_n 62 rfl dX9_packed_61 0 rfl rfl ?_
  refine x_geti 65 rfl fX9_22 dX9_packed_62 (by omega) (txS_at (by omega) (z_sup_at (by omega) (lys36 hL))) (by decide) ?_
  try simp (disch := omega) only [z_up_ne, z_up_nk, z_up_eq, z_mup_ne, z_mup_eq, Int.reduceToNat, Int.toNat_natCast]
  rw [h1]
  refine x_copy 68 rfl lX9_28 w_nat w_natS w_natI dX9_packed_65 (Nat.le_of_ble_eq_true rfl) (by omega) (txS_at (by omega) (z_sup_at (by omega) (lys38 hL))) (by omega) txS_2 (by omega) (by omega) (by omega) (by omega) (by omega) ?_
  refine x_aload_n 69 rfl dX9_packed_68 1 rfl rfl ?_
  refine x_aret dX9_packed_69 ⟨_, rfl⟩ ?_
  refine ⟨rfl, rfl, rfl, fun i hi => ?_, ?_, ?_, fun j hj => ?_, fun j hj => ?_⟩
  · simp (disch := omega) only [z_up_ne, z_mup_ne]
  · simp (disch := omega) only [z_up_ne, z_up_nk, z_up_eq, z_mup_ne]
  · simp (disch := omega) only [z_up_ne, z_up_nk, z_up_eq, z_mup_ne]
  · simp (disch := omega) only [z_up_ne, z_mup_ne, z_mup_eq, z_cpy]
    rw [if_pos (by omega)]
    congr 1
    omega
  · simp (disch := omega) only [z_up_ne, z_mup_ne, z_mup_eq, z_cpy]
    rw [if_pos (by omega)]
    congr 1
    omega

set_option maxRecDepth 100000 in
set_option maxHeartbeats 4000000 in
theorem c_X7_addLaw {d sz : Nat} {S : zSh} {M : zMem} {a : Nat} (h : SH S sz a) {k : Nat → Int} (hs : SR M a k) (hi : KI k) (h6 : k 78 < 6) {T nT : Nat} {fT : Nat → Int} (hT : T < sz) (hST : S T = (9, nT, fT)) : zX d 0 0 mX7_addLaw [zn a, zn T] sz S M (zI sz S (fun r M' => r = k 78 ∧ M' = z_up (z_up M (a + 10) (k 78).toNat (T : Int)) a 15 (k 78 + 1))) := by
  have i1 := hi.1
  have e15 := hs.1.2.2.2.2.2.2.1
  refine zX_of pl_RX7 [some (zn a), some (zn T), none] 1 rfl rfl ?_
  refine x_aload_n 1 rfl dX7_addLaw_0 0 rfl rfl ?_
  refine x_geti 4 rfl fX7_73 dX7_addLaw_1 (shl0 h) (shs0 h) (by decide) ?_
  rw [e15]
  refine y_istore_n 5 rfl dX7_addLaw_4 rfl rfl (ls' := [_, _, _]) rfl (by decide) ?_
  refine x_aload_n 6 rfl dX7_addLaw_5 0 rfl rfl ?_
  refine x_getr 9 rfl fX7_41 dX7_addLaw_6 (shl0 h) (shs0 h) (by decide) (a + 10) rfl ?_
  refine x_iload_n 10 rfl dX7_addLaw_9 2 rfl rfl ?_
  refine x_aload_n 11 rfl dX7_addLaw_10 1 rfl rfl ?_
  refine x_aast (Or.inr ⟨rfl, rfl⟩) 12 rfl dX7_addLaw_11 (shl10 h) (shs10 h) (by omega) (by omega) (Or.inr ⟨T, nT, fT, rfl, hT, hST⟩) ?_
  refine x_aload_n 13 rfl dX7_addLaw_12 0 rfl rfl ?_
  refine x_dupr 14 rfl dX7_addLaw_13 ?_
  refine x_geti 17 rfl fX7_73 dX7_addLaw_14 (shl0 h) (shs0 h) (by decide) ?_
  rw [z_up_ne (by omega), e15]
  refine x_iconst 18 rfl dX7_addLaw_17 (by decide) ?_
  refine y_iadd 19 rfl dX7_addLaw_18 (by omega) ?_
  refine x_puti 22 rfl fX7_73 dX7_addLaw_19 (shl0 h) (shs0 h) (by decide) ?_
  refine x_iload_n 23 rfl dX7_addLaw_22 2 rfl rfl ?_
  refine x_reti dX7_addLaw_23 rfl ?_
  exact ⟨rfl, rfl⟩
