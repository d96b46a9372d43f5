def slotK (M : zMem) (a s : Nat) (e : Nat → Int) : Prop := (∀ h, h < 8 → M (a + 2) (16 * s + h) = e (3 + h)) ∧ (∀ g, g < 4 → M (a + 2) (16 * s + 8 + g) = e (19 + g)) ∧ M (a + 2) (16 * s + 12) = zmask e ∧ M (a + 2) (16 * s + 13) = e 0 ∧ M (a + 2) (16 * s + 14) = e 1 ∧ M (a + 2) (16 * s + 15) = e 2
/-- what can be undone: n entries, the oldest first; an entry is what was kept, and at 23 the kind -/
def LR (M : zMem) (a : Nat) (l : Nat → Nat → Int) (n : Nat) : Prop := M a 3 = n ∧ (0 ≤ M a 2 ∧ M a 2 < 17) ∧ n ≤ 16 ∧ ∀ j, j < n → slotK M a (((M a 2).toNat + j) % 17) (l j) ∧ M (a + 1) (((M a 2).toNat + j) % 17) = l j 23
def lpush (l : Nat → Nat → Int) (n : Nat) (e : Nat → Int) (v : Int) : Nat → Nat → Int := fun j => if n < 16 then (if j = n then ku e 23 v else l j) else (if j = 15 then ku e 23 v else l (j + 1))
def kMoved (k e : Nat → Int) : Nat → Int := fun i => if i < 23 then e i else k i
theorem slotK_row {M M' : zMem} {a s : Nat} {e : Nat → Int} (h : slotK M a s e) (hr : ∀ i, 16 * s ≤ i → i < 16 * s + 16 → M' (a + 2) i = M (a + 2) i) : slotK M' a s e := by
  obtain ⟨h1, h2, h3, h4, h5, h6⟩ := h
  refine ⟨fun j hj => ?_, fun j hj => ?_, ?_, ?_, ?_, ?_⟩
  · rw [hr _ (by omega) (by omega)]; exact h1 j hj
  · rw [hr _ (by omega) (by omega)]; exact h2 j hj
  · rw [hr _ (by omega) (by omega)]; exact h3
  · rw [hr _ (by omega) (by omega)]; exact h4
  · rw [hr _ (by omega) (by omega)]; exact h5
  · rw [hr _ (by omega) (by omega)]; exact h6
theorem slotK_ku {M : zMem} {a s : Nat} {e : Nat → Int} {v : Int} (h : slotK M a s e) : slotK M a s (ku e 23 v) := by
  obtain ⟨h1, h2, h3, h4, h5, h6⟩ := h
  refine ⟨fun j hj => ?_, fun j hj => ?_, ?_, ?_, ?_, ?_⟩
  · rw [h1 j hj]; simp only [ku]; rw [if_neg (by omega)]
  · rw [h2 j hj]; simp only [ku]; rw [if_neg (by omega)]
  · rw [h3]; simp [zmask, ku]
  · rw [h4]; simp [ku]
  · rw [h5]; simp [ku]
  · rw [h6]; simp [ku]
theorem LR_frame {M M' : zMem} {a n : Nat} {l : Nat → Nat → Int} (h : LR M a l n) (hM : ∀ i, a ≤ i → i < a + 3 → M' i = M i) : LR M' a l n := by
  obtain ⟨h1, h2, h3, h4⟩ := h
  have e0 := hM a (by omega) (by omega)
  have e1 := hM (a + 1) (by omega) (by omega)
  have e2 := hM (a + 2) (by omega) (by omega)
  unfold LR
  rw [e0, e1]
  exact ⟨h1, h2, h3, fun j hj => ⟨slotK_row (h4 j hj).1 (fun i _ _ => by rw [e2]), (h4 j hj).2⟩⟩

set_option maxRecDepth 100000 in
set_option maxHeartbeats 4000000 in
theorem c_X2_clear {d sz : Nat} {S : zSh} {M : zMem} {a : Nat} (h : LG S sz a) : zX d 0 0 mX2_clear [zn a] sz S M (zU sz S (fun M' => M' = z_up M a 3 0)) := by
  refine zX_of pl_RX2 [some (zn a)] 0 rfl rfl ?_
  refine x_aload_n 1 rfl dX2_clear_0 0 rfl rfl ?_
  refine x_iconst 2 rfl dX2_clear_1 (by decide) ?_
  refine x_puti 5 rfl fX2_18 dX2_clear_2 (lgl0 h) (lgs0 h) (by decide) ?_
  refine x_retu dX2_clear_5 rfl ?_
  rfl

theorem LR_clear {M : zMem} {a n : Nat} {l l' : Nat → Nat → Int} (h : LR M a l n) : LR (z_up M a 3 0) a l' 0 := by
  obtain ⟨h1, h2, h3, h4⟩ := h
  refine ⟨by rw [z_up_eq]; rfl, by rw [z_up_nk (by decide)]; exact h2, by decide, fun j hj => by omega⟩

set_option maxRecDepth 100000 in
set_option maxHeartbeats 4000000 in
theorem c_X2_become {d sz : Nat} {S : zSh} {M : zMem} {a b : Nat} (h : LG S sz a) (hb : LG S sz b) (hd : a + 3 ≤ b ∨ b + 3 ≤ a) : zX (d + 1) 0 0 mX2_become [zn a, zn b] sz S M (zU sz S (fun M' => (∀ i, ¬ (a ≤ i ∧ i < a + 3) → M' i = M i) ∧ ∀ l n, LR M b l n → LR M' a l n)) := by
  refine zX_of pl_RX2 [some (zn a), some (zn b)] 0 rfl rfl ?_
  refine x_aload_n 1 rfl dX2_become_0 1 rfl rfl ?_
  refine x_getr 4 rfl fX2_11 dX2_become_1 (lgl0 hb) (lgs0 hb) (by decide) (b + 1) rfl ?_
  refine x_iconst 5 rfl dX2_become_4 (by decide) ?_
  refine x_aload_n 6 rfl dX2_become_5 0 rfl rfl ?_
  refine x_getr 9 rfl fX2_11 dX2_become_6 (lgl0 h) (lgs0 h) (by decide) (a + 1) rfl ?_
  refine x_iconst 10 rfl dX2_become_9 (by decide) ?_
  refine x_bipush 12 rfl dX2_become_10 (by decide) ?_
  refine x_copy 15 rfl lX2_22 w_nat w_natS w_natI dX2_become_12 (Nat.le_of_ble_eq_true rfl) (lgl1 hb) (lgs1 hb) (lgl1 h) (lgs1 h) (by omega) (by omega) (by omega) (by omega) (by omega) ?_
  refine x_aload_n 16 rfl dX2_become_15 1 rfl rfl ?_
  refine x_getr 19 rfl fX2_15 dX2_become_16 (lgl0 hb) (lgs0 hb) (by decide) (b + 2) rfl ?_
  refine x_iconst 20 rfl dX2_become_19 (by decide) ?_
  refine x_aload_n 21 rfl dX2_become_20 0 rfl rfl ?_
  refine x_getr 24 rfl fX2_15 dX2_become_21 (lgl0 h) (lgs0 h) (by decide) (a + 2) rfl ?_
  refine x_iconst 25 rfl dX2_become_24 (by decide) ?_
  refine x_sipush 28 rfl dX2_become_25 (by decide) ?_
  refine x_copy 31 rfl lX2_22 w_nat w_natS w_natI dX2_become_28 (Nat.le_of_ble_eq_true rfl) (lgl2 hb) (lgs2 hb) (lgl2 h) (lgs2 h) (by omega) (by omega) (by omega) (by omega) (by omega) ?_
  refine x_aload_n 32 rfl dX2_become_31 0 rfl rfl ?_
  refine x_aload_n 33 rfl dX2_become_32 1 rfl rfl ?_
  refine x_geti 36 rfl fX2_28 dX2_become_33 (lgl0 hb) (lgs0 hb) (by decide) ?_
  try simp (disch := omega) only [z_up_ne, z_up_nk, z_up_eq, z_mup_ne, z_mup_eq, Int.reduceToNat]
  refine x_puti 39 rfl fX2_28 dX2_become_36 (lgl0 h) (lgs0 h) (by decide) ?_
  refine x_aload_n 40 rfl dX2_become_39 0 rfl rfl ?_
  refine x_aload_n 41 rfl dX2_become_40 1 rfl rfl ?_
  refine x_geti 44 rfl fX2_18 dX2_become_41 (lgl0 hb) (lgs0 hb) (by decide) ?_
  try simp (disch := omega) only [z_up_ne, z_up_nk, z_up_eq, z_mup_ne, z_mup_eq, Int.reduceToNat]
  refine x_puti 47 rfl fX2_18 dX2_become_44 (lgl0 h) (lgs0 h) (by decide) ?_
  refine x_retu dX2_become_47 rfl ?_
  refine ⟨fun i hi => by simp (disch := omega) only [z_up_ne, z_up_nk, z_up_eq, z_mup_ne, z_mup_eq, Int.reduceToNat], fun l n hl => ?_⟩
  obtain ⟨h1, h2, h3, h4⟩ := hl
  have e2 : ∀ N : zMem, ∀ x y u v, (z_up (z_up (z_mup (z_mup N (a + 1) u) (a + 2) v) a 2 x) a 3 y) a 2 = x := fun N x y u v => by simp (disch := omega) only [z_up_ne, z_up_nk, z_up_eq, z_mup_ne, z_mup_eq, Int.reduceToNat]
  refine ⟨?_, ?_, h3, fun j hj => ?_⟩
  · simp (disch := omega) only [z_up_ne, z_up_nk, z_up_eq, z_mup_ne, z_mup_eq, Int.reduceToNat]; exact h1
  · simp (disch := omega) only [z_up_ne, z_up_nk, z_up_eq, z_mup_ne, z_mup_eq, Int.reduceToNat]; exact h2
  · rw [e2]
    refine ⟨?_, ?_⟩
    · obtain ⟨g1, g2, g3, g4, g5, g6⟩ := (h4 j hj).1
      have hlt : ((M b 2).toNat + j) % 17 < 17 := Nat.mod_lt _ (by decide)
      generalize ((M b 2).toNat + j) % 17 = s at g1 g2 g3 g4 g5 g6 hlt
      refine ⟨fun i hi => ?_, fun i hi => ?_, ?_, ?_, ?_, ?_⟩ <;> simp (disch := omega) only [z_up_ne, z_up_nk, z_up_eq, z_mup_ne, z_mup_eq, Int.reduceToNat] <;> rw [z_cpy_all (by omega)]
      · exact g1 i hi
      · exact g2 i hi
      · exact g3
      · exact g4
      · exact g5
      · exact g6
    · simp (disch := omega) only [z_up_ne, z_up_nk, z_up_eq, z_mup_ne, z_mup_eq, Int.reduceToNat]
      rw [z_cpy_all (Nat.mod_lt _ (by decide))]
      exact (h4 j hj).2

set_option maxRecDepth 100000 in
set_option maxHeartbeats 4000000 in
theorem c_X2_note {d sz : Nat} {S : zSh} {M : zMem} {a b n : Nat} {k : Nat → Int} {l : Nat → Nat → Int} (h : LG S sz a) (hb : SH S sz b) (hd : a + 3 ≤ b ∨ b + 11 ≤ a) (hl : LR M a l n) (hs : SR M b k)  : zX (d + 1) 0 0 mX2_note [zn a, zn b] sz S M (zU sz S (fun M' => (∀ i, i ≠ a + 2 → M' i = M i) ∧ LR M' a l n ∧ slotK M' a (((M a 2).toNat + n) % 17) k)) := by
  obtain ⟨l1, l2, l3, l4⟩ := id hl
  obtain ⟨s, hs1, hs2, hs3⟩ : ∃ s : Nat, (M a 2 + M a 3) % 17 = (s : Int) ∧ s = ((M a 2).toNat + n) % 17 ∧ s < 17 := ⟨((M a 2).toNat + n) % 17, by omega, rfl, Nat.mod_lt _ (by decide)⟩
  refine zX_of pl_RX2 [some (zn a), some (zn b), none, none] 2 rfl rfl ?_
  refine x_aload_n 1 rfl dX2_note_0 0 rfl rfl ?_
  refine x_geti 4 rfl fX2_28 dX2_note_1 (lgl0 h) (lgs0 h) (by decide) ?_
  refine x_aload_n 5 rfl dX2_note_4 0 rfl rfl ?_
  refine x_geti 8 rfl fX2_18 dX2_note_5 (lgl0 h) (lgs0 h) (by decide) ?_
  refine y_iadd 9 rfl dX2_note_8 (by omega) ?_
  refine x_bipush 11 rfl dX2_note_9 (by decide) ?_
  refine x_irem 12 rfl dX2_note_11 (by omega) ?_
  rw [z_tmodn (by omega), hs1]
  refine x_bipush 14 rfl dX2_note_12 (by decide) ?_
  refine y_imul 15 rfl dX2_note_14 (by omega) ?_
  refine z_name (y' := ((16 * s : Nat) : Int)) (by omega) ?_
  refine x_istore_n 16 rfl dX2_note_15 rfl (ls' := [_, _, _, _]) rfl (by decide) ?_
  refine x_aload_n 17 rfl dX2_note_16 1 rfl rfl ?_
  refine x_getr 20 rfl fX2_31 dX2_note_17 (shl0 hb) (shs0 hb) (by decide) (b + 2) rfl ?_
  refine x_iconst 21 rfl dX2_note_20 (by decide) ?_
  refine x_aload_n 22 rfl dX2_note_21 0 rfl rfl ?_
  refine x_getr 25 rfl fX2_15 dX2_note_22 (lgl0 h) (lgs0 h) (by decide) (a + 2) rfl ?_
  refine x_iload_n 26 rfl dX2_note_25 2 rfl rfl ?_
  refine x_bipush 28 rfl dX2_note_26 (by decide) ?_
  refine x_copy 31 rfl lX2_22 w_nat w_natS w_natI dX2_note_28 (Nat.le_of_ble_eq_true rfl) (shl2 hb) (shs2 hb) (lgl2 h) (lgs2 h) (by omega) (by omega) (by omega) (by omega) (by omega) ?_
  refine x_aload_n 32 rfl dX2_note_31 1 rfl rfl ?_
  refine x_getr 35 rfl fX2_36 dX2_note_32 (shl0 hb) (shs0 hb) (by decide) (b + 4) rfl ?_
  refine x_iconst 36 rfl dX2_note_35 (by decide) ?_
  refine x_aload_n 37 rfl dX2_note_36 0 rfl rfl ?_
  refine x_getr 40 rfl fX2_15 dX2_note_37 (lgl0 h) (lgs0 h) (by decide) (a + 2) rfl ?_
  refine x_iload_n 41 rfl dX2_note_40 2 rfl rfl ?_
  refine x_bipush 43 rfl dX2_note_41 (by decide) ?_
  refine y_iadd 44 rfl dX2_note_43 (by omega) ?_
  refine x_iconst 45 rfl dX2_note_44 (by decide) ?_
  refine x_copy 48 rfl lX2_22 w_nat w_natS w_natI dX2_note_45 (Nat.le_of_ble_eq_true rfl) (shl4 hb) (shs4 hb) (lgl2 h) (lgs2 h) (by omega) (by omega) (by omega) (by omega) (by omega) ?_
  refine x_iload_n 49 rfl dX2_note_48 2 rfl rfl ?_
  refine x_bipush 51 rfl dX2_note_49 (by decide) ?_
  refine y_iadd 52 rfl dX2_note_51 (by omega) ?_
  refine x_iconst 53 rfl dX2_note_52 (by decide) ?_
  refine y_iadd 54 rfl dX2_note_53 (by omega) ?_
  refine x_istore_n 55 rfl dX2_note_54 rfl (ls' := [_, _, _, _]) rfl (by decide) ?_
  refine x_aload_n 56 rfl dX2_note_55 0 rfl rfl ?_
  refine x_getr 59 rfl fX2_15 dX2_note_56 (lgl0 h) (lgs0 h) (by decide) (a + 2) rfl ?_
  refine x_iload_n 60 rfl dX2_note_59 3 rfl rfl ?_
  refine x_aload_n 61 rfl dX2_note_60 1 rfl rfl ?_
  refine x_geti 64 rfl fX2_39 dX2_note_61 (shl0 hb) (shs0 hb) (by decide) ?_
  try simp (disch := omega) only [z_up_ne, z_up_nk, z_up_eq, z_mup_ne, z_mup_eq, Int.reduceToNat]
  refine x_iast 65 rfl dX2_note_64 (lgl2 h) (lgs2 h) (by omega) (by omega) ?_
  refine x_aload_n 66 rfl dX2_note_65 0 rfl rfl ?_
  refine x_getr 69 rfl fX2_15 dX2_note_66 (lgl0 h) (lgs0 h) (by decide) (a + 2) rfl ?_
  refine x_iload_n 70 rfl dX2_note_69 3 rfl rfl ?_
  refine x_iconst 71 rfl dX2_note_70 (by decide) ?_
  refine y_iadd 72 rfl dX2_note_71 (by omega) ?_
  refine x_aload_n 73 rfl dX2_note_72 1 rfl rfl ?_
  refine x_geti 76 rfl fX2_42 dX2_note_73 (shl0 hb) (shs0 hb) (by decide) ?_
  try simp (disch := omega) only [z_up_ne, z_up_nk, z_up_eq, z_mup_ne, z_mup_eq, Int.reduceToNat]
  refine x_iast 77 rfl dX2_note_76 (lgl2 h) (lgs2 h) (by omega) (by omega) ?_
  refine x_aload_n 78 rfl dX2_note_77 0 rfl rfl ?_
  refine x_getr 81 rfl fX2_15 dX2_note_78 (lgl0 h) (lgs0 h) (by decide) (a + 2) rfl ?_
  refine x_iload_n 82 rfl dX2_note_81 3 rfl rfl ?_
  refine x_iconst 83 rfl dX2_note_82 (by decide) ?_
  refine y_iadd 84 rfl dX2_note_83 (by omega) ?_
  refine x_aload_n 85 rfl dX2_note_84 1 rfl rfl ?_
  refine x_geti 88 rfl fX2_45 dX2_note_85 (shl0 hb) (shs0 hb) (by decide) ?_
  try simp (disch := omega) only [z_up_ne, z_up_nk, z_up_eq, z_mup_ne, z_mup_eq, Int.reduceToNat]
  refine x_iast 89 rfl dX2_note_88 (lgl2 h) (lgs2 h) (by omega) (by omega) ?_
  refine x_aload_n 90 rfl dX2_note_89 0 rfl rfl ?_
  refine x_getr 93 rfl fX2_15 dX2_note_90 (lgl0 h) (lgs0 h) (by decide) (a + 2) rfl ?_
  refine x_iload_n 94 rfl dX2_note_93 3 rfl rfl ?_
  refine x_iconst 95 rfl dX2_note_94 (by decide) ?_
  refine y_iadd 96 rfl dX2_note_95 (by omega) ?_
  refine x_aload_n 97 rfl dX2_note_96 1 rfl rfl ?_
  refine x_getr 100 rfl fX2_48 dX2_note_97 (shl0 hb) (shs0 hb) (by decide) (b + 7) rfl ?_
  refine x_iconst 101 rfl dX2_note_100 (by decide) ?_
  refine x_iald 102 rfl dX2_note_101 (shl7 hb) (shs7 hb) (by omega) (by omega) ?_
  try simp (disch := omega) only [z_up_ne, z_up_nk, z_up_eq, z_mup_ne, z_mup_eq, Int.reduceToNat]
  refine x_iast 103 rfl dX2_note_102 (lgl2 h) (lgs2 h) (by omega) (by omega) ?_
  refine x_retu dX2_note_103 rfl ?_
  simp only [show (((16 * s : Nat) : Int)).toNat = 16 * s from Int.toNat_natCast _, show (((16 * s : Nat) : Int) + 8).toNat = 16 * s + 8 by omega, show (((16 * s : Nat) : Int) + 8 + 4).toNat = 16 * s + 12 by omega, show (((16 * s : Nat) : Int) + 8 + 4 + 1).toNat = 16 * s + 13 by omega, show (((16 * s : Nat) : Int) + 8 + 4 + 2).toNat = 16 * s + 14 by omega, show (((16 * s : Nat) : Int) + 8 + 4 + 3).toNat = 16 * s + 15 by omega, Int.reduceToNat]
  rw [← hs2]
  generalize hN : z_up _ (a + 2) (16 * s + 15) _ = N
  have hf : ∀ i, i ≠ a + 2 → N i = M i := fun i hi => by rw [← hN]; simp (disch := omega) only [z_up_ne, z_up_nk, z_up_eq, z_mup_ne, z_mup_eq, Int.reduceToNat]
  have hrow : ∀ i, ¬ (16 * s ≤ i ∧ i < 16 * s + 16) → N (a + 2) i = M (a + 2) i := by
    intro i hi
    rw [← hN]
    simp (disch := omega) only [z_up_ne, z_up_nk, z_up_eq, z_mup_ne, z_mup_eq, Int.reduceToNat]
    unfold z_cpy
    rw [if_neg (by omega), if_neg (by omega)]
  refine ⟨hf, ?_, ?_⟩
  · refine ⟨by rw [hf a (by omega)]; exact l1, by rw [hf a (by omega)]; exact l2, l3, fun j hj => ?_⟩
    rw [hf a (by omega), hf (a + 1) (by omega)]
    refine ⟨slotK_row (l4 j hj).1 (fun i h1 h2 => hrow i (by omega)), (l4 j hj).2⟩
  · obtain ⟨⟨s1, s2, s3, s4, s5, s6, s7, s8⟩, ⟨s9, s10, s11⟩, q1, q2, q3, q4, q5, q6, q7, q8⟩ := hs
    refine ⟨fun i hi => ?_, fun i hi => ?_, ?_, ?_, ?_, ?_⟩ <;> rw [← hN] <;> simp (disch := omega) only [z_up_ne, z_up_nk, z_up_eq, z_mup_ne, z_mup_eq, Int.reduceToNat]
    · unfold z_cpy; rw [if_neg (by omega), if_pos (by omega), show 0 + (16 * s + i - 16 * s) = i by omega]; exact q2 i hi
    · unfold z_cpy; rw [if_pos (by omega), show 0 + (16 * s + 8 + i - (16 * s + 8)) = i by omega]; exact q4 i hi
    · exact s2
    · exact s4
    · exact s5
    · exact s9

set_option maxRecDepth 100000 in
set_option maxHeartbeats 4000000 in
theorem c_X2_keepNoted {d sz : Nat} {S : zSh} {M : zMem} {a n : Nat} {e : Nat → Int} {l : Nat → Nat → Int} {x : Int} (h : LG S sz a) (hl : LR M a l n) (he : slotK M a (((M a 2).toNat + n) % 17) e) : zX d 0 0 mX2_keepNoted [zn a, zi x] sz S M (zU sz S (fun M' => (∀ i, i ≠ a → i ≠ a + 1 → M' i = M i) ∧ LR M' a (lpush l n e x) (min (n + 1) 16))) := by
  obtain ⟨l1, l2, l3, l4⟩ := id hl
  obtain ⟨s, hs1, hs2, hs3⟩ : ∃ s : Nat, (M a 2 + M a 3) % 17 = (s : Int) ∧ s = ((M a 2).toNat + n) % 17 ∧ s < 17 := ⟨((M a 2).toNat + n) % 17, by omega, rfl, Nat.mod_lt _ (by decide)⟩
  rw [← hs2] at he
  refine zX_of pl_RX2 [some (zn a), some (zi x)] 0 rfl rfl ?_
  refine x_aload_n 1 rfl dX2_keepNoted_0 0 rfl rfl ?_
  refine x_getr 4 rfl fX2_11 dX2_keepNoted_1 (lgl0 h) (lgs0 h) (by decide) (a + 1) rfl ?_
  refine x_aload_n 5 rfl dX2_keepNoted_4 0 rfl rfl ?_
  refine x_geti 8 rfl fX2_28 dX2_keepNoted_5 (lgl0 h) (lgs0 h) (by decide) ?_
  refine x_aload_n 9 rfl dX2_keepNoted_8 0 rfl rfl ?_
  refine x_geti 12 rfl fX2_18 dX2_keepNoted_9 (lgl0 h) (lgs0 h) (by decide) ?_
  refine y_iadd 13 rfl dX2_keepNoted_12 (by omega) ?_
  refine x_bipush 15 rfl dX2_keepNoted_13 (by decide) ?_
  refine x_irem 16 rfl dX2_keepNoted_15 (by omega) ?_
  rw [z_tmodn (by omega), hs1]
  refine x_iload_n 17 rfl dX2_keepNoted_16 1 rfl rfl ?_
  refine x_iast 18 rfl dX2_keepNoted_17 (lgl1 h) (lgs1 h) (by omega) (by omega) ?_
  refine x_aload_n 19 rfl dX2_keepNoted_18 0 rfl rfl ?_
  refine x_geti 22 rfl fX2_18 dX2_keepNoted_19 (lgl0 h) (lgs0 h) (by decide) ?_
  try simp (disch := omega) only [z_up_ne, z_up_nk, z_up_eq, z_mup_ne, z_mup_eq, Int.reduceToNat]
  refine x_bipush 24 rfl dX2_keepNoted_22 (by decide) ?_
  refine x_icmp_ge 27 40 rfl dX2_keepNoted_24 (by decide) (fun c24 => ?_) (fun c24 => ?_)
  · refine x_aload_n 41 rfl dX2_keepNoted_40 0 rfl rfl ?_
    refine x_aload_n 42 rfl dX2_keepNoted_41 0 rfl rfl ?_
    refine x_geti 45 rfl fX2_28 dX2_keepNoted_42 (lgl0 h) (lgs0 h) (by decide) ?_
    try simp (disch := omega) only [z_up_ne, z_up_nk, z_up_eq, z_mup_ne, z_mup_eq, Int.reduceToNat]
    refine x_iconst 46 rfl dX2_keepNoted_45 (by decide) ?_
    refine y_iadd 47 rfl dX2_keepNoted_46 (by omega) ?_
    refine x_bipush 49 rfl dX2_keepNoted_47 (by decide) ?_
    refine x_irem 50 rfl dX2_keepNoted_49 (by omega) ?_
    rw [z_tmodn (by omega)]
    refine x_puti 53 rfl fX2_28 dX2_keepNoted_50 (lgl0 h) (lgs0 h) (by decide) ?_
    refine x_retu dX2_keepNoted_53 rfl ?_
    rw [Int.toNat_natCast]
    refine ⟨fun i h1 h2 => by simp (disch := omega) only [z_up_ne, z_up_nk, z_up_eq, z_mup_ne, z_mup_eq, Int.reduceToNat], ?_⟩
    have hmin : n < 16 ∨ n = 16 := by omega
    rcases hmin with hn | hn
    · first
        | (exfalso; omega)
        | rw [show min (n + 1) 16 = n + 1 by omega]
          refine ⟨by simp (disch := omega) only [z_up_ne, z_up_nk, z_up_eq, z_mup_ne, z_mup_eq, Int.reduceToNat]; omega, by simp (disch := omega) only [z_up_ne, z_up_nk, z_up_eq, z_mup_ne, z_mup_eq, Int.reduceToNat]; exact l2, by omega, fun j hj => ?_⟩
          simp (disch := omega) only [z_up_ne, z_up_nk, z_up_eq]
          unfold lpush
          rw [if_pos hn]
          by_cases hj2 : j = n
          · subst hj2
            rw [if_pos rfl, ← hs2]
            refine ⟨slotK_ku (slotK_row he (fun i _ _ => by simp (disch := omega) only [z_up_ne, z_up_nk, z_up_eq, z_mup_ne, z_mup_eq, Int.reduceToNat])), ?_⟩
            simp [z_up, ku]
          · rw [if_neg hj2]
            have l5 := l4 j (by omega)
            refine ⟨slotK_row l5.1 (fun i _ _ => by simp (disch := omega) only [z_up_ne, z_up_nk, z_up_eq, z_mup_ne, z_mup_eq, Int.reduceToNat]), ?_⟩
            rw [z_up_at, if_neg (by omega)]
            exact l5.2
    · first
        | (exfalso; omega)
        | subst hn
          rw [show min (16 + 1) 16 = 16 by decide]
          refine ⟨by simp (disch := omega) only [z_up_ne, z_up_nk, z_up_eq, z_mup_ne, z_mup_eq, Int.reduceToNat]; omega, by simp (disch := omega) only [z_up_ne, z_up_nk, z_up_eq, z_mup_ne, z_mup_eq, Int.reduceToNat]; omega, by omega, fun j hj => ?_⟩
          simp (disch := omega) only [z_up_ne, z_up_nk, z_up_eq]
          unfold lpush
          rw [if_neg (by decide)]
          by_cases hj2 : j = 15
          · subst hj2
            rw [if_pos rfl]
            rw [show (((M a 2 + 1) % 17).toNat + 15) % 17 = s by omega]
            refine ⟨slotK_ku (slotK_row he (fun i _ _ => by simp (disch := omega) only [z_up_ne, z_up_nk, z_up_eq, z_mup_ne, z_mup_eq, Int.reduceToNat])), ?_⟩
            simp [z_up, ku]
          · rw [if_neg hj2]
            have l5 := l4 (j + 1) (by omega)
            rw [show (((M a 2 + 1) % 17).toNat + j) % 17 = ((M a 2).toNat + (j + 1)) % 17 by omega]
            refine ⟨slotK_row l5.1 (fun i _ _ => by simp (disch := omega) only [z_up_ne, z_up_nk, z_up_eq, z_mup_ne, z_mup_eq, Int.reduceToNat]), ?_⟩
            rw [z_up_at, if_neg (by omega)]
            exact l5.2
  · refine x_aload_n 28 rfl dX2_keepNoted_27 0 rfl rfl ?_
    refine x_dupr 29 rfl dX2_keepNoted_28 ?_
    refine x_geti 32 rfl fX2_18 dX2_keepNoted_29 (lgl0 h) (lgs0 h) (by decide) ?_
    try simp (disch := omega) only [z_up_ne, z_up_nk, z_up_eq, z_mup_ne, z_mup_eq, Int.reduceToNat]
    refine x_iconst 33 rfl dX2_keepNoted_32 (by decide) ?_
    refine y_iadd 34 rfl dX2_keepNoted_33 (by omega) ?_
    refine x_puti 37 rfl fX2_18 dX2_keepNoted_34 (lgl0 h) (lgs0 h) (by decide) ?_
    refine x_goto 53 dX2_keepNoted_37 (by decide) ?_
    refine x_retu dX2_keepNoted_53 rfl ?_
    rw [Int.toNat_natCast]
    refine ⟨fun i h1 h2 => by simp (disch := omega) only [z_up_ne, z_up_nk, z_up_eq, z_mup_ne, z_mup_eq, Int.reduceToNat], ?_⟩
    have hmin : n < 16 ∨ n = 16 := by omega
    rcases hmin with hn | hn
    · first
        | (exfalso; omega)
        | rw [show min (n + 1) 16 = n + 1 by omega]
          refine ⟨by simp (disch := omega) only [z_up_ne, z_up_nk, z_up_eq, z_mup_ne, z_mup_eq, Int.reduceToNat]; omega, by simp (disch := omega) only [z_up_ne, z_up_nk, z_up_eq, z_mup_ne, z_mup_eq, Int.reduceToNat]; exact l2, by omega, fun j hj => ?_⟩
          simp (disch := omega) only [z_up_ne, z_up_nk, z_up_eq]
          unfold lpush
          rw [if_pos hn]
          by_cases hj2 : j = n
          · subst hj2
            rw [if_pos rfl, ← hs2]
            refine ⟨slotK_ku (slotK_row he (fun i _ _ => by simp (disch := omega) only [z_up_ne, z_up_nk, z_up_eq, z_mup_ne, z_mup_eq, Int.reduceToNat])), ?_⟩
            simp [z_up, ku]
          · rw [if_neg hj2]
            have l5 := l4 j (by omega)
            refine ⟨slotK_row l5.1 (fun i _ _ => by simp (disch := omega) only [z_up_ne, z_up_nk, z_up_eq, z_mup_ne, z_mup_eq, Int.reduceToNat]), ?_⟩
            rw [z_up_at, if_neg (by omega)]
            exact l5.2
    · first
        | (exfalso; omega)
        | subst hn
          rw [show min (16 + 1) 16 = 16 by decide]
          refine ⟨by simp (disch := omega) only [z_up_ne, z_up_nk, z_up_eq, z_mup_ne, z_mup_eq, Int.reduceToNat]; omega, by simp (disch := omega) only [z_up_ne, z_up_nk, z_up_eq, z_mup_ne, z_mup_eq, Int.reduceToNat]; omega, by omega, fun j hj => ?_⟩
          simp (disch := omega) only [z_up_ne, z_up_nk, z_up_eq]
          unfold lpush
          rw [if_neg (by decide)]
          by_cases hj2 : j = 15
          · subst hj2
            rw [if_pos rfl]
            rw [show (((M a 2 + 1) % 17).toNat + 15) % 17 = s by omega]
            refine ⟨slotK_ku (slotK_row he (fun i _ _ => by simp (disch := omega) only [z_up_ne, z_up_nk, z_up_eq, z_mup_ne, z_mup_eq, Int.reduceToNat])), ?_⟩
            simp [z_up, ku]
          · rw [if_neg hj2]
            have l5 := l4 (j + 1) (by omega)
            rw [show (((M a 2 + 1) % 17).toNat + j) % 17 = ((M a 2).toNat + (j + 1)) % 17 by omega]
            refine ⟨slotK_row l5.1 (fun i _ _ => by simp (disch := omega) only [z_up_ne, z_up_nk, z_up_eq, z_mup_ne, z_mup_eq, Int.reduceToNat]), ?_⟩
            rw [z_up_at, if_neg (by omega)]
            exact l5.2
