set_option maxRecDepth 100000 in
set_option maxHeartbeats 4000000 in
theorem c_X10_undo {d sz : Nat} {S : zSh} {M : zMem} (hL : LY S sz) (hr : ∀ i, i < 7 → 0 ≤ M 54 i ∧ M 54 i ≤ 1000000) {k : Nat → Int} (hs : SR M 1 k) {n : Nat} {l : Nat → Nat → Int} (hl : LR M 24 l n) (hkn : ∀ j, j < n → 0 ≤ l j 23 ∧ l j 23 ≤ 3)  : zX (d + 2) 0 0 mX10_undo [zn 0] sz S M (zI sz S (fun r M' => ∃ M1, (n = 0 → r = -3 ∧ M1 = M) ∧ (0 < n → r = l (n - 1) 23 ∧ (∀ i, ¬ (1 ≤ i ∧ i < 1 + 11) → i ≠ 24 → M1 i = M i) ∧ M1 11 = M 11 ∧ SR M1 1 (kMoved k (l (n - 1))) ∧ LR M1 24 l (n - 1)) ∧ M' = cFin M1 r)) := by
  refine zX_of pl_RX10 [some (zn 0)] 0 rfl rfl ?_
  refine x_aload_n 1 rfl dX10_undo_0 0 rfl rfl ?_
  refine x_aload_n 2 rfl dX10_undo_1 0 rfl rfl ?_
  refine x_getr 5 rfl fX10_26 dX10_undo_2 (lyl0 hL) (lys0 hL) (by decide) (24) rfl ?_
  refine x_aload_n 6 rfl dX10_undo_5 0 rfl rfl ?_
  refine x_getr 9 rfl fX10_10 dX10_undo_6 (lyl0 hL) (lys0 hL) (by decide) (1) rfl ?_
  refine x_cVi 12 rfl lX10_232 dX10_undo_9 (lyl24 hL) (lys24 hL) (c_X2_takeBack (ly_lg24 hL) (ly_sh1 hL) (by decide) hl hs) rfl rfl (Nat.le_of_ble_eq_true rfl) (fun r1 M1 hr1 => ?_)
  obtain ⟨h0, h1⟩ := hr1
  have hb : -6 ≤ r1 ∧ r1 ≤ 1000000 := by
    rcases Nat.eq_zero_or_pos n with h | h
    · have := (h0 h).1; omega
    · have := (h1 h).1; have := hkn (n - 1) (by omega); omega
  have hr5 : ∀ i, i < 7 → 0 ≤ M1 54 i ∧ M1 54 i ≤ 1000000 := by
    rcases Nat.eq_zero_or_pos n with h | h
    · rw [(h0 h).2]; exact hr
    · rw [(h1 h).2.1 54 (by decide) (by decide)]; exact hr
  refine x_cVi 15 rfl lX10_229 dX10_undo_12 (lyl0 hL) (lys0 hL) (c_X10_answer hL hr5 hb) rfl rfl (Nat.le_of_ble_eq_true rfl) (fun r2 M2 hr2 => ?_)
  obtain ⟨hr3, hM2⟩ := hr2
  refine x_reti dX10_undo_15 rfl ?_
  subst hr3
  refine ⟨M1, h0, fun h => ?_, hM2⟩
  exact h1 h
