/-! THE REFERENCE WORKS OUT: go, broken -/
def ev (M : zMem) (g b : Int) : zMem := z_up (z_up M 55 22 g) 55 24 b
section EV
variable {M : zMem} {g b x : Int}
theorem ev_22 : ev M g b 55 22 = g := by simp [ev, z_up]
theorem ev_24 : ev M g b 55 24 = b := by simp [ev, z_up]
theorem ev_o {j : Nat} (h1 : j ≠ 22) (h2 : j ≠ 24) : ev M g b 55 j = M 55 j := by simp [ev, z_up, h1, h2]
theorem ev_ne {i : Nat} (h : i ≠ 55) : ev M g b i = M i := by funext j; simp [ev, z_up, h]
theorem ev_u22 : z_up (ev M g b) 55 22 x = ev M x b := by
  funext i j
  by_cases h : i = 55
  · subst h; by_cases h1 : j = 22 <;> by_cases h2 : j = 24 <;> simp [ev, z_up, h1, h2]
  · simp [ev, z_up, h]
theorem ev_u24 : z_up (ev M g b) 55 24 x = ev M g x := by
  funext i j
  by_cases h : i = 55
  · subst h; by_cases h1 : j = 22 <;> by_cases h2 : j = 24 <;> simp [ev, z_up, h1, h2]
  · simp [ev, z_up, h]
theorem ev_ad (B t : Nat) : ev M (((B + t : Nat) : Int) + 1) b = ev M ((B + (t + 1) : Nat) : Int) b := by
  rw [show ((B + t : Nat) : Int) + 1 = ((B + (t + 1) : Nat) : Int) by omega]
end EV
/-- the tokens as they are kept -/
def EVM (M : zMem) (B n : Nat) (c v : Nat → Int) : Prop := M 55 23 = ((B + n : Nat) : Int) ∧ B + n ≤ 2800 ∧ (∀ i, i < n → M 57 (87 + (B + i)) = c i) ∧ (∀ i, i < n → M 57 (2887 + (B + i)) = v i)
/-- what words stand for -/
def mE (M : zMem) (o : Bool) : Int → Int → Int := fun c k => if o = true then (if c = 14 then (if 0 ≤ k ∧ k < M 57 75 then M 57 (3 + k.toNat) else -1) else if c = 15 then (if 0 ≤ k ∧ k < M 57 76 then M 57 (19 + k.toNat) else -1) else if c = 16 then M 57 0 else if c = 17 then M 57 2 else if c = 18 then M 55 27 else if c = 19 then M 55 28 else M 57 1) else (if 8 ≤ c ∧ c ≤ 17 then M 67 (c - 8).toNat else 0)
def mEb (M : zMem) (o : Bool) : Prop := ∀ c k, -1000000000 ≤ mE M o c k ∧ mE M o c k ≤ 1000000000
def EVO (M : zMem) (B : Nat) (live b : Int) (w : Option Int) (t' : Nat) (r : Int) (M' : zMem) : Prop :=
  (live = 1 ∧ b = 0 ∧ ∃ x, w = some x ∧ r = x ∧ (-1000000000 ≤ x ∧ x ≤ 1000000000) ∧ M' = ev M ((B + t' : Nat) : Int) 0) ∨ (live = 1 ∧ b = 0 ∧ w = none ∧ r = 0 ∧ M' = ev M ((B + t' : Nat) : Int) 1) ∨ ((live = 0 ∨ b = 1) ∧ r = 0 ∧ M' = ev M ((B + t' : Nat) : Int) b)
def EVT (M : zMem) (B : Nat) (live b : Int) (w : Option Int) (t' : Nat) (r : Int) (M' : zMem) : Prop :=
  (live = 1 ∧ b = 0 ∧ ∃ x, w = some x ∧ r = x ∧ (x = 0 ∨ x = 1) ∧ M' = ev M ((B + t' : Nat) : Int) 0) ∨ (live = 1 ∧ b = 0 ∧ w = none ∧ (r = 0 ∨ r = 1) ∧ M' = ev M ((B + t' : Nat) : Int) 1) ∨ ((live = 0 ∨ b = 1) ∧ (r = 0 ∨ r = 1) ∧ M' = ev M ((B + t' : Nat) : Int) b)
theorem g_loop_none {c : Nat → Int} {ops : Int → Int} {el : gS → gR} {e : Int → Int → Int} : ∀ (f : Nat) (s s' : gS) (w w' : gV), g_loop c ops el f s w = .inr (s', w') → w e = none → w' e = none
  | 0, s, s', w, w', h, hn => by cases h; exact hn
  | f + 1, s, s', w, w', h, hn => by
    unfold g_loop at h
    split at h
    · cases h; exact hn
    · obtain ⟨s1, w1, h2, h3⟩ := g_bd_r h
      exact g_loop_none f _ _ _ _ h3 (by simp [v_join, hn])
theorem g_chain_none {c : Nat → Int} {tok op : Int} {el : gS → gR} {e : Int → Int → Int} : ∀ (f : Nat) (s s' : gS) (w w' : gV), g_chain c tok op el f s w = .inr (s', w') → w e = none → w' e = none
  | 0, s, s', w, w', h, hn => by cases h; exact hn
  | f + 1, s, s', w, w', h, hn => by
    unfold g_chain at h
    split at h
    · obtain ⟨s1, w1, h2, h3⟩ := g_bd_r h
      exact g_chain_none f _ _ _ _ h3 (by simp [v_short, hn])
    · cases h; exact hn
theorem g_part_inv {c v : Nat → Int} {o : Bool} {inner : Option (gS → gR)} {s s' : gS} {w : gV} (h : g_part c v o inner s = .inr (s', w)) :
    (c s.1 = 191 ∧ ∃ f s1, inner = some f ∧ f (g_ad s) = .inr (s1, w) ∧ c s1.1 = 193 ∧ s' = g_ad s1) ∨
    (c s.1 = 50 ∧ v s.1 ≤ 1000 ∧ s'.1 = s.1 + 1 ∧ w = fun _ => some (v s.1)) ∨
    (o = true ∧ (c s.1 = 14 ∨ c s.1 = 15) ∧ c (s.1 + 1) = 50 ∧ v (s.1 + 1) ≤ 7 ∧ s'.1 = s.1 + 2 ∧ w = fun e => some (e (c s.1) (v (s.1 + 1)))) ∨
    (¬ (o = true ∧ (c s.1 = 14 ∨ c s.1 = 15)) ∧ ((if o = true then 14 else 8) ≤ c s.1 ∧ c s.1 ≤ (if o = true then 20 else 17)) ∧ s'.1 = s.1 + 1 ∧ w = fun e => some (e (c s.1) 0)) := by
  unfold g_part at h
  by_cases h1 : c s.1 = 191
  · rw [if_pos h1] at h
    left
    rcases inner with _ | f
    · cases h
    · obtain ⟨s1, w1, h2, h3⟩ := g_bd_r h
      split at h3
      · rename_i h4
        cases h3
        exact ⟨h1, f, s1, rfl, h2, h4, rfl⟩
      · cases h3
  · rw [if_neg h1] at h
    right
    by_cases h2 : s.2.1 = 50
    · rw [if_pos h2] at h; cases h
    · rw [if_neg h2] at h
      by_cases h3 : c s.1 = 50 ∧ v s.1 ≤ 1000
      · rw [if_pos h3] at h; cases h; exact Or.inl ⟨h3.1, h3.2, rfl, rfl⟩
      · rw [if_neg h3] at h
        right
        by_cases h4 : o = true ∧ (c s.1 = 14 ∨ c s.1 = 15)
        · rw [if_pos h4] at h
          by_cases h5 : c (s.1 + 1) = 50 ∧ v (s.1 + 1) ≤ (if c s.1 = 14 then 7 else 3)
          · rw [if_pos h5] at h
            cases h
            exact Or.inl ⟨h4.1, h4.2, h5.1, by have := h5.2; split at this <;> omega, rfl, rfl⟩
          · rw [if_neg h5] at h; cases h
        · rw [if_neg h4] at h
          by_cases h5 : (if o = true then 14 else 8) ≤ c s.1 ∧ c s.1 ≤ (if o = true then 20 else 17)
          · rw [if_pos h5] at h; cases h; exact Or.inr ⟨h4, h5, rfl, rfl⟩
          · rw [if_neg h5] at h; cases h

set_option maxRecDepth 100000 in
set_option maxHeartbeats 4000000 in
theorem c_X11_codeAt {d sz : Nat} {S : zSh} {M : zMem} (hL : LY S sz) {B n : Nat} {c v : Nat → Int} (hM : EVM M B n c v) (hT : TK c v n) {t : Nat} (ht : t ≤ n) {g b : Int} : zX d 0 0 mX11_codeAt [zn 55, zi ((B + t : Nat) : Int)] sz S (ev M g b) (zI sz S (fun r M' => r = c t ∧ M' = ev M g b)) := by
  have hM1 := hM.1
  have hM2 := hM.2.1
  refine zX_of pl_RX11 [some (zn 55), some (zi ((B + t : Nat) : Int))] 0 rfl rfl ?_
  refine x_iload_n 1 rfl dX11_codeAt_0 1 rfl rfl ?_
  refine x_aload_n 2 rfl dX11_codeAt_1 0 rfl rfl ?_
  refine x_geti 5 rfl fX11_246 dX11_codeAt_2 (lyl55 hL) (lys55 hL) (by decide) ?_
  try simp (disch := omega) only [z_up_ne, z_up_nk, z_up_eq, z_mup_ne, z_mup_eq, Int.reduceToNat, Int.toNat_natCast, ev_22, ev_24, ev_o, ev_ne, ev_u22, ev_u24]
  refine x_icmp_ge 8 20 rfl dX11_codeAt_5 (by decide) (fun c5 => ?_) (fun c5 => ?_)
  · refine x_iconst 21 rfl dX11_codeAt_20 (by decide) ?_
    refine x_reti dX11_codeAt_21 rfl ?_
    refine ⟨?_, rfl⟩
    first | rfl | (rw [show t = n by omega]; exact hT.2.1.symm)
  · refine x_aload_n 9 rfl dX11_codeAt_8 0 rfl rfl ?_
    refine x_getr 12 rfl fX11_24 dX11_codeAt_9 (lyl55 hL) (lys55 hL) (by decide) (57) rfl ?_
    refine x_bipush 14 rfl dX11_codeAt_12 (by decide) ?_
    refine x_iload_n 15 rfl dX11_codeAt_14 1 rfl rfl ?_
    refine y_iadd 16 rfl dX11_codeAt_15 (by omega) ?_
    refine x_iald 17 rfl dX11_codeAt_16 (lyl57 hL) (lys57 hL) (by omega) (by omega) ?_
    try simp (disch := omega) only [z_up_ne, z_up_nk, z_up_eq, z_mup_ne, z_mup_eq, Int.reduceToNat, Int.toNat_natCast, ev_22, ev_24, ev_o, ev_ne, ev_u22, ev_u24]
    rw [show ((87 : Int) + ((B + t : Nat) : Int)).toNat = 87 + (B + t) by omega, hM.2.2.1 t (by omega)]
    refine x_goto 21 dX11_codeAt_17 (by decide) ?_
    refine x_reti dX11_codeAt_21 rfl ?_
    refine ⟨?_, rfl⟩
    first | rfl | (rw [show t = n by omega]; exact hT.2.1.symm)

set_option maxRecDepth 100000 in
set_option maxHeartbeats 4000000 in
theorem c_X11_passes0 {d sz : Nat} {S : zSh} {M : zMem} (hL : LY S sz) {B n : Nat} {c v : Nat → Int} (hM : EVM M B n c v) (hT : TK c v n) {t : Nat} (ht : t ≤ n) {b x : Int} : zX (d + 1) 0 0 mX11_passes0 [zn 55, zi x] sz S (ev M ((B + t : Nat) : Int) b) (zI sz S (fun r M' => (c t = x ∧ r = 1 ∧ M' = ev M ((B + (t + 1) : Nat) : Int) b) ∨ (c t ≠ x ∧ r = 0 ∧ M' = ev M ((B + t : Nat) : Int) b))) := by
  have hM2 := hM.2.1
  have hn := hT.1
  refine zX_of pl_RX11 [some (zn 55), some (zi x), none] 1 rfl rfl ?_
  refine x_aload_n 1 rfl dX11_passes0_0 0 rfl rfl ?_
  refine x_aload_n 2 rfl dX11_passes0_1 0 rfl rfl ?_
  refine x_geti 5 rfl fX11_249 dX11_passes0_2 (lyl55 hL) (lys55 hL) (by decide) ?_
  try simp (disch := omega) only [z_up_ne, z_up_nk, z_up_eq, z_mup_ne, z_mup_eq, Int.reduceToNat, Int.toNat_natCast, ev_22, ev_24, ev_o, ev_ne, ev_u22, ev_u24]
  refine x_cVi 8 rfl lX11_252 dX11_passes0_5 (lyl55 hL) (lys55 hL) (c_X11_codeAt hL hM hT ht) rfl rfl (Nat.le_of_ble_eq_true rfl) (fun r M1 hr1 => ?_)
  obtain ⟨rfl, hM1⟩ := hr1
  rw [hM1]
  refine x_iload_n 9 rfl dX11_passes0_8 1 rfl rfl ?_
  refine x_icmp_ne 12 16 rfl dX11_passes0_9 (by decide) (fun c9 => ?_) (fun c9 => ?_)
  · refine x_iconst 17 rfl dX11_passes0_16 (by decide) ?_
    refine y_istore_n 18 rfl dX11_passes0_17 rfl rfl (ls' := [_, _, _]) rfl (by decide) ?_
    refine x_iload_n 19 rfl dX11_passes0_18 2 rfl rfl ?_
    refine x_if_eq 22 32 rfl dX11_passes0_19 (by decide) (fun c19 => ?_) (fun c19 => ?_)
    · refine x_iload_n 33 rfl dX11_passes0_32 2 rfl rfl ?_
      refine x_retz dX11_passes0_33 rfl (by omega) ?_
      right; exact ⟨by omega, rfl, rfl⟩
    · exfalso; omega
  · refine x_iconst 13 rfl dX11_passes0_12 (by decide) ?_
    refine x_goto 17 dX11_passes0_13 (by decide) ?_
    refine y_istore_n 18 rfl dX11_passes0_17 rfl rfl (ls' := [_, _, _]) rfl (by decide) ?_
    refine x_iload_n 19 rfl dX11_passes0_18 2 rfl rfl ?_
    refine x_if_eq 22 32 rfl dX11_passes0_19 (by decide) (fun c19 => ?_) (fun c19 => ?_)
    · exfalso; omega
    · refine x_aload_n 23 rfl dX11_passes0_22 0 rfl rfl ?_
      refine x_dupr 24 rfl dX11_passes0_23 ?_
      refine x_geti 27 rfl fX11_249 dX11_passes0_24 (lyl55 hL) (lys55 hL) (by decide) ?_
      try simp (disch := omega) only [z_up_ne, z_up_nk, z_up_eq, z_mup_ne, z_mup_eq, Int.reduceToNat, Int.toNat_natCast, ev_22, ev_24, ev_o, ev_ne, ev_u22, ev_u24]
      refine x_iconst 28 rfl dX11_passes0_27 (by decide) ?_
      refine y_iadd 29 rfl dX11_passes0_28 (by omega) ?_
      refine x_puti 32 rfl fX11_249 dX11_passes0_29 (lyl55 hL) (lys55 hL) (by decide) ?_
      try simp only [ev_22, ev_24, ev_o, ev_ne, ev_u22, ev_u24]
      rw [ev_ad]
      refine x_iload_n 33 rfl dX11_passes0_32 2 rfl rfl ?_
      refine x_retz dX11_passes0_33 rfl (by omega) ?_
      left; exact ⟨by omega, rfl, rfl⟩

set_option maxRecDepth 100000 in
set_option maxHeartbeats 4000000 in
theorem c_X11_bounded {d sz : Nat} {S : zSh} {M : zMem} (hL : LY S sz) {x live g b : Int} (hb : b = 0 ∨ b = 1) : zX d 0 0 mX11_bounded [zn 55, zl x, zi live] sz S (ev M g b) (zJ sz S (fun r M' => (live ≠ 0 ∧ (1000000000 < x ∨ x < -1000000000) ∧ r = 0 ∧ M' = ev M g 1) ∨ (¬ (live ≠ 0 ∧ (1000000000 < x ∨ x < -1000000000)) ∧ r = (if b = 1 then 0 else x) ∧ M' = ev M g b))) := by
  refine zX_of pl_RX11 [some (zn 55), some (zl x), none, some (zi live)] 0 rfl rfl ?_
  refine x_iload_n 1 rfl dX11_bounded_0 3 rfl rfl ?_
  refine x_if_eq 4 25 rfl dX11_bounded_1 (by decide) (fun c1 => ?_) (fun c1 => ?_)
  · refine x_aload_n 26 rfl dX11_bounded_25 0 rfl rfl ?_
    refine x_getz 29 rfl fX11_259 dX11_bounded_26 (lyl55 hL) (lys55 hL) (by decide) ?_
    try simp (disch := omega) only [z_up_ne, z_up_nk, z_up_eq, z_mup_ne, z_mup_eq, Int.reduceToNat, Int.toNat_natCast, ev_22, ev_24, ev_o, ev_ne, ev_u22, ev_u24]
    refine x_if_eq 32 36 rfl dX11_bounded_29 (by decide) (fun c29 => ?_) (fun c29 => ?_)
    · refine x_lload_n 37 rfl dX11_bounded_36 1 rfl rfl ?_
      refine x_retj dX11_bounded_37 rfl ?_
      right; exact ⟨by omega, by split <;> omega, rfl⟩
    · refine x_lconst (x := 0) 33 rfl dX11_bounded_32 rfl ?_
      refine x_goto 37 dX11_bounded_33 (by decide) ?_
      refine x_retj dX11_bounded_37 rfl ?_
      right; exact ⟨by omega, by split <;> omega, rfl⟩
  · refine x_lload_n 5 rfl dX11_bounded_4 1 rfl rfl ?_
    refine x_ldc2 (x := 1000000000) 8 rfl klX11_255 (by decide) dX11_bounded_5 ?_
    refine x_lcmp 9 rfl dX11_bounded_8 ?_
    refine x_if_gt 12 20 rfl dX11_bounded_9 (by decide) (fun c9 => ?_) (fun c9 => ?_)
    · rw [zcmp_gt] at c9
      refine x_aload_n 21 rfl dX11_bounded_20 0 rfl rfl ?_
      refine x_iconst 22 rfl dX11_bounded_21 (by decide) ?_
      refine x_putz 25 rfl fX11_259 dX11_bounded_22 (lyl55 hL) (lys55 hL) (by decide) (by decide) ?_
      try simp only [ev_22, ev_24, ev_o, ev_ne, ev_u22, ev_u24]
      refine x_aload_n 26 rfl dX11_bounded_25 0 rfl rfl ?_
      refine x_getz 29 rfl fX11_259 dX11_bounded_26 (lyl55 hL) (lys55 hL) (by decide) ?_
      try simp (disch := omega) only [z_up_ne, z_up_nk, z_up_eq, z_mup_ne, z_mup_eq, Int.reduceToNat, Int.toNat_natCast, ev_22, ev_24, ev_o, ev_ne, ev_u22, ev_u24]
      refine x_if_eq 32 36 rfl dX11_bounded_29 (by decide) (fun c29 => ?_) (fun c29 => ?_)
      · exfalso; omega
      · refine x_lconst (x := 0) 33 rfl dX11_bounded_32 rfl ?_
        refine x_goto 37 dX11_bounded_33 (by decide) ?_
        refine x_retj dX11_bounded_37 rfl ?_
        left; exact ⟨c1, by omega, rfl, rfl⟩
    · rw [zcmp_gt] at c9
      refine x_lload_n 13 rfl dX11_bounded_12 1 rfl rfl ?_
      refine x_ldc2 (x := -1000000000) 16 rfl klX11_257 (by decide) dX11_bounded_13 ?_
      refine x_lcmp 17 rfl dX11_bounded_16 ?_
      refine x_if_ge 20 25 rfl dX11_bounded_17 (by decide) (fun c17 => ?_) (fun c17 => ?_)
      · rw [zcmp_ge] at c17
        refine x_aload_n 26 rfl dX11_bounded_25 0 rfl rfl ?_
        refine x_getz 29 rfl fX11_259 dX11_bounded_26 (lyl55 hL) (lys55 hL) (by decide) ?_
        try simp (disch := omega) only [z_up_ne, z_up_nk, z_up_eq, z_mup_ne, z_mup_eq, Int.reduceToNat, Int.toNat_natCast, ev_22, ev_24, ev_o, ev_ne, ev_u22, ev_u24]
        refine x_if_eq 32 36 rfl dX11_bounded_29 (by decide) (fun c29 => ?_) (fun c29 => ?_)
        · refine x_lload_n 37 rfl dX11_bounded_36 1 rfl rfl ?_
          refine x_retj dX11_bounded_37 rfl ?_
          right; exact ⟨by omega, by split <;> omega, rfl⟩
        · refine x_lconst (x := 0) 33 rfl dX11_bounded_32 rfl ?_
          refine x_goto 37 dX11_bounded_33 (by decide) ?_
          refine x_retj dX11_bounded_37 rfl ?_
          right; exact ⟨by omega, by split <;> omega, rfl⟩
      · rw [zcmp_ge] at c17
        refine x_aload_n 21 rfl dX11_bounded_20 0 rfl rfl ?_
        refine x_iconst 22 rfl dX11_bounded_21 (by decide) ?_
        refine x_putz 25 rfl fX11_259 dX11_bounded_22 (lyl55 hL) (lys55 hL) (by decide) (by decide) ?_
        try simp only [ev_22, ev_24, ev_o, ev_ne, ev_u22, ev_u24]
        refine x_aload_n 26 rfl dX11_bounded_25 0 rfl rfl ?_
        refine x_getz 29 rfl fX11_259 dX11_bounded_26 (lyl55 hL) (lys55 hL) (by decide) ?_
        try simp (disch := omega) only [z_up_ne, z_up_nk, z_up_eq, z_mup_ne, z_mup_eq, Int.reduceToNat, Int.toNat_natCast, ev_22, ev_24, ev_o, ev_ne, ev_u22, ev_u24]
        refine x_if_eq 32 36 rfl dX11_bounded_29 (by decide) (fun c29 => ?_) (fun c29 => ?_)
        · exfalso; omega
        · refine x_lconst (x := 0) 33 rfl dX11_bounded_32 rfl ?_
          refine x_goto 37 dX11_bounded_33 (by decide) ?_
          refine x_retj dX11_bounded_37 rfl ?_
          left; exact ⟨c1, by omega, rfl, rfl⟩

set_option maxRecDepth 100000 in
set_option maxHeartbeats 4000000 in
theorem c_X11_orderValue {d sz : Nat} {S : zSh} {M : zMem} (hL : LY S sz) (hi : KI (M 57)) {x y g b : Int} (hx : 14 ≤ x ∧ x ≤ 20) : zX (d + 2) 0 0 mX11_orderValue [zn 55, zi x, zi y] sz S (ev M g b) (zI sz S (fun r M' => r = mE M true x y ∧ M' = ev M g b)) := by
  have hi2 : KI (ev M g b 57) := by rw [ev_ne (by decide)]; exact hi
  have i1 := hi.1
  refine zX_of pl_RX11 [some (zn 55), some (zi x), some (zi y)] 0 rfl rfl ?_
  refine x_iload_n 1 rfl dX11_orderValue_0 1 rfl rfl ?_
  refine x_tsC (14) 40 0 dX11_orderValue_1 (by decide) (by decide) (by decide) rfl (by decide) (fun c1 => ?_) (fun c1_0 => ?_)
  · refine x_aload_n 41 rfl dX11_orderValue_40 0 rfl rfl ?_
    refine x_iload_n 42 rfl dX11_orderValue_41 2 rfl rfl ?_
    refine x_cVi 45 rfl lX11_100 dX11_orderValue_42 (lyl55 hL) (lys55 hL) (c_X11_isHand hL hi2) rfl rfl (Nat.le_of_ble_eq_true rfl) (fun r M1 hr1 => ?_)
    obtain ⟨rfl, hM1⟩ := hr1
    rw [hM1]
    simp (disch := omega) only [ev_ne]
    refine x_if_eq 48 59 rfl dX11_orderValue_45 (by decide) (fun c45 => ?_) (fun c45 => ?_)
    · have hq : ¬ (0 ≤ y ∧ y < M 57 75) := by split at c45 <;> omega
      refine x_iconst 60 rfl dX11_orderValue_59 (by decide) ?_
      refine x_reti dX11_orderValue_60 rfl ?_
      refine ⟨?_, rfl⟩
      simp only [mE]
      rw [if_pos trivial]
      repeat (first | rw [if_pos (by omega)] | rw [if_neg (by omega)])
      try rfl
    · have hq : 0 ≤ y ∧ y < M 57 75 := by split at c45 <;> omega
      refine x_aload_n 49 rfl dX11_orderValue_48 0 rfl rfl ?_
      refine x_getr 52 rfl fX11_24 dX11_orderValue_49 (lyl55 hL) (lys55 hL) (by decide) (57) rfl ?_
      refine x_iconst 53 rfl dX11_orderValue_52 (by decide) ?_
      refine x_iload_n 54 rfl dX11_orderValue_53 2 rfl rfl ?_
      refine y_iadd 55 rfl dX11_orderValue_54 (by omega) ?_
      refine x_iald 56 rfl dX11_orderValue_55 (lyl57 hL) (lys57 hL) (by omega) (by omega) ?_
      try simp (disch := omega) only [z_up_ne, z_up_nk, z_up_eq, z_mup_ne, z_mup_eq, Int.reduceToNat, Int.toNat_natCast, ev_22, ev_24, ev_o, ev_ne, ev_u22, ev_u24]
      rw [show ((3 : Int) + y).toNat = 3 + y.toNat by omega]
      refine x_goto 60 dX11_orderValue_56 (by decide) ?_
      refine x_reti dX11_orderValue_60 rfl ?_
      refine ⟨?_, rfl⟩
      simp only [mE]
      rw [if_pos trivial]
      repeat (first | rw [if_pos (by omega)] | rw [if_neg (by omega)])
      try rfl
  refine x_tsC (15) 61 1 dX11_orderValue_1 (by decide) (by decide) (by decide) rfl (by decide) (fun c1 => ?_) (fun c1_1 => ?_)
  · refine x_aload_n 62 rfl dX11_orderValue_61 0 rfl rfl ?_
    refine x_iload_n 63 rfl dX11_orderValue_62 2 rfl rfl ?_
    refine x_cVi 66 rfl lX11_129 dX11_orderValue_63 (lyl55 hL) (lys55 hL) (c_X11_isGround hL hi2) rfl rfl (Nat.le_of_ble_eq_true rfl) (fun r M1 hr1 => ?_)
    obtain ⟨rfl, hM1⟩ := hr1
    rw [hM1]
    simp (disch := omega) only [ev_ne]
    refine x_if_eq 69 81 rfl dX11_orderValue_66 (by decide) (fun c66 => ?_) (fun c66 => ?_)
    · have hq : ¬ (0 ≤ y ∧ y < M 57 76) := by split at c66 <;> omega
      refine x_iconst 82 rfl dX11_orderValue_81 (by decide) ?_
      refine x_reti dX11_orderValue_82 rfl ?_
      refine ⟨?_, rfl⟩
      simp only [mE]
      rw [if_pos trivial]
      repeat (first | rw [if_pos (by omega)] | rw [if_neg (by omega)])
      try rfl
    · have hq : 0 ≤ y ∧ y < M 57 76 := by split at c66 <;> omega
      refine x_aload_n 70 rfl dX11_orderValue_69 0 rfl rfl ?_
      refine x_getr 73 rfl fX11_24 dX11_orderValue_70 (lyl55 hL) (lys55 hL) (by decide) (57) rfl ?_
      refine x_bipush 75 rfl dX11_orderValue_73 (by decide) ?_
      refine x_iload_n 76 rfl dX11_orderValue_75 2 rfl rfl ?_
      refine y_iadd 77 rfl dX11_orderValue_76 (by omega) ?_
      refine x_iald 78 rfl dX11_orderValue_77 (lyl57 hL) (lys57 hL) (by omega) (by omega) ?_
      try simp (disch := omega) only [z_up_ne, z_up_nk, z_up_eq, z_mup_ne, z_mup_eq, Int.reduceToNat, Int.toNat_natCast, ev_22, ev_24, ev_o, ev_ne, ev_u22, ev_u24]
      rw [show ((19 : Int) + y).toNat = 19 + y.toNat by omega]
      refine x_goto 82 dX11_orderValue_78 (by decide) ?_
      refine x_reti dX11_orderValue_82 rfl ?_
      refine ⟨?_, rfl⟩
      simp only [mE]
      rw [if_pos trivial]
      repeat (first | rw [if_pos (by omega)] | rw [if_neg (by omega)])
      try rfl
  refine x_tsC (16) 83 2 dX11_orderValue_1 (by decide) (by decide) (by decide) rfl (by decide) (fun c1 => ?_) (fun c1_2 => ?_)
  · refine x_aload_n 84 rfl dX11_orderValue_83 0 rfl rfl ?_
    refine x_getr 87 rfl fX11_24 dX11_orderValue_84 (lyl55 hL) (lys55 hL) (by decide) (57) rfl ?_
    refine x_iconst 88 rfl dX11_orderValue_87 (by decide) ?_
    refine x_ialk 89 rfl dX11_orderValue_88 (lyl57 hL) (lys57 hL) 0 rfl (by decide) ?_
    try simp (disch := omega) only [z_up_ne, z_up_nk, z_up_eq, z_mup_ne, z_mup_eq, Int.reduceToNat, Int.toNat_natCast, ev_22, ev_24, ev_o, ev_ne, ev_u22, ev_u24]
    refine x_reti dX11_orderValue_89 rfl ?_
    refine ⟨?_, rfl⟩
    simp only [mE]
    rw [if_pos trivial]
    repeat (first | rw [if_pos (by omega)] | rw [if_neg (by omega)])
    try rfl
  refine x_tsC (17) 90 3 dX11_orderValue_1 (by decide) (by decide) (by decide) rfl (by decide) (fun c1 => ?_) (fun c1_3 => ?_)
  · refine x_aload_n 91 rfl dX11_orderValue_90 0 rfl rfl ?_
    refine x_getr 94 rfl fX11_24 dX11_orderValue_91 (lyl55 hL) (lys55 hL) (by decide) (57) rfl ?_
    refine x_iconst 95 rfl dX11_orderValue_94 (by decide) ?_
    refine x_ialk 96 rfl dX11_orderValue_95 (lyl57 hL) (lys57 hL) 2 rfl (by decide) ?_
    try simp (disch := omega) only [z_up_ne, z_up_nk, z_up_eq, z_mup_ne, z_mup_eq, Int.reduceToNat, Int.toNat_natCast, ev_22, ev_24, ev_o, ev_ne, ev_u22, ev_u24]
    refine x_reti dX11_orderValue_96 rfl ?_
    refine ⟨?_, rfl⟩
    simp only [mE]
    rw [if_pos trivial]
    repeat (first | rw [if_pos (by omega)] | rw [if_neg (by omega)])
    try rfl
  refine x_tsC (18) 97 4 dX11_orderValue_1 (by decide) (by decide) (by decide) rfl (by decide) (fun c1 => ?_) (fun c1_4 => ?_)
  · refine x_aload_n 98 rfl dX11_orderValue_97 0 rfl rfl ?_
    refine x_geti 101 rfl fX11_285 dX11_orderValue_98 (lyl55 hL) (lys55 hL) (by decide) ?_
    try simp (disch := omega) only [z_up_ne, z_up_nk, z_up_eq, z_mup_ne, z_mup_eq, Int.reduceToNat, Int.toNat_natCast, ev_22, ev_24, ev_o, ev_ne, ev_u22, ev_u24]
    refine x_reti dX11_orderValue_101 rfl ?_
    refine ⟨?_, rfl⟩
    simp only [mE]
    rw [if_pos trivial]
    repeat (first | rw [if_pos (by omega)] | rw [if_neg (by omega)])
    try rfl
  refine x_tsC (19) 102 5 dX11_orderValue_1 (by decide) (by decide) (by decide) rfl (by decide) (fun c1 => ?_) (fun c1_5 => ?_)
  · refine x_aload_n 103 rfl dX11_orderValue_102 0 rfl rfl ?_
    refine x_geti 106 rfl fX11_288 dX11_orderValue_103 (lyl55 hL) (lys55 hL) (by decide) ?_
    try simp (disch := omega) only [z_up_ne, z_up_nk, z_up_eq, z_mup_ne, z_mup_eq, Int.reduceToNat, Int.toNat_natCast, ev_22, ev_24, ev_o, ev_ne, ev_u22, ev_u24]
    refine x_reti dX11_orderValue_106 rfl ?_
    refine ⟨?_, rfl⟩
    simp only [mE]
    rw [if_pos trivial]
    repeat (first | rw [if_pos (by omega)] | rw [if_neg (by omega)])
    try rfl
  refine x_tsOut 107 dX11_orderValue_1 (by omega) (by decide) ?_
  refine x_aload_n 108 rfl dX11_orderValue_107 0 rfl rfl ?_
  refine x_getr 111 rfl fX11_24 dX11_orderValue_108 (lyl55 hL) (lys55 hL) (by decide) (57) rfl ?_
  refine x_iconst 112 rfl dX11_orderValue_111 (by decide) ?_
  refine x_ialk 113 rfl dX11_orderValue_112 (lyl57 hL) (lys57 hL) 1 rfl (by decide) ?_
  try simp (disch := omega) only [z_up_ne, z_up_nk, z_up_eq, z_mup_ne, z_mup_eq, Int.reduceToNat, Int.toNat_natCast, ev_22, ev_24, ev_o, ev_ne, ev_u22, ev_u24]
  refine x_reti dX11_orderValue_113 rfl ?_
  refine ⟨?_, rfl⟩
  simp only [mE]
  rw [if_pos trivial]
  repeat (first | rw [if_pos (by omega)] | rw [if_neg (by omega)])
  try rfl

set_option maxRecDepth 100000 in
set_option maxHeartbeats 4000000 in
theorem c_X11_part_n {d sz : Nat} {S : zSh} {M : zMem} (hL : LY S sz) {B n : Nat} {c v : Nat → Int} (hM : EVM M B n c v) (hT : TK c v n) {live b : Int} (hlv : live = 0 ∨ live = 1) (hb : b = 0 ∨ b = 1) {o : Bool} (hO : M 55 25 = (if o = true then 1 else 0)) (hi : KI (M 57)) (hE : mEb M o) {s : gS} (hs : s.1 < n) (h50 : c s.1 = 50) : zX (d + 2) 0 0 mX11_partOf [zn 55, zi live] sz S (ev M ((B + s.1 : Nat) : Int) b) (zJ sz S (fun r M' => r = (if live = 1 ∧ b = 0 then v s.1 else 0) ∧ M' = ev M ((B + (s.1 + 1) : Nat) : Int) b)) := by
  have hM2 := hM.2.1
  have hn := hT.1
  refine zX_of pl_RX11 [some (zn 55), some (zi live), none, none] 2 rfl rfl ?_
  refine x_aload_n 1 rfl dX11_partOf_0 0 rfl rfl ?_
  refine x_bipush 3 rfl dX11_partOf_1 (by decide) ?_
  refine x_cSi 6 rfl lX11_211 dX11_partOf_3 (c_X11_signOf (by decide)) rfl rfl (Nat.le_of_ble_eq_true rfl) (fun r M1 hr1 => ?_)
  obtain ⟨rfl, hM1⟩ := hr1
  rw [hM1]
  refine x_cVi 9 rfl lX11_273 dX11_partOf_6 (lyl55 hL) (lys55 hL) (c_X11_passes0 hL hM hT (Nat.le_of_lt hs)) rfl rfl (Nat.le_of_ble_eq_true rfl) (fun r M1 hr1 => ?_)
  rcases hr1 with ⟨hx, rfl, hM1⟩ | ⟨hx, rfl, hM1⟩
  · exfalso; omega
  · rw [hM1]
    refine x_if_eq 12 30 rfl dX11_partOf_9 (by decide) (fun c9 => ?_) (fun c9 => ?_)
    · refine x_aload_n 31 rfl dX11_partOf_30 0 rfl rfl ?_
      refine x_aload_n 32 rfl dX11_partOf_31 0 rfl rfl ?_
      refine x_geti 35 rfl fX11_249 dX11_partOf_32 (lyl55 hL) (lys55 hL) (by decide) ?_
      try simp (disch := omega) only [z_up_ne, z_up_nk, z_up_eq, z_mup_ne, z_mup_eq, Int.reduceToNat, Int.toNat_natCast, ev_22, ev_24, ev_o, ev_ne, ev_u22, ev_u24]
      refine x_cVi 38 rfl lX11_252 dX11_partOf_35 (lyl55 hL) (lys55 hL) (c_X11_codeAt hL hM hT (Nat.le_of_lt hs)) rfl rfl (Nat.le_of_ble_eq_true rfl) (fun r M1 hr1 => ?_)
      obtain ⟨rfl, hM1⟩ := hr1
      rw [hM1]
      refine y_istore_n 39 rfl dX11_partOf_38 rfl rfl (ls' := [_, _, _, _]) rfl (by decide) ?_
      refine x_iconst 40 rfl dX11_partOf_39 (by decide) ?_
      refine y_istore_n 41 rfl dX11_partOf_40 rfl rfl (ls' := [_, _, _, _]) rfl (by decide) ?_
      refine x_aload_n 42 rfl dX11_partOf_41 0 rfl rfl ?_
      refine x_dupr 43 rfl dX11_partOf_42 ?_
      refine x_geti 46 rfl fX11_249 dX11_partOf_43 (lyl55 hL) (lys55 hL) (by decide) ?_
      try simp (disch := omega) only [z_up_ne, z_up_nk, z_up_eq, z_mup_ne, z_mup_eq, Int.reduceToNat, Int.toNat_natCast, ev_22, ev_24, ev_o, ev_ne, ev_u22, ev_u24]
      refine x_iconst 47 rfl dX11_partOf_46 (by decide) ?_
      refine y_iadd 48 rfl dX11_partOf_47 (by omega) ?_
      refine x_puti 51 rfl fX11_249 dX11_partOf_48 (lyl55 hL) (lys55 hL) (by decide) ?_
      try simp only [ev_22, ev_24, ev_o, ev_ne, ev_u22, ev_u24]
      rw [ev_ad]
      refine x_aload_n 52 rfl dX11_partOf_51 0 rfl rfl ?_
      refine x_getz 55 rfl fX11_279 dX11_partOf_52 (lyl55 hL) (lys55 hL) (by decide) ?_
      try simp (disch := omega) only [z_up_ne, z_up_nk, z_up_eq, z_mup_ne, z_mup_eq, Int.reduceToNat, Int.toNat_natCast, ev_22, ev_24, ev_o, ev_ne, ev_u22, ev_u24]
      refine x_if_eq 58 94 rfl dX11_partOf_55 (by decide) (fun c55 => ?_) (fun c55 => ?_)
      · refine x_iload_n 95 rfl dX11_partOf_94 1 rfl rfl ?_
        refine x_if_eq 98 105 rfl dX11_partOf_95 (by decide) (fun c95 => ?_) (fun c95 => ?_)
        · refine x_lconst (x := 0) 106 rfl dX11_partOf_105 rfl ?_
          refine x_retj dX11_partOf_106 rfl ?_
          exact ⟨(if_neg (by omega)).symm, rfl⟩
        · refine x_aload_n 99 rfl dX11_partOf_98 0 rfl rfl ?_
          refine x_getz 102 rfl fX11_259 dX11_partOf_99 (lyl55 hL) (lys55 hL) (by decide) ?_
          try simp (disch := omega) only [z_up_ne, z_up_nk, z_up_eq, z_mup_ne, z_mup_eq, Int.reduceToNat, Int.toNat_natCast, ev_22, ev_24, ev_o, ev_ne, ev_u22, ev_u24]
          refine x_if_eq 105 107 rfl dX11_partOf_102 (by decide) (fun c102 => ?_) (fun c102 => ?_)
          · refine x_iload_n 108 rfl dX11_partOf_107 2 rfl rfl ?_
            refine x_bipush 110 rfl dX11_partOf_108 (by decide) ?_
            refine x_icmp_ne 113 130 rfl dX11_partOf_110 (by decide) (fun c110 => ?_) (fun c110 => ?_)
            · exfalso; omega
            · refine x_aload_n 114 rfl dX11_partOf_113 0 rfl rfl ?_
              refine x_getr 117 rfl fX11_24 dX11_partOf_114 (lyl55 hL) (lys55 hL) (by decide) (57) rfl ?_
              refine x_sipush 120 rfl dX11_partOf_117 (by decide) ?_
              refine x_aload_n 121 rfl dX11_partOf_120 0 rfl rfl ?_
              refine x_geti 124 rfl fX11_249 dX11_partOf_121 (lyl55 hL) (lys55 hL) (by decide) ?_
              try simp (disch := omega) only [z_up_ne, z_up_nk, z_up_eq, z_mup_ne, z_mup_eq, Int.reduceToNat, Int.toNat_natCast, ev_22, ev_24, ev_o, ev_ne, ev_u22, ev_u24]
              refine y_iadd 125 rfl dX11_partOf_124 (by omega) ?_
              refine x_iconst 126 rfl dX11_partOf_125 (by decide) ?_
              refine y_isub 127 rfl dX11_partOf_126 (by omega) ?_
              refine x_iald 128 rfl dX11_partOf_127 (lyl57 hL) (lys57 hL) (by omega) (by omega) ?_
              try simp (disch := omega) only [z_up_ne, z_up_nk, z_up_eq, z_mup_ne, z_mup_eq, Int.reduceToNat, Int.toNat_natCast, ev_22, ev_24, ev_o, ev_ne, ev_u22, ev_u24]
              rw [show ((2887 : Int) + ((B + (s.1 + 1) : Nat) : Int) - 1).toNat = 2887 + (B + s.1) by omega, hM.2.2.2 s.1 hs]
              refine x_i2l 129 rfl dX11_partOf_128 ?_
              refine x_retj dX11_partOf_129 rfl ?_
              exact ⟨(if_pos (by omega)).symm, rfl⟩
          · refine x_lconst (x := 0) 106 rfl dX11_partOf_105 rfl ?_
            refine x_retj dX11_partOf_106 rfl ?_
            exact ⟨(if_neg (by omega)).symm, rfl⟩
      · refine x_iload_n 59 rfl dX11_partOf_58 2 rfl rfl ?_
        refine x_bipush 61 rfl dX11_partOf_59 (by decide) ?_
        refine x_icmp_eq 64 70 rfl dX11_partOf_61 (by decide) (fun c61 => ?_) (fun c61 => ?_)
        · exfalso; omega
        · refine x_iload_n 65 rfl dX11_partOf_64 2 rfl rfl ?_
          refine x_bipush 67 rfl dX11_partOf_65 (by decide) ?_
          refine x_icmp_ne 70 94 rfl dX11_partOf_67 (by decide) (fun c67 => ?_) (fun c67 => ?_)
          · refine x_iload_n 95 rfl dX11_partOf_94 1 rfl rfl ?_
            refine x_if_eq 98 105 rfl dX11_partOf_95 (by decide) (fun c95 => ?_) (fun c95 => ?_)
            · refine x_lconst (x := 0) 106 rfl dX11_partOf_105 rfl ?_
              refine x_retj dX11_partOf_106 rfl ?_
              exact ⟨(if_neg (by omega)).symm, rfl⟩
            · refine x_aload_n 99 rfl dX11_partOf_98 0 rfl rfl ?_
              refine x_getz 102 rfl fX11_259 dX11_partOf_99 (lyl55 hL) (lys55 hL) (by decide) ?_
              try simp (disch := omega) only [z_up_ne, z_up_nk, z_up_eq, z_mup_ne, z_mup_eq, Int.reduceToNat, Int.toNat_natCast, ev_22, ev_24, ev_o, ev_ne, ev_u22, ev_u24]
              refine x_if_eq 105 107 rfl dX11_partOf_102 (by decide) (fun c102 => ?_) (fun c102 => ?_)
              · refine x_iload_n 108 rfl dX11_partOf_107 2 rfl rfl ?_
                refine x_bipush 110 rfl dX11_partOf_108 (by decide) ?_
                refine x_icmp_ne 113 130 rfl dX11_partOf_110 (by decide) (fun c110 => ?_) (fun c110 => ?_)
                · exfalso; omega
                · refine x_aload_n 114 rfl dX11_partOf_113 0 rfl rfl ?_
                  refine x_getr 117 rfl fX11_24 dX11_partOf_114 (lyl55 hL) (lys55 hL) (by decide) (57) rfl ?_
                  refine x_sipush 120 rfl dX11_partOf_117 (by decide) ?_
                  refine x_aload_n 121 rfl dX11_partOf_120 0 rfl rfl ?_
                  refine x_geti 124 rfl fX11_249 dX11_partOf_121 (lyl55 hL) (lys55 hL) (by decide) ?_
                  try simp (disch := omega) only [z_up_ne, z_up_nk, z_up_eq, z_mup_ne, z_mup_eq, Int.reduceToNat, Int.toNat_natCast, ev_22, ev_24, ev_o, ev_ne, ev_u22, ev_u24]
                  refine y_iadd 125 rfl dX11_partOf_124 (by omega) ?_
                  refine x_iconst 126 rfl dX11_partOf_125 (by decide) ?_
                  refine y_isub 127 rfl dX11_partOf_126 (by omega) ?_
                  refine x_iald 128 rfl dX11_partOf_127 (lyl57 hL) (lys57 hL) (by omega) (by omega) ?_
                  try simp (disch := omega) only [z_up_ne, z_up_nk, z_up_eq, z_mup_ne, z_mup_eq, Int.reduceToNat, Int.toNat_natCast, ev_22, ev_24, ev_o, ev_ne, ev_u22, ev_u24]
                  rw [show ((2887 : Int) + ((B + (s.1 + 1) : Nat) : Int) - 1).toNat = 2887 + (B + s.1) by omega, hM.2.2.2 s.1 hs]
                  refine x_i2l 129 rfl dX11_partOf_128 ?_
                  refine x_retj dX11_partOf_129 rfl ?_
                  exact ⟨(if_pos (by omega)).symm, rfl⟩
              · refine x_lconst (x := 0) 106 rfl dX11_partOf_105 rfl ?_
                refine x_retj dX11_partOf_106 rfl ?_
                exact ⟨(if_neg (by omega)).symm, rfl⟩
          · exfalso; omega
    · exfalso; omega

set_option maxRecDepth 100000 in
set_option maxHeartbeats 4000000 in
theorem c_X11_part_i {d sz : Nat} {S : zSh} {M : zMem} (hL : LY S sz) {B n : Nat} {c v : Nat → Int} (hM : EVM M B n c v) (hT : TK c v n) {live b : Int} (hlv : live = 0 ∨ live = 1) (hb : b = 0 ∨ b = 1) {o : Bool} (hO : M 55 25 = (if o = true then 1 else 0)) (hi : KI (M 57)) (hE : mEb M o) {s : gS} (hs : s.1 < n) (hs1 : s.1 + 1 < n) (ho : o = true) (h14 : c s.1 = 14 ∨ c s.1 = 15) : zX (d + 3) 0 0 mX11_partOf [zn 55, zi live] sz S (ev M ((B + s.1 : Nat) : Int) b) (zJ sz S (fun r M' => r = (if live = 1 ∧ b = 0 then mE M o (c s.1) (v (s.1 + 1)) else 0) ∧ M' = ev M ((B + (s.1 + 2) : Nat) : Int) b)) := by
  subst ho
  rw [if_pos rfl] at hO
  have hM2 := hM.2.1
  have hn := hT.1
  refine zX_of pl_RX11 [some (zn 55), some (zi live), none, none] 2 rfl rfl ?_
  refine x_aload_n 1 rfl dX11_partOf_0 0 rfl rfl ?_
  refine x_bipush 3 rfl dX11_partOf_1 (by decide) ?_
  refine x_cSi 6 rfl lX11_211 dX11_partOf_3 (c_X11_signOf (by decide)) rfl rfl (Nat.le_of_ble_eq_true rfl) (fun r M1 hr1 => ?_)
  obtain ⟨rfl, hM1⟩ := hr1
  rw [hM1]
  refine x_cVi 9 rfl lX11_273 dX11_partOf_6 (lyl55 hL) (lys55 hL) (c_X11_passes0 hL hM hT (Nat.le_of_lt hs)) rfl rfl (Nat.le_of_ble_eq_true rfl) (fun r M1 hr1 => ?_)
  rcases hr1 with ⟨hx, rfl, hM1⟩ | ⟨hx, rfl, hM1⟩
  · exfalso; omega
  · rw [hM1]
    refine x_if_eq 12 30 rfl dX11_partOf_9 (by decide) (fun c9 => ?_) (fun c9 => ?_)
    · refine x_aload_n 31 rfl dX11_partOf_30 0 rfl rfl ?_
      refine x_aload_n 32 rfl dX11_partOf_31 0 rfl rfl ?_
      refine x_geti 35 rfl fX11_249 dX11_partOf_32 (lyl55 hL) (lys55 hL) (by decide) ?_
      try simp (disch := omega) only [z_up_ne, z_up_nk, z_up_eq, z_mup_ne, z_mup_eq, Int.reduceToNat, Int.toNat_natCast, ev_22, ev_24, ev_o, ev_ne, ev_u22, ev_u24]
      refine x_cVi 38 rfl lX11_252 dX11_partOf_35 (lyl55 hL) (lys55 hL) (c_X11_codeAt hL hM hT (Nat.le_of_lt hs)) rfl rfl (Nat.le_of_ble_eq_true rfl) (fun r M1 hr1 => ?_)
      obtain ⟨rfl, hM1⟩ := hr1
      rw [hM1]
      refine y_istore_n 39 rfl dX11_partOf_38 rfl rfl (ls' := [_, _, _, _]) rfl (by decide) ?_
      refine x_iconst 40 rfl dX11_partOf_39 (by decide) ?_
      refine y_istore_n 41 rfl dX11_partOf_40 rfl rfl (ls' := [_, _, _, _]) rfl (by decide) ?_
      refine x_aload_n 42 rfl dX11_partOf_41 0 rfl rfl ?_
      refine x_dupr 43 rfl dX11_partOf_42 ?_
      refine x_geti 46 rfl fX11_249 dX11_partOf_43 (lyl55 hL) (lys55 hL) (by decide) ?_
      try simp (disch := omega) only [z_up_ne, z_up_nk, z_up_eq, z_mup_ne, z_mup_eq, Int.reduceToNat, Int.toNat_natCast, ev_22, ev_24, ev_o, ev_ne, ev_u22, ev_u24]
      refine x_iconst 47 rfl dX11_partOf_46 (by decide) ?_
      refine y_iadd 48 rfl dX11_partOf_47 (by omega) ?_
      refine x_puti 51 rfl fX11_249 dX11_partOf_48 (lyl55 hL) (lys55 hL) (by decide) ?_
      try simp only [ev_22, ev_24, ev_o, ev_ne, ev_u22, ev_u24]
      rw [ev_ad]
      refine x_aload_n 52 rfl dX11_partOf_51 0 rfl rfl ?_
      refine x_getz 55 rfl fX11_279 dX11_partOf_52 (lyl55 hL) (lys55 hL) (by decide) ?_
      try simp (disch := omega) only [z_up_ne, z_up_nk, z_up_eq, z_mup_ne, z_mup_eq, Int.reduceToNat, Int.toNat_natCast, ev_22, ev_24, ev_o, ev_ne, ev_u22, ev_u24]
      refine x_if_eq 58 94 rfl dX11_partOf_55 (by decide) (fun c55 => ?_) (fun c55 => ?_)
      · exfalso; omega
      · refine x_iload_n 59 rfl dX11_partOf_58 2 rfl rfl ?_
        refine x_bipush 61 rfl dX11_partOf_59 (by decide) ?_
        refine x_icmp_eq 64 70 rfl dX11_partOf_61 (by decide) (fun c61 => ?_) (fun c61 => ?_)
        · refine x_aload_n 71 rfl dX11_partOf_70 0 rfl rfl ?_
          refine x_getr 74 rfl fX11_24 dX11_partOf_71 (lyl55 hL) (lys55 hL) (by decide) (57) rfl ?_
          refine x_sipush 77 rfl dX11_partOf_74 (by decide) ?_
          refine x_aload_n 78 rfl dX11_partOf_77 0 rfl rfl ?_
          refine x_geti 81 rfl fX11_249 dX11_partOf_78 (lyl55 hL) (lys55 hL) (by decide) ?_
          try simp (disch := omega) only [z_up_ne, z_up_nk, z_up_eq, z_mup_ne, z_mup_eq, Int.reduceToNat, Int.toNat_natCast, ev_22, ev_24, ev_o, ev_ne, ev_u22, ev_u24]
          refine y_iadd 82 rfl dX11_partOf_81 (by omega) ?_
          refine x_iald 83 rfl dX11_partOf_82 (lyl57 hL) (lys57 hL) (by omega) (by omega) ?_
          try simp (disch := omega) only [z_up_ne, z_up_nk, z_up_eq, z_mup_ne, z_mup_eq, Int.reduceToNat, Int.toNat_natCast, ev_22, ev_24, ev_o, ev_ne, ev_u22, ev_u24]
          rw [show ((2887 : Int) + ((B + (s.1 + 1) : Nat) : Int)).toNat = 2887 + (B + (s.1 + 1)) by omega, hM.2.2.2 (s.1 + 1) hs1]
          refine y_istore_n 84 rfl dX11_partOf_83 rfl rfl (ls' := [_, _, _, _]) rfl (by decide) ?_
          refine x_aload_n 85 rfl dX11_partOf_84 0 rfl rfl ?_
          refine x_dupr 86 rfl dX11_partOf_85 ?_
          refine x_geti 89 rfl fX11_249 dX11_partOf_86 (lyl55 hL) (lys55 hL) (by decide) ?_
          try simp (disch := omega) only [z_up_ne, z_up_nk, z_up_eq, z_mup_ne, z_mup_eq, Int.reduceToNat, Int.toNat_natCast, ev_22, ev_24, ev_o, ev_ne, ev_u22, ev_u24]
          refine x_iconst 90 rfl dX11_partOf_89 (by decide) ?_
          refine y_iadd 91 rfl dX11_partOf_90 (by omega) ?_
          refine x_puti 94 rfl fX11_249 dX11_partOf_91 (lyl55 hL) (lys55 hL) (by decide) ?_
          try simp only [ev_22, ev_24, ev_o, ev_ne, ev_u22, ev_u24]
          rw [ev_ad]
          refine x_iload_n 95 rfl dX11_partOf_94 1 rfl rfl ?_
          refine x_if_eq 98 105 rfl dX11_partOf_95 (by decide) (fun c95 => ?_) (fun c95 => ?_)
          · refine x_lconst (x := 0) 106 rfl dX11_partOf_105 rfl ?_
            refine x_retj dX11_partOf_106 rfl ?_
            exact ⟨(if_neg (by omega)).symm, rfl⟩
          · refine x_aload_n 99 rfl dX11_partOf_98 0 rfl rfl ?_
            refine x_getz 102 rfl fX11_259 dX11_partOf_99 (lyl55 hL) (lys55 hL) (by decide) ?_
            try simp (disch := omega) only [z_up_ne, z_up_nk, z_up_eq, z_mup_ne, z_mup_eq, Int.reduceToNat, Int.toNat_natCast, ev_22, ev_24, ev_o, ev_ne, ev_u22, ev_u24]
            refine x_if_eq 105 107 rfl dX11_partOf_102 (by decide) (fun c102 => ?_) (fun c102 => ?_)
            · refine x_iload_n 108 rfl dX11_partOf_107 2 rfl rfl ?_
              refine x_bipush 110 rfl dX11_partOf_108 (by decide) ?_
              refine x_icmp_ne 113 130 rfl dX11_partOf_110 (by decide) (fun c110 => ?_) (fun c110 => ?_)
              · refine x_aload_n 131 rfl dX11_partOf_130 0 rfl rfl ?_
                refine x_getz 134 rfl fX11_279 dX11_partOf_131 (lyl55 hL) (lys55 hL) (by decide) ?_
                try simp (disch := omega) only [z_up_ne, z_up_nk, z_up_eq, z_mup_ne, z_mup_eq, Int.reduceToNat, Int.toNat_natCast, ev_22, ev_24, ev_o, ev_ne, ev_u22, ev_u24]
                refine x_if_eq 137 147 rfl dX11_partOf_134 (by decide) (fun c134 => ?_) (fun c134 => ?_)
                · exfalso; omega
                · refine x_aload_n 138 rfl dX11_partOf_137 0 rfl rfl ?_
                  refine x_iload_n 139 rfl dX11_partOf_138 2 rfl rfl ?_
                  refine x_iload_n 140 rfl dX11_partOf_139 3 rfl rfl ?_
                  refine x_cVi 143 rfl lX11_282 dX11_partOf_140 (lyl55 hL) (lys55 hL) (c_X11_orderValue hL hi (by omega)) rfl rfl (Nat.le_of_ble_eq_true rfl) (fun r M1 hr1 => ?_)
                  obtain ⟨rfl, hM1⟩ := hr1
                  rw [hM1]
                  refine x_i2l 144 rfl dX11_partOf_143 ?_
                  refine x_goto 157 dX11_partOf_144 (by decide) ?_
                  refine x_retj dX11_partOf_157 rfl ?_
                  exact ⟨(if_pos (by omega)).symm, rfl⟩
              · exfalso; omega
            · refine x_lconst (x := 0) 106 rfl dX11_partOf_105 rfl ?_
              refine x_retj dX11_partOf_106 rfl ?_
              exact ⟨(if_neg (by omega)).symm, rfl⟩
        · refine x_iload_n 65 rfl dX11_partOf_64 2 rfl rfl ?_
          refine x_bipush 67 rfl dX11_partOf_65 (by decide) ?_
          refine x_icmp_ne 70 94 rfl dX11_partOf_67 (by decide) (fun c67 => ?_) (fun c67 => ?_)
          · exfalso; omega
          · refine x_aload_n 71 rfl dX11_partOf_70 0 rfl rfl ?_
            refine x_getr 74 rfl fX11_24 dX11_partOf_71 (lyl55 hL) (lys55 hL) (by decide) (57) rfl ?_
            refine x_sipush 77 rfl dX11_partOf_74 (by decide) ?_
            refine x_aload_n 78 rfl dX11_partOf_77 0 rfl rfl ?_
            refine x_geti 81 rfl fX11_249 dX11_partOf_78 (lyl55 hL) (lys55 hL) (by decide) ?_
            try simp (disch := omega) only [z_up_ne, z_up_nk, z_up_eq, z_mup_ne, z_mup_eq, Int.reduceToNat, Int.toNat_natCast, ev_22, ev_24, ev_o, ev_ne, ev_u22, ev_u24]
            refine y_iadd 82 rfl dX11_partOf_81 (by omega) ?_
            refine x_iald 83 rfl dX11_partOf_82 (lyl57 hL) (lys57 hL) (by omega) (by omega) ?_
            try simp (disch := omega) only [z_up_ne, z_up_nk, z_up_eq, z_mup_ne, z_mup_eq, Int.reduceToNat, Int.toNat_natCast, ev_22, ev_24, ev_o, ev_ne, ev_u22, ev_u24]
            rw [show ((2887 : Int) + ((B + (s.1 + 1) : Nat) : Int)).toNat = 2887 + (B + (s.1 + 1)) by omega, hM.2.2.2 (s.1 + 1) hs1]
            refine y_istore_n 84 rfl dX11_partOf_83 rfl rfl (ls' := [_, _, _, _]) rfl (by decide) ?_
            refine x_aload_n 85 rfl dX11_partOf_84 0 rfl rfl ?_
            refine x_dupr 86 rfl dX11_partOf_85 ?_
            refine x_geti 89 rfl fX11_249 dX11_partOf_86 (lyl55 hL) (lys55 hL) (by decide) ?_
            try simp (disch := omega) only [z_up_ne, z_up_nk, z_up_eq, z_mup_ne, z_mup_eq, Int.reduceToNat, Int.toNat_natCast, ev_22, ev_24, ev_o, ev_ne, ev_u22, ev_u24]
            refine x_iconst 90 rfl dX11_partOf_89 (by decide) ?_
            refine y_iadd 91 rfl dX11_partOf_90 (by omega) ?_
            refine x_puti 94 rfl fX11_249 dX11_partOf_91 (lyl55 hL) (lys55 hL) (by decide) ?_
            try simp only [ev_22, ev_24, ev_o, ev_ne, ev_u22, ev_u24]
            rw [ev_ad]
            refine x_iload_n 95 rfl dX11_partOf_94 1 rfl rfl ?_
            refine x_if_eq 98 105 rfl dX11_partOf_95 (by decide) (fun c95 => ?_) (fun c95 => ?_)
            · refine x_lconst (x := 0) 106 rfl dX11_partOf_105 rfl ?_
              refine x_retj dX11_partOf_106 rfl ?_
              exact ⟨(if_neg (by omega)).symm, rfl⟩
            · refine x_aload_n 99 rfl dX11_partOf_98 0 rfl rfl ?_
              refine x_getz 102 rfl fX11_259 dX11_partOf_99 (lyl55 hL) (lys55 hL) (by decide) ?_
              try simp (disch := omega) only [z_up_ne, z_up_nk, z_up_eq, z_mup_ne, z_mup_eq, Int.reduceToNat, Int.toNat_natCast, ev_22, ev_24, ev_o, ev_ne, ev_u22, ev_u24]
              refine x_if_eq 105 107 rfl dX11_partOf_102 (by decide) (fun c102 => ?_) (fun c102 => ?_)
              · refine x_iload_n 108 rfl dX11_partOf_107 2 rfl rfl ?_
                refine x_bipush 110 rfl dX11_partOf_108 (by decide) ?_
                refine x_icmp_ne 113 130 rfl dX11_partOf_110 (by decide) (fun c110 => ?_) (fun c110 => ?_)
                · refine x_aload_n 131 rfl dX11_partOf_130 0 rfl rfl ?_
                  refine x_getz 134 rfl fX11_279 dX11_partOf_131 (lyl55 hL) (lys55 hL) (by decide) ?_
                  try simp (disch := omega) only [z_up_ne, z_up_nk, z_up_eq, z_mup_ne, z_mup_eq, Int.reduceToNat, Int.toNat_natCast, ev_22, ev_24, ev_o, ev_ne, ev_u22, ev_u24]
                  refine x_if_eq 137 147 rfl dX11_partOf_134 (by decide) (fun c134 => ?_) (fun c134 => ?_)
                  · exfalso; omega
                  · refine x_aload_n 138 rfl dX11_partOf_137 0 rfl rfl ?_
                    refine x_iload_n 139 rfl dX11_partOf_138 2 rfl rfl ?_
                    refine x_iload_n 140 rfl dX11_partOf_139 3 rfl rfl ?_
                    refine x_cVi 143 rfl lX11_282 dX11_partOf_140 (lyl55 hL) (lys55 hL) (c_X11_orderValue hL hi (by omega)) rfl rfl (Nat.le_of_ble_eq_true rfl) (fun r M1 hr1 => ?_)
                    obtain ⟨rfl, hM1⟩ := hr1
                    rw [hM1]
                    refine x_i2l 144 rfl dX11_partOf_143 ?_
                    refine x_goto 157 dX11_partOf_144 (by decide) ?_
                    refine x_retj dX11_partOf_157 rfl ?_
                    exact ⟨(if_pos (by omega)).symm, rfl⟩
                · exfalso; omega
              · refine x_lconst (x := 0) 106 rfl dX11_partOf_105 rfl ?_
                refine x_retj dX11_partOf_106 rfl ?_
                exact ⟨(if_neg (by omega)).symm, rfl⟩
    · exfalso; omega

set_option maxRecDepth 100000 in
set_option maxHeartbeats 4000000 in
theorem c_X11_part_w {d sz : Nat} {S : zSh} {M : zMem} (hL : LY S sz) {B n : Nat} {c v : Nat → Int} (hM : EVM M B n c v) (hT : TK c v n) {live b : Int} (hlv : live = 0 ∨ live = 1) (hb : b = 0 ∨ b = 1) {o : Bool} (hO : M 55 25 = (if o = true then 1 else 0)) (hi : KI (M 57)) (hE : mEb M o) {s : gS} (hs : s.1 < n) (h1 : ¬ (o = true ∧ (c s.1 = 14 ∨ c s.1 = 15))) (h2 : (if o = true then 14 else 8) ≤ c s.1 ∧ c s.1 ≤ (if o = true then 20 else 17)) : zX (d + 3) 0 0 mX11_partOf [zn 55, zi live] sz S (ev M ((B + s.1 : Nat) : Int) b) (zJ sz S (fun r M' => r = (if live = 1 ∧ b = 0 then mE M o (c s.1) 0 else 0) ∧ M' = ev M ((B + (s.1 + 1) : Nat) : Int) b)) := by
  have h3 : (M 55 25 = 1 ∧ o = true ∧ 16 ≤ c s.1 ∧ c s.1 ≤ 20) ∨ (M 55 25 = 0 ∧ o = false ∧ 8 ≤ c s.1 ∧ c s.1 ≤ 17) := by
    cases o with
    | true => left; simp at h1 h2 hO; exact ⟨hO, rfl, by omega, by omega⟩
    | false => right; simp at h2 hO; exact ⟨hO, rfl, by omega, by omega⟩
  have hM2 := hM.2.1
  have hn := hT.1
  refine zX_of pl_RX11 [some (zn 55), some (zi live), none, none] 2 rfl rfl ?_
  refine x_aload_n 1 rfl dX11_partOf_0 0 rfl rfl ?_
  refine x_bipush 3 rfl dX11_partOf_1 (by decide) ?_
  refine x_cSi 6 rfl lX11_211 dX11_partOf_3 (c_X11_signOf (by decide)) rfl rfl (Nat.le_of_ble_eq_true rfl) (fun r M1 hr1 => ?_)
  obtain ⟨rfl, hM1⟩ := hr1
  rw [hM1]
  refine x_cVi 9 rfl lX11_273 dX11_partOf_6 (lyl55 hL) (lys55 hL) (c_X11_passes0 hL hM hT (Nat.le_of_lt hs)) rfl rfl (Nat.le_of_ble_eq_true rfl) (fun r M1 hr1 => ?_)
  rcases hr1 with ⟨hx, rfl, hM1⟩ | ⟨hx, rfl, hM1⟩
  · exfalso; omega
  · rw [hM1]
    refine x_if_eq 12 30 rfl dX11_partOf_9 (by decide) (fun c9 => ?_) (fun c9 => ?_)
    · refine x_aload_n 31 rfl dX11_partOf_30 0 rfl rfl ?_
      refine x_aload_n 32 rfl dX11_partOf_31 0 rfl rfl ?_
      refine x_geti 35 rfl fX11_249 dX11_partOf_32 (lyl55 hL) (lys55 hL) (by decide) ?_
      try simp (disch := omega) only [z_up_ne, z_up_nk, z_up_eq, z_mup_ne, z_mup_eq, Int.reduceToNat, Int.toNat_natCast, ev_22, ev_24, ev_o, ev_ne, ev_u22, ev_u24]
      refine x_cVi 38 rfl lX11_252 dX11_partOf_35 (lyl55 hL) (lys55 hL) (c_X11_codeAt hL hM hT (Nat.le_of_lt hs)) rfl rfl (Nat.le_of_ble_eq_true rfl) (fun r M1 hr1 => ?_)
      obtain ⟨rfl, hM1⟩ := hr1
      rw [hM1]
      refine y_istore_n 39 rfl dX11_partOf_38 rfl rfl (ls' := [_, _, _, _]) rfl (by decide) ?_
      refine x_iconst 40 rfl dX11_partOf_39 (by decide) ?_
      refine y_istore_n 41 rfl dX11_partOf_40 rfl rfl (ls' := [_, _, _, _]) rfl (by decide) ?_
      refine x_aload_n 42 rfl dX11_partOf_41 0 rfl rfl ?_
      refine x_dupr 43 rfl dX11_partOf_42 ?_
      refine x_geti 46 rfl fX11_249 dX11_partOf_43 (lyl55 hL) (lys55 hL) (by decide) ?_
      try simp (disch := omega) only [z_up_ne, z_up_nk, z_up_eq, z_mup_ne, z_mup_eq, Int.reduceToNat, Int.toNat_natCast, ev_22, ev_24, ev_o, ev_ne, ev_u22, ev_u24]
      refine x_iconst 47 rfl dX11_partOf_46 (by decide) ?_
      refine y_iadd 48 rfl dX11_partOf_47 (by omega) ?_
      refine x_puti 51 rfl fX11_249 dX11_partOf_48 (lyl55 hL) (lys55 hL) (by decide) ?_
      try simp only [ev_22, ev_24, ev_o, ev_ne, ev_u22, ev_u24]
      rw [ev_ad]
      refine x_aload_n 52 rfl dX11_partOf_51 0 rfl rfl ?_
      refine x_getz 55 rfl fX11_279 dX11_partOf_52 (lyl55 hL) (lys55 hL) (by decide) ?_
      try simp (disch := omega) only [z_up_ne, z_up_nk, z_up_eq, z_mup_ne, z_mup_eq, Int.reduceToNat, Int.toNat_natCast, ev_22, ev_24, ev_o, ev_ne, ev_u22, ev_u24]
      refine x_if_eq 58 94 rfl dX11_partOf_55 (by decide) (fun c55 => ?_) (fun c55 => ?_)
      · refine x_iload_n 95 rfl dX11_partOf_94 1 rfl rfl ?_
        refine x_if_eq 98 105 rfl dX11_partOf_95 (by decide) (fun c95 => ?_) (fun c95 => ?_)
        · refine x_lconst (x := 0) 106 rfl dX11_partOf_105 rfl ?_
          refine x_retj dX11_partOf_106 rfl ?_
          exact ⟨(if_neg (by omega)).symm, rfl⟩
        · refine x_aload_n 99 rfl dX11_partOf_98 0 rfl rfl ?_
          refine x_getz 102 rfl fX11_259 dX11_partOf_99 (lyl55 hL) (lys55 hL) (by decide) ?_
          try simp (disch := omega) only [z_up_ne, z_up_nk, z_up_eq, z_mup_ne, z_mup_eq, Int.reduceToNat, Int.toNat_natCast, ev_22, ev_24, ev_o, ev_ne, ev_u22, ev_u24]
          refine x_if_eq 105 107 rfl dX11_partOf_102 (by decide) (fun c102 => ?_) (fun c102 => ?_)
          · refine x_iload_n 108 rfl dX11_partOf_107 2 rfl rfl ?_
            refine x_bipush 110 rfl dX11_partOf_108 (by decide) ?_
            refine x_icmp_ne 113 130 rfl dX11_partOf_110 (by decide) (fun c110 => ?_) (fun c110 => ?_)
            · refine x_aload_n 131 rfl dX11_partOf_130 0 rfl rfl ?_
              refine x_getz 134 rfl fX11_279 dX11_partOf_131 (lyl55 hL) (lys55 hL) (by decide) ?_
              try simp (disch := omega) only [z_up_ne, z_up_nk, z_up_eq, z_mup_ne, z_mup_eq, Int.reduceToNat, Int.toNat_natCast, ev_22, ev_24, ev_o, ev_ne, ev_u22, ev_u24]
              refine x_if_eq 137 147 rfl dX11_partOf_134 (by decide) (fun c134 => ?_) (fun c134 => ?_)
              · have h4 : o = false ∧ 8 ≤ c s.1 ∧ c s.1 ≤ 17 := by rcases h3 with h3 | h3; omega; exact h3.2
                refine x_aload_n 148 rfl dX11_partOf_147 0 rfl rfl ?_
                refine x_getr 151 rfl fX11_59 dX11_partOf_148 (lyl55 hL) (lys55 hL) (by decide) (67) rfl ?_
                refine x_iload_n 152 rfl dX11_partOf_151 2 rfl rfl ?_
                refine x_bipush 154 rfl dX11_partOf_152 (by decide) ?_
                refine y_isub 155 rfl dX11_partOf_154 (by omega) ?_
                refine x_iald 156 rfl dX11_partOf_155 (lyl67 hL) (lys67 hL) (by omega) (by omega) ?_
                try simp (disch := omega) only [z_up_ne, z_up_nk, z_up_eq, z_mup_ne, z_mup_eq, Int.reduceToNat, Int.toNat_natCast, ev_22, ev_24, ev_o, ev_ne, ev_u22, ev_u24]
                refine x_i2l 157 rfl dX11_partOf_156 ?_
                refine x_retj dX11_partOf_157 rfl ?_
                refine ⟨?_, rfl⟩
                first | (rw [if_pos (by omega)]; done) | (rw [if_pos (by omega), h4.1]; simp [mE, h4.2])
              · have h4 : o = true ∧ 16 ≤ c s.1 ∧ c s.1 ≤ 20 := by rcases h3 with h3 | h3; exact h3.2; omega
                obtain ⟨rfl, h4⟩ := h4
                refine x_aload_n 138 rfl dX11_partOf_137 0 rfl rfl ?_
                refine x_iload_n 139 rfl dX11_partOf_138 2 rfl rfl ?_
                refine x_iload_n 140 rfl dX11_partOf_139 3 rfl rfl ?_
                refine x_cVi 143 rfl lX11_282 dX11_partOf_140 (lyl55 hL) (lys55 hL) (c_X11_orderValue hL hi (by omega)) rfl rfl (Nat.le_of_ble_eq_true rfl) (fun r M1 hr1 => ?_)
                obtain ⟨rfl, hM1⟩ := hr1
                rw [hM1]
                refine x_i2l 144 rfl dX11_partOf_143 ?_
                refine x_goto 157 dX11_partOf_144 (by decide) ?_
                refine x_retj dX11_partOf_157 rfl ?_
                refine ⟨?_, rfl⟩
                first | (rw [if_pos (by omega)]; done) | (rw [if_pos (by omega), h4.1]; simp [mE, h4.2])
            · exfalso; omega
          · refine x_lconst (x := 0) 106 rfl dX11_partOf_105 rfl ?_
            refine x_retj dX11_partOf_106 rfl ?_
            exact ⟨(if_neg (by omega)).symm, rfl⟩
      · refine x_iload_n 59 rfl dX11_partOf_58 2 rfl rfl ?_
        refine x_bipush 61 rfl dX11_partOf_59 (by decide) ?_
        refine x_icmp_eq 64 70 rfl dX11_partOf_61 (by decide) (fun c61 => ?_) (fun c61 => ?_)
        · exfalso; omega
        · refine x_iload_n 65 rfl dX11_partOf_64 2 rfl rfl ?_
          refine x_bipush 67 rfl dX11_partOf_65 (by decide) ?_
          refine x_icmp_ne 70 94 rfl dX11_partOf_67 (by decide) (fun c67 => ?_) (fun c67 => ?_)
          · refine x_iload_n 95 rfl dX11_partOf_94 1 rfl rfl ?_
            refine x_if_eq 98 105 rfl dX11_partOf_95 (by decide) (fun c95 => ?_) (fun c95 => ?_)
            · refine x_lconst (x := 0) 106 rfl dX11_partOf_105 rfl ?_
              refine x_retj dX11_partOf_106 rfl ?_
              exact ⟨(if_neg (by omega)).symm, rfl⟩
            · refine x_aload_n 99 rfl dX11_partOf_98 0 rfl rfl ?_
              refine x_getz 102 rfl fX11_259 dX11_partOf_99 (lyl55 hL) (lys55 hL) (by decide) ?_
              try simp (disch := omega) only [z_up_ne, z_up_nk, z_up_eq, z_mup_ne, z_mup_eq, Int.reduceToNat, Int.toNat_natCast, ev_22, ev_24, ev_o, ev_ne, ev_u22, ev_u24]
              refine x_if_eq 105 107 rfl dX11_partOf_102 (by decide) (fun c102 => ?_) (fun c102 => ?_)
              · refine x_iload_n 108 rfl dX11_partOf_107 2 rfl rfl ?_
                refine x_bipush 110 rfl dX11_partOf_108 (by decide) ?_
                refine x_icmp_ne 113 130 rfl dX11_partOf_110 (by decide) (fun c110 => ?_) (fun c110 => ?_)
                · refine x_aload_n 131 rfl dX11_partOf_130 0 rfl rfl ?_
                  refine x_getz 134 rfl fX11_279 dX11_partOf_131 (lyl55 hL) (lys55 hL) (by decide) ?_
                  try simp (disch := omega) only [z_up_ne, z_up_nk, z_up_eq, z_mup_ne, z_mup_eq, Int.reduceToNat, Int.toNat_natCast, ev_22, ev_24, ev_o, ev_ne, ev_u22, ev_u24]
                  refine x_if_eq 137 147 rfl dX11_partOf_134 (by decide) (fun c134 => ?_) (fun c134 => ?_)
                  · have h4 : o = false ∧ 8 ≤ c s.1 ∧ c s.1 ≤ 17 := by rcases h3 with h3 | h3; omega; exact h3.2
                    refine x_aload_n 148 rfl dX11_partOf_147 0 rfl rfl ?_
                    refine x_getr 151 rfl fX11_59 dX11_partOf_148 (lyl55 hL) (lys55 hL) (by decide) (67) rfl ?_
                    refine x_iload_n 152 rfl dX11_partOf_151 2 rfl rfl ?_
                    refine x_bipush 154 rfl dX11_partOf_152 (by decide) ?_
                    refine y_isub 155 rfl dX11_partOf_154 (by omega) ?_
                    refine x_iald 156 rfl dX11_partOf_155 (lyl67 hL) (lys67 hL) (by omega) (by omega) ?_
                    try simp (disch := omega) only [z_up_ne, z_up_nk, z_up_eq, z_mup_ne, z_mup_eq, Int.reduceToNat, Int.toNat_natCast, ev_22, ev_24, ev_o, ev_ne, ev_u22, ev_u24]
                    refine x_i2l 157 rfl dX11_partOf_156 ?_
                    refine x_retj dX11_partOf_157 rfl ?_
                    refine ⟨?_, rfl⟩
                    first | (rw [if_pos (by omega)]; done) | (rw [if_pos (by omega), h4.1]; simp [mE, h4.2])
                  · have h4 : o = true ∧ 16 ≤ c s.1 ∧ c s.1 ≤ 20 := by rcases h3 with h3 | h3; exact h3.2; omega
                    obtain ⟨rfl, h4⟩ := h4
                    refine x_aload_n 138 rfl dX11_partOf_137 0 rfl rfl ?_
                    refine x_iload_n 139 rfl dX11_partOf_138 2 rfl rfl ?_
                    refine x_iload_n 140 rfl dX11_partOf_139 3 rfl rfl ?_
                    refine x_cVi 143 rfl lX11_282 dX11_partOf_140 (lyl55 hL) (lys55 hL) (c_X11_orderValue hL hi (by omega)) rfl rfl (Nat.le_of_ble_eq_true rfl) (fun r M1 hr1 => ?_)
                    obtain ⟨rfl, hM1⟩ := hr1
                    rw [hM1]
                    refine x_i2l 144 rfl dX11_partOf_143 ?_
                    refine x_goto 157 dX11_partOf_144 (by decide) ?_
                    refine x_retj dX11_partOf_157 rfl ?_
                    refine ⟨?_, rfl⟩
                    first | (rw [if_pos (by omega)]; done) | (rw [if_pos (by omega), h4.1]; simp [mE, h4.2])
                · exfalso; omega
              · refine x_lconst (x := 0) 106 rfl dX11_partOf_105 rfl ?_
                refine x_retj dX11_partOf_106 rfl ?_
                exact ⟨(if_neg (by omega)).symm, rfl⟩
          · exfalso; omega
    · exfalso; omega
