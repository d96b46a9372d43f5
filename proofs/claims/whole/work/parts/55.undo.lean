/-! undo -/
def kB (k e : Nat → Int) (n : Nat) : Nat → Int := fun i => if i < n then e i else k i
theorem kB_0 {k e : Nat → Int} : kB k e 0 = k := by
  funext i
  unfold kB
  rw [if_neg (by omega)]
theorem kB_s {k e : Nat → Int} {n : Nat} : ku (kB k e n) n (e n) = kB k e (n + 1) := by
  funext i
  simp only [ku, kB]
  by_cases h : i = n
  · rw [if_pos h, if_pos (by omega), h]
  · rw [if_neg h]
    by_cases h1 : i < n
    · rw [if_pos h1, if_pos (by omega)]
    · rw [if_neg h1, if_neg (by omega)]
/-- what was kept in the m-th place -/
def eB (M : zMem) (m : Nat) : Nat → Int := fun i => M 69 (24 * m + i)

set_option maxRecDepth 100000 in
set_option maxHeartbeats 4000000 in
theorem c_X11_undo {d sz : Nat} {S : zSh} {M : zMem} (hL : LY S sz) (hn0 : 0 ≤ M 55 32 ∧ M 55 32 ≤ 16) (hr : ∀ i, i < 7 → 0 ≤ M 56 i ∧ M 56 i ≤ 1000000)  : zX (d + 1) 0 0 mX11_undo [zn 55] sz S M (zI sz S (fun r M' => (M 55 32 = 0 ∧ r = -3 ∧ M' = zRef M (-3)) ∨ (0 < M 55 32 ∧ r = eB M ((M 55 32).toNat - 1) 23 ∧ M' = z_up (z_mup (z_up M 55 32 (M 55 32 - 1)) 57 (kMoved (M 57) (eB M ((M 55 32).toNat - 1)))) 55 0 0))) := by
  have loop : 0 < M 55 32 → ∀ (q n : Nat), 23 < q + n → n ≤ 23 → zW mX11_undo (d + 1) 0 0 [] (zI sz S (fun r M' => (M 55 32 = 0 ∧ r = -3 ∧ M' = zRef M (-3)) ∨ (0 < M 55 32 ∧ r = eB M ((M 55 32).toNat - 1) 23 ∧ M' = z_up (z_mup (z_up M 55 32 (M 55 32 - 1)) 57 (kMoved (M 57) (eB M ((M 55 32).toNat - 1)))) 55 0 0))) 34 [some (zn 55), some (zi (24 * (M 55 32 - 1))), some (zi n)] [] sz S (z_mup (z_up M 55 32 (M 55 32 - 1)) 57 (kB (M 57) (eB M ((M 55 32).toNat - 1)) n)) := by
    intro hp q
    induction q with
    | zero => intro n hq hn; omega
    | succ q ih =>
      intro n hq hn
      have e1 : (24 * (M 55 32 - 1) + (n : Int)).toNat = 24 * ((M 55 32).toNat - 1) + n := by omega
      have e2 : (24 * (M 55 32 - 1) + 23).toNat = 24 * ((M 55 32).toNat - 1) + 23 := by omega
      refine x_iload_n 35 rfl dX11_undo_34 2 rfl rfl ?_
      refine x_bipush 37 rfl dX11_undo_35 (by decide) ?_
      refine x_icmp_ge 40 60 rfl dX11_undo_37 (by decide) (fun c37 => ?_) (fun c37 => ?_)
      · refine x_aload_n 61 rfl dX11_undo_60 0 rfl rfl ?_
        refine x_aload_n 62 rfl dX11_undo_61 0 rfl rfl ?_
        refine x_getr 65 rfl fX11_65 dX11_undo_62 (lyl55 hL) (lys55 hL) (by decide) (69) rfl ?_
        refine x_iload_n 66 rfl dX11_undo_65 1 rfl rfl ?_
        refine x_bipush 68 rfl dX11_undo_66 (by decide) ?_
        refine y_iadd 69 rfl dX11_undo_68 (by omega) ?_
        refine x_iald 70 rfl dX11_undo_69 (lyl69 hL) (lys69 hL) (by omega) (by omega) ?_
        rw [e2, show z_mup (z_up M 55 32 (M 55 32 - 1)) 57 (kB (M 57) (eB M ((M 55 32).toNat - 1)) n) 69 (24 * ((M 55 32).toNat - 1) + 23) = eB M ((M 55 32).toNat - 1) 23 by rw [z_mup_ne (by decide), z_up_ne (by decide)]; rfl]
        refine x_cVi 73 rfl lX11_14 dX11_undo_70 (lyl55 hL) (lys55 hL) (c_X11_good hL) rfl rfl (Nat.le_of_ble_eq_true rfl) (fun r M1 hr1 => ?_)
        obtain ⟨hr2, hM1⟩ := hr1
        refine x_reti dX11_undo_73 rfl ?_
        refine Or.inr ⟨hp, hr2, ?_⟩
        rw [hM1, show n = 23 by omega]
        rfl
      · refine x_aload_n 41 rfl dX11_undo_40 0 rfl rfl ?_
        refine x_getr 44 rfl fX11_24 dX11_undo_41 (lyl55 hL) (lys55 hL) (by decide) (57) rfl ?_
        refine x_iload_n 45 rfl dX11_undo_44 2 rfl rfl ?_
        refine x_aload_n 46 rfl dX11_undo_45 0 rfl rfl ?_
        refine x_getr 49 rfl fX11_65 dX11_undo_46 (lyl55 hL) (lys55 hL) (by decide) (69) rfl ?_
        refine x_iload_n 50 rfl dX11_undo_49 1 rfl rfl ?_
        refine x_iload_n 51 rfl dX11_undo_50 2 rfl rfl ?_
        refine y_iadd 52 rfl dX11_undo_51 (by omega) ?_
        refine x_iald 53 rfl dX11_undo_52 (lyl69 hL) (lys69 hL) (by omega) (by omega) ?_
        rw [e1, show z_mup (z_up M 55 32 (M 55 32 - 1)) 57 (kB (M 57) (eB M ((M 55 32).toNat - 1)) n) 69 (24 * ((M 55 32).toNat - 1) + n) = eB M ((M 55 32).toNat - 1) n by rw [z_mup_ne (by decide), z_up_ne (by decide)]; rfl]
        refine x_iast 54 rfl dX11_undo_53 (lyl57 hL) (lys57 hL) (by omega) (by omega) ?_
        refine w_iinc 57 rfl dX11_undo_54 rfl (by decide) (by omega) rfl (ls' := [_, _, _]) rfl (by decide) ?_
        refine x_goto 34 dX11_undo_57 (by decide) ?_
        refine z_mem (M' := z_mup (z_up M 55 32 (M 55 32 - 1)) 57 (kB (M 57) (eB M ((M 55 32).toNat - 1)) (n + 1))) (by rw [Int.toNat_natCast, z_mupm, kB_s]) (ih (n + 1) (by omega) (by omega))
  refine zX_of pl_RX11 [some (zn 55), none, none] 2 rfl rfl ?_
  refine x_aload_n 1 rfl dX11_undo_0 0 rfl rfl ?_
  refine x_geti 4 rfl fX11_11 dX11_undo_1 (lyl55 hL) (lys55 hL) (by decide) ?_
  refine x_if_ne 7 14 rfl dX11_undo_4 (by decide) (fun c4 => ?_) (fun c4 => ?_)
  · refine x_aload_n 15 rfl dX11_undo_14 0 rfl rfl ?_
    refine x_dupr 16 rfl dX11_undo_15 ?_
    refine x_geti 19 rfl fX11_11 dX11_undo_16 (lyl55 hL) (lys55 hL) (by decide) ?_
    refine x_iconst 20 rfl dX11_undo_19 (by decide) ?_
    refine y_isub 21 rfl dX11_undo_20 (by omega) ?_
    refine x_puti 24 rfl fX11_11 dX11_undo_21 (lyl55 hL) (lys55 hL) (by decide) ?_
    refine x_bipush 26 rfl dX11_undo_24 (by decide) ?_
    refine x_aload_n 27 rfl dX11_undo_26 0 rfl rfl ?_
    refine x_geti 30 rfl fX11_11 dX11_undo_27 (lyl55 hL) (lys55 hL) (by decide) ?_
    rw [z_up_eq]
    refine y_imul 31 rfl dX11_undo_30 (by omega) ?_
    refine y_istore_n 32 rfl dX11_undo_31 rfl rfl (ls' := [_, _, _]) rfl (by decide) ?_
    refine x_iconst 33 rfl dX11_undo_32 (by decide) ?_
    refine y_istore_n 34 rfl dX11_undo_33 rfl rfl (ls' := [_, _, _]) rfl (by decide) ?_
    refine z_mem (M' := z_mup (z_up M 55 32 (M 55 32 - 1)) 57 (kB (M 57) (eB M ((M 55 32).toNat - 1)) 0)) ?_ (loop (by omega) 24 0 (by omega) (by omega))
    rw [kB_0, show M 57 = (z_up M 55 32 (M 55 32 - 1)) 57 by rw [z_up_ne (by decide)], z_mup_self]
  · refine x_aload_n 8 rfl dX11_undo_7 0 rfl rfl ?_
    refine x_bipush 10 rfl dX11_undo_8 (by decide) ?_
    refine x_cVi 13 rfl lX11_94 dX11_undo_10 (lyl55 hL) (lys55 hL) (c_X11_refuses hL hr (by decide)) rfl rfl (Nat.le_of_ble_eq_true rfl) (fun r M1 hr1 => ?_)
    obtain ⟨hr2, hM1⟩ := hr1
    refine x_reti dX11_undo_13 rfl ?_
    exact Or.inl ⟨by omega, hr2, hM1⟩
