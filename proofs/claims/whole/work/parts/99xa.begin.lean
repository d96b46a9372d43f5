/-! THE LAW, from its first step -/
set_option maxRecDepth 100000 in
set_option maxHeartbeats 4000000 in
theorem lw_make {sc : List Int} {kc ks : Nat} {S : zSh} {M : zMem} (K : ∀ S2 : zSh, LY S2 75 → zW mL_law 61 kc ks sc lwQ 18 [some (zr (-2)), some (zn 0), some (zn 55), some (zi 0)] [] 75 S2 (iM M)) : zW mL_law 61 (kc + 19 + 1 + 54 + 1) (ks + 21680 + 46 + 5132 + 17) sc lwQ 0 [some (zr (-2)), none, none, none] [] 0 S M := by
  refine x_new (N := 17) (sz := 0) (kc := kc + 19 + 1 + 54) (ks := ks + 21680 + 46 + 5132) 3 rfl nL_7 dL_law_0 ?_
  refine x_dupr 4 rfl dL_law_3 ?_
  have h10 := c_X10_init (d := 56) (sz := 0) (S := z_sup S 0 (10, 17, fun _ => -1)) (M := z_mup M 0 (z_df 10)) z_sup_eq
  refine x_callI (d := 60) (kc := kc + 19 + 1) (kc2 := 54) (ks := ks + 21680 + 46) (ks2 := 5132) 7 rfl lL_9 dL_law_4 h10 rfl rfl (Nat.le_of_ble_eq_true rfl) ?_
  rintro v sz1 S1 M1 ⟨rfl, rfl, hS1, hM1⟩
  show zW mL_law 61 (kc + 19 + 1) (ks + 21680 + 46) sc lwQ 7 [some (zr (-2)), none, none, none] [zn 0] 55 S1 M1
  refine y_astore_n 8 rfl dL_law_7 rfl rfl (ls' := [_, _, _, _]) rfl (by decide) ?_
  refine x_new (N := 46) (sz := 55) (kc := kc + 19) (ks := ks + 21680) 11 rfl nL_10 dL_law_8 ?_
  refine x_dupr 12 rfl dL_law_11 ?_
  have h11 := c_X11_init (d := 59) (sz := 0) (S := z_sup S1 55 (11, 46, fun _ => -1)) (M := z_mup M1 55 (z_df 11)) z_sup_eq (fun i hi => by rw [z_sup_ne (by omega)]; exact hS1 i hi)
  refine x_callI (d := 60) (kc := kc) (kc2 := 19) (ks := ks) (ks2 := 21680) 15 rfl lL_12 dL_law_12 h11 rfl rfl (Nat.le_of_ble_eq_true rfl) ?_
  rintro v sz2 S2 M2 ⟨rfl, rfl, hL2, hM2⟩
  show zW mL_law 61 kc ks sc lwQ 15 [some (zr (-2)), some (zn 0), none, none] [zn 55] 75 S2 M2
  refine y_astore_n 16 rfl dL_law_15 rfl rfl (ls' := [_, _, _, _]) rfl (by decide) ?_
  refine x_iconst 17 rfl dL_law_16 (by decide) ?_
  refine y_istore_n 18 rfl dL_law_17 rfl rfl (ls' := [_, _, _, _]) rfl (by decide) ?_
  have hK := K S2 hL2
  unfold iM at hK
  rw [hM2, hM1]
  exact hK
theorem lw_begin {sc : List Int} (hsc : sc ≠ []) (hlen : sc.length ≤ 3073) {S : zSh} {M : zMem} : zW mL_law 61 5800 270000 sc lwQ 0 [some (zr (-2)), none, none, none] [] 0 S M := by
  obtain ⟨kc, hkc⟩ : ∃ n, n = 11 * 520 := ⟨_, rfl⟩
  obtain ⟨ks, hks⟩ : ∃ n, n = 464 * 520 := ⟨_, rfl⟩
  refine zW_room (kc' := kc + 19 + 1 + 54 + 1) (ks' := ks + 21680 + 46 + 5132 + 17) (by omega) (by omega) (lw_make ?_)
  intro S2 hL2
  rw [hkc, hks]
  exact lw_loop hsc hlen 520 0 0 S2 75 (iM M) (by omega) (by omega) (by omega) (by omega) (IV_init hL2)
