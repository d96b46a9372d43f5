/-! THE LAW, from its first step -/
set_option maxRecDepth 100000 in
set_option maxHeartbeats 4000000 in
theorem lw_begin {sc : List Int} (hsc : sc ≠ []) (hlen : sc.length ≤ 3073) {S : zSh} {M : zMem} : zW mL_law 61 5800 270000 sc lwQ 0 [some (zr (-2)), none, none, none] [] 0 S M := by
  refine zW_room (kc' := 11 * 520 + 19 + 1 + 54 + 1) (ks' := 464 * 520 + 21680 + 46 + 5132 + 17) (by omega) (by omega) ?_
  refine x_new (N := 17) (sz := 0) 3 rfl nL_7 dL_law_0 ?_
  refine x_dupr 4 rfl dL_law_3 ?_
  refine x_callI 7 rfl lL_9 dL_law_4 (c_X10_init (by exact z_sup_eq)) rfl rfl (Nat.le_of_ble_eq_true rfl) ?_
  rintro v sz1 S1 M1 ⟨rfl, rfl, hS1, hM1⟩
  show zW mL_law 61 _ _ sc lwQ 7 _ [zn 0] 55 S1 M1
  refine y_astore_n 8 rfl dL_law_7 rfl rfl (ls' := [_, _, _, _]) rfl (by decide) ?_
  refine x_new (N := 46) (sz := 55) 11 rfl nL_10 dL_law_8 ?_
  refine x_dupr 12 rfl dL_law_11 ?_
  refine x_callI 15 rfl lL_12 dL_law_12 (c_X11_init (by exact z_sup_eq) (fun i hi => by rw [z_sup_ne (by omega)]; exact hS1 i hi)) rfl rfl (Nat.le_of_ble_eq_true rfl) ?_
  rintro v sz2 S2 M2 ⟨rfl, rfl, hL2, hM2⟩
  show zW mL_law 61 _ _ sc lwQ 15 _ [zn 55] 75 S2 M2
  refine y_astore_n 16 rfl dL_law_15 rfl rfl (ls' := [_, _, _, _]) rfl (by decide) ?_
  refine x_iconst 17 rfl dL_law_16 (by decide) ?_
  refine y_istore_n 18 rfl dL_law_17 rfl rfl (ls' := [_, _, _, _]) rfl (by decide) ?_
  rw [hM2, hM1]
  exact lw_loop hsc hlen 520 0 0 S2 75 _ (by omega) (by omega) (by omega) (by omega) (IV_init hL2)
