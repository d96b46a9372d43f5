/-! the class is made -/
theorem shS_at {S : zSh} {i : Nat} {a : Nat} {v : Nat × Nat × (Nat → Int)} (h : i < a ∨ a + 11 ≤ i) (hv : S i = v) : shS S a i = v := by
  unfold shS
  simp (disch := omega) only [z_sup_ne]
  exact hv
theorem lgS_at {S : zSh} {i : Nat} {a : Nat} {v : Nat × Nat × (Nat → Int)} (h : i < a ∨ a + 3 ≤ i) (hv : S i = v) : lgS S a i = v := by
  unfold lgS
  simp (disch := omega) only [z_sup_ne]
  exact hv
theorem mcS_at {S : zSh} {i : Nat} {a : Nat} {v : Nat × Nat × (Nat → Int)} (h : i < a ∨ a + 2 ≤ i) (hv : S i = v) : mcS S a i = v := by
  unfold mcS
  simp (disch := omega) only [z_sup_ne]
  exact hv
theorem txS_at {S : zSh} {i : Nat} {a nh nc : Nat} {v : Nat × Nat × (Nat → Int)} (h : i < a ∨ a + 3 ≤ i) (hv : S i = v) : txS S a nh nc i = v := by
  unfold txS
  simp (disch := omega) only [z_sup_ne]
  exact hv
def tpS (S : zSh) : zSh := (z_sup (z_sup S 30 (8, 2, tpF)) 31 (20, 400, zN))
theorem tpS_at {S : zSh} {i : Nat} {v : Nat × Nat × (Nat → Int)} (h : i < 30 ∨ 32 ≤ i) (hv : S i = v) : tpS S i = v := by
  unfold tpS
  simp (disch := omega) only [z_sup_ne]
  exact hv
set_option maxRecDepth 100000 in
set_option maxHeartbeats 4000000 in
theorem c_X8_init {d sz : Nat} {S : zSh} {M : zMem} (hS : S 30 = (8, 2, fun _ => -1)) : zX (d + 2) 1 400 mX8_init [zn 30] 31 S M (fun v sz' S' M' => v = none ∧ sz' = 32 ∧ S' = tpS S ∧ M' = (z_mup M 31 (fun _ => 0))) := by
  refine zX_of pl_RX8 [some (zn 30)] 0 rfl rfl ?_
  refine x_aload_n 1 rfl dX8_init_0 0 rfl rfl ?_
  refine x_objInit 4 rfl lX8_3 w_oi w_oc dX8_init_1 (Nat.le_of_ble_eq_true rfl) ?_
  refine x_aload_n 5 rfl dX8_init_4 0 rfl rfl ?_
  refine x_sipush 8 rfl dX8_init_5 (by decide) ?_
  refine x_newaI (sz := 31) 10 rfl wa_int dX8_init_8 400 rfl (by decide) ?_
  refine x_putf 13 rfl ffX8_9 rfl dX8_init_10 (by omega) (z_sup_at (by omega) hS) (by decide) ?_
  refine x_vret dX8_init_13 rfl ?_
  refine ⟨rfl, rfl, ?_, rfl⟩
  funext i
  rcases Nat.lt_or_ge i 30 with h | h
  · simp (disch := omega) only [tpS, txS, mcS, z_sup_ne]
  · rcases Nat.lt_or_ge i 32 with h2 | h2
    · have h3 : i = 30 ∨ i = 31 := by omega
      rcases h3 with rfl | rfl
      · refine congrArg (fun f => ((8, 2, f) : Nat × Nat × (Nat → Int))) ?_
        funext j
        rcases j with _ | j
        all_goals first | rfl | (simp [tpF]; done)
      all_goals rfl
    · simp (disch := omega) only [tpS, txS, mcS, z_sup_ne]

def rdS (S : zSh) : zSh := (z_sup (z_sup (z_sup (z_sup (z_sup (z_sup (z_sup S 32 (6, 10, rdF)) 33 (20, 401, zN)) 34 (20, 401, zN)) 35 (20, 401, zN)) 36 (9, 4, txF 36)) 37 (20, 60, zN)) 38 (20, 400, zN))
theorem rdS_at {S : zSh} {i : Nat} {v : Nat × Nat × (Nat → Int)} (h : i < 32 ∨ 39 ≤ i) (hv : S i = v) : rdS S i = v := by
  unfold rdS
  simp (disch := omega) only [z_sup_ne]
  exact hv
set_option maxRecDepth 100000 in
set_option maxHeartbeats 4000000 in
theorem c_X6_init {d sz : Nat} {S : zSh} {M : zMem} (hS : S 32 = (6, 10, fun _ => -1)) : zX (d + 2) 6 1667 mX6_init [zn 32] 33 S M (fun v sz' S' M' => v = none ∧ sz' = 39 ∧ S' = rdS S ∧ M' = (z_mup (z_mup (z_mup (z_mup (z_mup (z_mup M 33 (fun _ => 0)) 34 (fun _ => 0)) 35 (fun _ => 0)) 36 (z_df 9)) (36 + 1) (fun _ => 0)) (36 + 2) (fun _ => 0))) := by
  refine zX_of pl_RX6 [some (zn 32)] 0 rfl rfl ?_
  refine x_aload_n 1 rfl dX6_init_0 0 rfl rfl ?_
  refine x_objInit 4 rfl lX6_3 w_oi w_oc dX6_init_1 (Nat.le_of_ble_eq_true rfl) ?_
  refine x_aload_n 5 rfl dX6_init_4 0 rfl rfl ?_
  refine x_sipush 8 rfl dX6_init_5 (by decide) ?_
  refine x_newaI (sz := 33) 10 rfl wa_int dX6_init_8 401 rfl (by decide) ?_
  refine x_putf 13 rfl ffX6_9 rfl dX6_init_10 (by omega) (z_sup_at (by omega) hS) (by decide) ?_
  refine x_aload_n 14 rfl dX6_init_13 0 rfl rfl ?_
  refine x_sipush 17 rfl dX6_init_14 (by decide) ?_
  refine x_newaI (sz := 34) 19 rfl wa_int dX6_init_17 401 rfl (by decide) ?_
  refine x_putf 22 rfl ffX6_15 rfl dX6_init_19 (by omega) (z_sup_at (by omega) z_sup_eq) (by decide) ?_
  refine x_aload_n 23 rfl dX6_init_22 0 rfl rfl ?_
  refine x_sipush 26 rfl dX6_init_23 (by decide) ?_
  refine x_newaI (sz := 35) 28 rfl wa_int dX6_init_26 401 rfl (by decide) ?_
  refine x_putf 31 rfl ffX6_18 rfl dX6_init_28 (by omega) (z_sup_at (by omega) z_sup_eq) (by decide) ?_
  refine x_aload_n 32 rfl dX6_init_31 0 rfl rfl ?_
  refine x_new (N := 4) (sz := 36) 35 rfl nX6_21 dX6_init_32 ?_
  refine x_dupr 36 rfl dX6_init_35 ?_
  refine x_bipush 38 rfl dX6_init_36 (by decide) ?_
  refine x_sipush 41 rfl dX6_init_38 (by decide) ?_
  refine x_callI  44 rfl lX6_23 dX6_init_41 (c_X9_init (sz := 0) (a := 36) (m := 12) (n := 400) z_sup_eq (by decide) (by decide)) rfl rfl (Nat.le_of_ble_eq_true rfl) ?_
  rintro v sz1 S1 M1 ⟨rfl, rfl, rfl, rfl⟩
  refine x_putf 47 rfl ffX6_26 rfl dX6_init_44 (by omega) (txS_at (by omega) (z_sup_at (by omega) z_sup_eq)) (by decide) ?_
  refine x_vret dX6_init_47 rfl ?_
  refine ⟨rfl, rfl, ?_, rfl⟩
  funext i
  rcases Nat.lt_or_ge i 32 with h | h
  · simp (disch := omega) only [rdS, txS, mcS, z_sup_ne]
  · rcases Nat.lt_or_ge i 39 with h2 | h2
    · have h3 : i = 32 ∨ i = 33 ∨ i = 34 ∨ i = 35 ∨ i = 36 ∨ i = 37 ∨ i = 38 := by omega
      rcases h3 with rfl | rfl | rfl | rfl | rfl | rfl | rfl
      · refine congrArg (fun f => ((6, 10, f) : Nat × Nat × (Nat → Int))) ?_
        funext j
        rcases j with _ | _ | _ | _ | _ | _ | _ | _ | _ | _ | j
        all_goals first | rfl | (simp [rdF]; done)
      all_goals rfl
    · simp (disch := omega) only [rdS, txS, mcS, z_sup_ne]

def jdS (S : zSh) : zSh := (z_sup (z_sup (z_sup (z_sup S 39 (1, 2, jdF)) 40 (3, 1, mcF 40)) 41 (20, 64, zN)) 42 (20, 25, zN))
theorem jdS_at {S : zSh} {i : Nat} {v : Nat × Nat × (Nat → Int)} (h : i < 39 ∨ 43 ≤ i) (hv : S i = v) : jdS S i = v := by
  unfold jdS
  simp (disch := omega) only [z_sup_ne]
  exact hv
set_option maxRecDepth 100000 in
set_option maxHeartbeats 4000000 in
theorem c_X1_init {d sz : Nat} {S : zSh} {M : zMem} (hS : S 39 = (1, 2, fun _ => -1)) : zX (d + 2) 3 90 mX1_init [zn 39] 40 S M (fun v sz' S' M' => v = none ∧ sz' = 43 ∧ S' = jdS S ∧ M' = (z_mup (z_mup (z_mup M 40 (z_df 3)) (40 + 1) (fun _ => 0)) 42 (fun _ => 0))) := by
  refine zX_of pl_RX1 [some (zn 39)] 0 rfl rfl ?_
  refine x_aload_n 1 rfl dX1_init_0 0 rfl rfl ?_
  refine x_objInit 4 rfl lX1_3 w_oi w_oc dX1_init_1 (Nat.le_of_ble_eq_true rfl) ?_
  refine x_aload_n 5 rfl dX1_init_4 0 rfl rfl ?_
  refine x_new (N := 1) (sz := 40) 8 rfl nX1_9 dX1_init_5 ?_
  refine x_dupr 9 rfl dX1_init_8 ?_
  refine x_callI  12 rfl lX1_11 dX1_init_9 (c_X3_init (sz := 0) (a := 40) z_sup_eq) rfl rfl (Nat.le_of_ble_eq_true rfl) ?_
  rintro v sz1 S1 M1 ⟨rfl, rfl, rfl, rfl⟩
  refine x_putf 15 rfl ffX1_12 rfl dX1_init_12 (by omega) (mcS_at (by omega) (z_sup_at (by omega) hS)) (by decide) ?_
  refine x_aload_n 16 rfl dX1_init_15 0 rfl rfl ?_
  refine x_bipush 18 rfl dX1_init_16 (by decide) ?_
  refine x_newaI (sz := 42) 20 rfl wa_int dX1_init_18 25 rfl (by decide) ?_
  refine x_putf 23 rfl ffX1_18 rfl dX1_init_20 (by omega) (z_sup_at (by omega) z_sup_eq) (by decide) ?_
  refine x_vret dX1_init_23 rfl ?_
  refine ⟨rfl, rfl, ?_, rfl⟩
  funext i
  rcases Nat.lt_or_ge i 39 with h | h
  · simp (disch := omega) only [jdS, txS, mcS, z_sup_ne]
  · rcases Nat.lt_or_ge i 43 with h2 | h2
    · have h3 : i = 39 ∨ i = 40 ∨ i = 41 ∨ i = 42 := by omega
      rcases h3 with rfl | rfl | rfl | rfl
      · refine congrArg (fun f => ((1, 2, f) : Nat × Nat × (Nat → Int))) ?_
        funext j
        rcases j with _ | _ | j
        all_goals first | rfl | (simp [jdF]; done)
      all_goals rfl
    · simp (disch := omega) only [jdS, txS, mcS, z_sup_ne]

def mtS (S : zSh) : zSh := (z_sup (z_sup S 43 (4, 2, mtF)) 44 (20, 8, zN))
theorem mtS_at {S : zSh} {i : Nat} {v : Nat × Nat × (Nat → Int)} (h : i < 43 ∨ 45 ≤ i) (hv : S i = v) : mtS S i = v := by
  unfold mtS
  simp (disch := omega) only [z_sup_ne]
  exact hv
set_option maxRecDepth 100000 in
set_option maxHeartbeats 4000000 in
theorem c_X4_init {d sz : Nat} {S : zSh} {M : zMem} (hS : S 43 = (4, 2, fun _ => -1)) : zX (d + 2) 1 8 mX4_init [zn 43, zn 39] 44 S M (fun v sz' S' M' => v = none ∧ sz' = 45 ∧ S' = mtS S ∧ M' = (z_mup M 44 (fun _ => 0))) := by
  refine zX_of pl_RX4 [some (zn 43), some (zn 39)] 0 rfl rfl ?_
  refine x_aload_n 1 rfl dX4_init_0 0 rfl rfl ?_
  refine x_objInit 4 rfl lX4_3 w_oi w_oc dX4_init_1 (Nat.le_of_ble_eq_true rfl) ?_
  refine x_aload_n 5 rfl dX4_init_4 0 rfl rfl ?_
  refine x_bipush 7 rfl dX4_init_5 (by decide) ?_
  refine x_newaI (sz := 44) 9 rfl wa_int dX4_init_7 8 rfl (by decide) ?_
  refine x_putf 12 rfl ffX4_9 rfl dX4_init_9 (by omega) (z_sup_at (by omega) hS) (by decide) ?_
  refine x_aload_n 13 rfl dX4_init_12 0 rfl rfl ?_
  refine x_aload_n 14 rfl dX4_init_13 1 rfl rfl ?_
  refine x_putf 17 rfl ffX4_15 rfl dX4_init_14 (by omega) z_sup_eq (by decide) ?_
  refine x_vret dX4_init_17 rfl ?_
  refine ⟨rfl, rfl, ?_, rfl⟩
  funext i
  rcases Nat.lt_or_ge i 43 with h | h
  · simp (disch := omega) only [mtS, txS, mcS, z_sup_ne]
  · rcases Nat.lt_or_ge i 45 with h2 | h2
    · have h3 : i = 43 ∨ i = 44 := by omega
      rcases h3 with rfl | rfl
      · refine congrArg (fun f => ((4, 2, f) : Nat × Nat × (Nat → Int))) ?_
        funext j
        rcases j with _ | _ | j
        all_goals first | rfl | (simp [mtF]; done)
      all_goals rfl
    · simp (disch := omega) only [mtS, txS, mcS, z_sup_ne]

def bsS (S : zSh) : zSh := (z_sup (z_sup (z_sup (z_sup S 45 (0, 4, bsF)) 46 (3, 1, mcF 46)) 47 (20, 64, zN)) 48 (20, 25, zN))
theorem bsS_at {S : zSh} {i : Nat} {v : Nat × Nat × (Nat → Int)} (h : i < 45 ∨ 49 ≤ i) (hv : S i = v) : bsS S i = v := by
  unfold bsS
  simp (disch := omega) only [z_sup_ne]
  exact hv
set_option maxRecDepth 100000 in
set_option maxHeartbeats 4000000 in
theorem c_X0_init {d sz : Nat} {S : zSh} {M : zMem} (hS : S 45 = (0, 4, fun _ => -1)) : zX (d + 2) 3 90 mX0_init [zn 45, zn 43] 46 S M (fun v sz' S' M' => v = none ∧ sz' = 49 ∧ S' = bsS S ∧ M' = z_up (z_mup (z_mup (z_mup M 46 (z_df 3)) (46 + 1) (fun _ => 0)) 48 (fun _ => 0)) 45 3 (-1)) := by
  refine zX_of pl_RX0 [some (zn 45), some (zn 43)] 0 rfl rfl ?_
  refine x_aload_n 1 rfl dX0_init_0 0 rfl rfl ?_
  refine x_objInit 4 rfl lX0_3 w_oi w_oc dX0_init_1 (Nat.le_of_ble_eq_true rfl) ?_
  refine x_aload_n 5 rfl dX0_init_4 0 rfl rfl ?_
  refine x_new (N := 1) (sz := 46) 8 rfl nX0_9 dX0_init_5 ?_
  refine x_dupr 9 rfl dX0_init_8 ?_
  refine x_callI  12 rfl lX0_11 dX0_init_9 (c_X3_init (sz := 0) (a := 46) z_sup_eq) rfl rfl (Nat.le_of_ble_eq_true rfl) ?_
  rintro v sz1 S1 M1 ⟨rfl, rfl, rfl, rfl⟩
  refine x_putf 15 rfl ffX0_12 rfl dX0_init_12 (by omega) (mcS_at (by omega) (z_sup_at (by omega) hS)) (by decide) ?_
  refine x_aload_n 16 rfl dX0_init_15 0 rfl rfl ?_
  refine x_bipush 18 rfl dX0_init_16 (by decide) ?_
  refine x_newaI (sz := 48) 20 rfl wa_int dX0_init_18 25 rfl (by decide) ?_
  refine x_putf 23 rfl ffX0_18 rfl dX0_init_20 (by omega) (z_sup_at (by omega) z_sup_eq) (by decide) ?_
  refine x_aload_n 24 rfl dX0_init_23 0 rfl rfl ?_
  refine x_iconst 25 rfl dX0_init_24 (by decide) ?_
  refine x_puti 28 rfl fX0_22 dX0_init_25 (by omega) z_sup_eq (by decide) ?_
  refine x_aload_n 29 rfl dX0_init_28 0 rfl rfl ?_
  refine x_aload_n 30 rfl dX0_init_29 1 rfl rfl ?_
  refine x_putf 33 rfl ffX0_26 rfl dX0_init_30 (by omega) z_sup_eq (by decide) ?_
  refine x_vret dX0_init_33 rfl ?_
  refine ⟨rfl, rfl, ?_, rfl⟩
  funext i
  rcases Nat.lt_or_ge i 45 with h | h
  · simp (disch := omega) only [bsS, txS, mcS, z_sup_ne]
  · rcases Nat.lt_or_ge i 49 with h2 | h2
    · have h3 : i = 45 ∨ i = 46 ∨ i = 47 ∨ i = 48 := by omega
      rcases h3 with rfl | rfl | rfl | rfl
      · refine congrArg (fun f => ((0, 4, f) : Nat × Nat × (Nat → Int))) ?_
        funext j
        rcases j with _ | _ | _ | _ | j
        all_goals first | rfl | (simp [bsF]; done)
      all_goals rfl
    · simp (disch := omega) only [bsS, txS, mcS, z_sup_ne]

def ppS (S : zSh) : zSh := (z_sup (z_sup (z_sup (z_sup (z_sup S 49 (5, 7, ppF)) 50 (21, 1000, zN)) 51 (20, 1000, zN)) 52 (20, 4, zN)) 53 (21, 73, zN))
theorem ppS_at {S : zSh} {i : Nat} {v : Nat × Nat × (Nat → Int)} (h : i < 49 ∨ 54 ≤ i) (hv : S i = v) : ppS S i = v := by
  unfold ppS
  simp (disch := omega) only [z_sup_ne]
  exact hv
set_option maxRecDepth 100000 in
set_option maxHeartbeats 4000000 in
theorem c_X5_init {d sz : Nat} {S : zSh} {M : zMem} (hS : S 49 = (5, 7, fun _ => -1)) : zX (d + 2) 4 2077 mX5_init [zn 49, zn 39] 50 S M (fun v sz' S' M' => v = none ∧ sz' = 54 ∧ S' = ppS S ∧ M' = (z_mup (z_mup (z_mup (z_mup M 50 (fun _ => 0)) 51 (fun _ => 0)) 52 (fun _ => 0)) 53 (fun _ => 0))) := by
  refine zX_of pl_RX5 [some (zn 49), some (zn 39)] 0 rfl rfl ?_
  refine x_aload_n 1 rfl dX5_init_0 0 rfl rfl ?_
  refine x_objInit 4 rfl lX5_3 w_oi w_oc dX5_init_1 (Nat.le_of_ble_eq_true rfl) ?_
  refine x_aload_n 5 rfl dX5_init_4 0 rfl rfl ?_
  refine x_sipush 8 rfl dX5_init_5 (by decide) ?_
  refine x_newaJ (sz := 50) 10 rfl wa_long dX5_init_8 1000 rfl (by decide) ?_
  refine x_putf 13 rfl ffX5_9 rfl dX5_init_10 (by omega) (z_sup_at (by omega) hS) (by decide) ?_
  refine x_aload_n 14 rfl dX5_init_13 0 rfl rfl ?_
  refine x_sipush 17 rfl dX5_init_14 (by decide) ?_
  refine x_newaI (sz := 51) 19 rfl wa_int dX5_init_17 1000 rfl (by decide) ?_
  refine x_putf 22 rfl ffX5_15 rfl dX5_init_19 (by omega) (z_sup_at (by omega) z_sup_eq) (by decide) ?_
  refine x_aload_n 23 rfl dX5_init_22 0 rfl rfl ?_
  refine x_iconst 24 rfl dX5_init_23 (by decide) ?_
  refine x_newaI (sz := 52) 26 rfl wa_int dX5_init_24 4 rfl (by decide) ?_
  refine x_putf 29 rfl ffX5_19 rfl dX5_init_26 (by omega) (z_sup_at (by omega) z_sup_eq) (by decide) ?_
  refine x_aload_n 30 rfl dX5_init_29 0 rfl rfl ?_
  refine x_bipush 32 rfl dX5_init_30 (by decide) ?_
  refine x_newaJ (sz := 53) 34 rfl wa_long dX5_init_32 73 rfl (by decide) ?_
  refine x_putf 37 rfl ffX5_22 rfl dX5_init_34 (by omega) (z_sup_at (by omega) z_sup_eq) (by decide) ?_
  refine x_aload_n 38 rfl dX5_init_37 0 rfl rfl ?_
  refine x_aload_n 39 rfl dX5_init_38 1 rfl rfl ?_
  refine x_putf 42 rfl ffX5_25 rfl dX5_init_39 (by omega) z_sup_eq (by decide) ?_
  refine x_vret dX5_init_42 rfl ?_
  refine ⟨rfl, rfl, ?_, rfl⟩
  funext i
  rcases Nat.lt_or_ge i 49 with h | h
  · simp (disch := omega) only [ppS, txS, mcS, z_sup_ne]
  · rcases Nat.lt_or_ge i 54 with h2 | h2
    · have h3 : i = 49 ∨ i = 50 ∨ i = 51 ∨ i = 52 ∨ i = 53 := by omega
      rcases h3 with rfl | rfl | rfl | rfl | rfl
      · refine congrArg (fun f => ((5, 7, f) : Nat × Nat × (Nat → Int))) ?_
        funext j
        rcases j with _ | _ | _ | _ | _ | j
        all_goals first | rfl | (simp [ppF]; done)
      all_goals rfl
    · simp (disch := omega) only [ppS, txS, mcS, z_sup_ne]

def wlM (M : zMem) : zMem := (z_mup (z_up (z_up (z_mup (z_mup (z_mup (z_mup (z_mup (z_up (z_mup (z_mup (z_mup (z_mup (z_mup (z_mup (z_mup (z_mup (z_mup (z_mup (z_mup (z_mup (z_mup (z_mup (z_mup (z_mup (z_mup (z_mup (z_mup (z_mup (z_mup (z_mup (z_mup (z_mup (z_mup (z_mup (shM (z_mup (shM (z_mup M 1 (z_df 7)) 1) 12 (z_df 7)) 12) 23 (fun _ => -1)) 24 (z_df 2)) (24 + 1) (fun _ => 0)) (24 + 2) (fun _ => 0)) 27 (z_df 2)) (27 + 1) (fun _ => 0)) (27 + 2) (fun _ => 0)) 30 (z_df 8)) 31 (fun _ => 0)) 32 (z_df 6)) 33 (fun _ => 0)) 34 (fun _ => 0)) 35 (fun _ => 0)) 36 (z_df 9)) (36 + 1) (fun _ => 0)) (36 + 2) (fun _ => 0)) 39 (z_df 1)) 40 (z_df 3)) (40 + 1) (fun _ => 0)) 42 (fun _ => 0)) 43 (z_df 4)) 44 (fun _ => 0)) 45 (z_df 0)) 46 (z_df 3)) (46 + 1) (fun _ => 0)) 48 (fun _ => 0)) 45 3 (-1)) 49 (z_df 5)) 50 (fun _ => 0)) 51 (fun _ => 0)) 52 (fun _ => 0)) 53 (fun _ => 0)) 0 12 (-1)) 0 14 (-1)) 54 (fun _ => 0))
set_option maxRecDepth 100000 in
set_option maxHeartbeats 4000000 in
theorem c_X10_init {d sz : Nat} {S : zSh} {M : zMem} (hS : S 0 = (10, 17, fun _ => -1)) : zX (d + 4) 54 5132 mX10_init [zn 0] 1 S M (fun v sz' S' M' => v = none ∧ sz' = 55 ∧ (∀ i, i < 55 → S' i = lyS i) ∧ M' = wlM M) := by
  refine zX_of pl_RX10 [some (zn 0)] 0 rfl rfl ?_
  refine x_aload_n 1 rfl dX10_init_0 0 rfl rfl ?_
  refine x_objInit 4 rfl lX10_1 w_oi w_oc dX10_init_1 (Nat.le_of_ble_eq_true rfl) ?_
  refine x_aload_n 5 rfl dX10_init_4 0 rfl rfl ?_
  refine x_new (N := 18) (sz := 1) 8 rfl nX10_7 dX10_init_5 ?_
  refine x_dupr 9 rfl dX10_init_8 ?_
  refine x_callI  12 rfl lX10_9 dX10_init_9 (c_X7_init (sz := 0) (a := 1) z_sup_eq) rfl rfl (Nat.le_of_ble_eq_true rfl) ?_
  rintro v sz1 S1 M1 ⟨rfl, rfl, rfl, rfl⟩
  refine x_putf 15 rfl ffX10_10 rfl dX10_init_12 (by omega) (shS_at (by omega) (z_sup_at (by omega) hS)) (by decide) ?_
  refine x_aload_n 16 rfl dX10_init_15 0 rfl rfl ?_
  refine x_new (N := 18) (sz := 12) 19 rfl nX10_7 dX10_init_16 ?_
  refine x_dupr 20 rfl dX10_init_19 ?_
  refine x_callI  23 rfl lX10_9 dX10_init_20 (c_X7_init (sz := 0) (a := 12) z_sup_eq) rfl rfl (Nat.le_of_ble_eq_true rfl) ?_
  rintro v sz1 S1 M1 ⟨rfl, rfl, rfl, rfl⟩
  refine x_putf 26 rfl ffX10_16 rfl dX10_init_23 (by omega) (shS_at (by omega) (z_sup_at (by omega) z_sup_eq)) (by decide) ?_
  refine x_aload_n 27 rfl dX10_init_26 0 rfl rfl ?_
  refine x_iconst 28 rfl dX10_init_27 (by decide) ?_
  refine x_newq (kd := 24) (sz := 23) RX7 (Or.inl ⟨rfl, rfl⟩) 31 rfl clX10_7 dX10_init_28 2 rfl (by decide) ?_
  refine x_putf 34 rfl ffX10_19 rfl dX10_init_31 (by omega) (z_sup_at (by omega) z_sup_eq) (by decide) ?_
  refine x_aload_n 35 rfl dX10_init_34 0 rfl rfl ?_
  refine x_new (N := 4) (sz := 24) 38 rfl nX10_23 dX10_init_35 ?_
  refine x_dupr 39 rfl dX10_init_38 ?_
  refine x_callI  42 rfl lX10_25 dX10_init_39 (c_X2_init (sz := 0) (a := 24) z_sup_eq) rfl rfl (Nat.le_of_ble_eq_true rfl) ?_
  rintro v sz1 S1 M1 ⟨rfl, rfl, rfl, rfl⟩
  refine x_putf 45 rfl ffX10_26 rfl dX10_init_42 (by omega) (lgS_at (by omega) (z_sup_at (by omega) z_sup_eq)) (by decide) ?_
  refine x_aload_n 46 rfl dX10_init_45 0 rfl rfl ?_
  refine x_new (N := 4) (sz := 27) 49 rfl nX10_23 dX10_init_46 ?_
  refine x_dupr 50 rfl dX10_init_49 ?_
  refine x_callI  53 rfl lX10_25 dX10_init_50 (c_X2_init (sz := 0) (a := 27) z_sup_eq) rfl rfl (Nat.le_of_ble_eq_true rfl) ?_
  rintro v sz1 S1 M1 ⟨rfl, rfl, rfl, rfl⟩
  refine x_putf 56 rfl ffX10_30 rfl dX10_init_53 (by omega) (lgS_at (by omega) (z_sup_at (by omega) z_sup_eq)) (by decide) ?_
  refine x_aload_n 57 rfl dX10_init_56 0 rfl rfl ?_
  refine x_new (N := 2) (sz := 30) 60 rfl nX10_33 dX10_init_57 ?_
  refine x_dupr 61 rfl dX10_init_60 ?_
  refine x_callI  64 rfl lX10_35 dX10_init_61 (c_X8_init (sz := 0) z_sup_eq) rfl rfl (Nat.le_of_ble_eq_true rfl) ?_
  rintro v sz1 S1 M1 ⟨rfl, rfl, rfl, rfl⟩
  refine x_putf 67 rfl ffX10_36 rfl dX10_init_64 (by omega) (tpS_at (by omega) (z_sup_at (by omega) z_sup_eq)) (by decide) ?_
  refine x_aload_n 68 rfl dX10_init_67 0 rfl rfl ?_
  refine x_new (N := 10) (sz := 32) 71 rfl nX10_40 dX10_init_68 ?_
  refine x_dupr 72 rfl dX10_init_71 ?_
  refine x_callI  75 rfl lX10_42 dX10_init_72 (c_X6_init (sz := 0) z_sup_eq) rfl rfl (Nat.le_of_ble_eq_true rfl) ?_
  rintro v sz1 S1 M1 ⟨rfl, rfl, rfl, rfl⟩
  refine x_putf 78 rfl ffX10_43 rfl dX10_init_75 (by omega) (rdS_at (by omega) (z_sup_at (by omega) z_sup_eq)) (by decide) ?_
  refine x_aload_n 79 rfl dX10_init_78 0 rfl rfl ?_
  refine x_new (N := 2) (sz := 39) 82 rfl nX10_47 dX10_init_79 ?_
  refine x_dupr 83 rfl dX10_init_82 ?_
  refine x_callI  86 rfl lX10_49 dX10_init_83 (c_X1_init (sz := 0) z_sup_eq) rfl rfl (Nat.le_of_ble_eq_true rfl) ?_
  rintro v sz1 S1 M1 ⟨rfl, rfl, rfl, rfl⟩
  refine x_putf 89 rfl ffX10_50 rfl dX10_init_86 (by omega) (jdS_at (by omega) (z_sup_at (by omega) z_sup_eq)) (by decide) ?_
  refine x_aload_n 90 rfl dX10_init_89 0 rfl rfl ?_
  refine x_new (N := 2) (sz := 43) 93 rfl nX10_54 dX10_init_90 ?_
  refine x_dupr 94 rfl dX10_init_93 ?_
  refine x_aload_n 95 rfl dX10_init_94 0 rfl rfl ?_
  refine x_getr 98 rfl fX10_50 dX10_init_95 (by omega) (z_sup_at (by omega) z_sup_eq) (by decide) (39) rfl ?_
  refine x_callI  101 rfl lX10_56 dX10_init_98 (c_X4_init (sz := 0) z_sup_eq) rfl rfl (Nat.le_of_ble_eq_true rfl) ?_
  rintro v sz1 S1 M1 ⟨rfl, rfl, rfl, rfl⟩
  refine x_putf 104 rfl ffX10_59 rfl dX10_init_101 (by omega) (mtS_at (by omega) (z_sup_at (by omega) z_sup_eq)) (by decide) ?_
  refine x_aload_n 105 rfl dX10_init_104 0 rfl rfl ?_
  refine x_new (N := 4) (sz := 45) 108 rfl nX10_63 dX10_init_105 ?_
  refine x_dupr 109 rfl dX10_init_108 ?_
  refine x_aload_n 110 rfl dX10_init_109 0 rfl rfl ?_
  refine x_getr 113 rfl fX10_59 dX10_init_110 (by omega) (z_sup_at (by omega) z_sup_eq) (by decide) (43) rfl ?_
  refine x_callI  116 rfl lX10_65 dX10_init_113 (c_X0_init (sz := 0) z_sup_eq) rfl rfl (Nat.le_of_ble_eq_true rfl) ?_
  rintro v sz1 S1 M1 ⟨rfl, rfl, rfl, rfl⟩
  refine x_putf 119 rfl ffX10_68 rfl dX10_init_116 (by omega) (bsS_at (by omega) (z_sup_at (by omega) z_sup_eq)) (by decide) ?_
  refine x_aload_n 120 rfl dX10_init_119 0 rfl rfl ?_
  refine x_new (N := 7) (sz := 49) 123 rfl nX10_72 dX10_init_120 ?_
  refine x_dupr 124 rfl dX10_init_123 ?_
  refine x_aload_n 125 rfl dX10_init_124 0 rfl rfl ?_
  refine x_getr 128 rfl fX10_50 dX10_init_125 (by omega) (z_sup_at (by omega) z_sup_eq) (by decide) (39) rfl ?_
  refine x_callI  131 rfl lX10_74 dX10_init_128 (c_X5_init (sz := 0) z_sup_eq) rfl rfl (Nat.le_of_ble_eq_true rfl) ?_
  rintro v sz1 S1 M1 ⟨rfl, rfl, rfl, rfl⟩
  refine x_putf 134 rfl ffX10_75 rfl dX10_init_131 (by omega) (ppS_at (by omega) (z_sup_at (by omega) z_sup_eq)) (by decide) ?_
  refine x_aload_n 135 rfl dX10_init_134 0 rfl rfl ?_
  refine x_iconst 136 rfl dX10_init_135 (by decide) ?_
  refine x_puti 139 rfl fX10_79 dX10_init_136 (by omega) z_sup_eq (by decide) ?_
  refine x_aload_n 140 rfl dX10_init_139 0 rfl rfl ?_
  refine x_iconst 141 rfl dX10_init_140 (by decide) ?_
  refine x_puti 144 rfl fX10_83 dX10_init_141 (by omega) z_sup_eq (by decide) ?_
  refine x_aload_n 145 rfl dX10_init_144 0 rfl rfl ?_
  refine x_bipush 147 rfl dX10_init_145 (by decide) ?_
  refine x_newaI (sz := 54) 149 rfl wa_int dX10_init_147 7 rfl (by decide) ?_
  refine x_putf 152 rfl ffX10_86 rfl dX10_init_149 (by omega) (z_sup_at (by omega) z_sup_eq) (by decide) ?_
  refine x_vret dX10_init_152 rfl ?_
  refine ⟨rfl, rfl, fun i hi => ?_, rfl⟩
  have h3 : i = 0 ∨ i = 1 ∨ i = 2 ∨ i = 3 ∨ i = 4 ∨ i = 5 ∨ i = 6 ∨ i = 7 ∨ i = 8 ∨ i = 9 ∨ i = 10 ∨ i = 11 ∨ i = 12 ∨ i = 13 ∨ i = 14 ∨ i = 15 ∨ i = 16 ∨ i = 17 ∨ i = 18 ∨ i = 19 ∨ i = 20 ∨ i = 21 ∨ i = 22 ∨ i = 23 ∨ i = 24 ∨ i = 25 ∨ i = 26 ∨ i = 27 ∨ i = 28 ∨ i = 29 ∨ i = 30 ∨ i = 31 ∨ i = 32 ∨ i = 33 ∨ i = 34 ∨ i = 35 ∨ i = 36 ∨ i = 37 ∨ i = 38 ∨ i = 39 ∨ i = 40 ∨ i = 41 ∨ i = 42 ∨ i = 43 ∨ i = 44 ∨ i = 45 ∨ i = 46 ∨ i = 47 ∨ i = 48 ∨ i = 49 ∨ i = 50 ∨ i = 51 ∨ i = 52 ∨ i = 53 ∨ i = 54 := by omega
  rcases h3 with rfl | rfl | rfl | rfl | rfl | rfl | rfl | rfl | rfl | rfl | rfl | rfl | rfl | rfl | rfl | rfl | rfl | rfl | rfl | rfl | rfl | rfl | rfl | rfl | rfl | rfl | rfl | rfl | rfl | rfl | rfl | rfl | rfl | rfl | rfl | rfl | rfl | rfl | rfl | rfl | rfl | rfl | rfl | rfl | rfl | rfl | rfl | rfl | rfl | rfl | rfl | rfl | rfl | rfl | rfl
  · refine congrArg (fun f => ((10, 17, f) : Nat × Nat × (Nat → Int))) ?_
    funext j
    rcases j with _ | _ | _ | _ | _ | _ | _ | _ | _ | _ | _ | _ | _ | _ | _ | _ | _ | j
    all_goals first | rfl | (simp [wlF]; done)
  all_goals rfl
