theorem z_tbk1 {w : Cond} (i : Nat) (h : tables_1_1[i]? = some w) (hg : goodWord w = true) : w ∈ z_tb := by
  have h := List.mem_of_getElem? h
  exact List.mem_filter.mpr ⟨List.mem_append_right _ (List.mem_append_left _ h), hg⟩
theorem z_tbk2 {w : Cond} (i : Nat) (h : tables_1_2[i]? = some w) (hg : goodWord w = true) : w ∈ z_tb := by
  have h := List.mem_of_getElem? h
  exact List.mem_filter.mpr ⟨List.mem_append_right _ (List.mem_append_right _ (List.mem_append_left _ h)), hg⟩
theorem z_tbk3 {w : Cond} (i : Nat) (h : tables_1_3[i]? = some w) (hg : goodWord w = true) : w ∈ z_tb := by
  have h := List.mem_of_getElem? h
  exact List.mem_filter.mpr ⟨List.mem_append_right _ (List.mem_append_right _ (List.mem_append_right _ (List.mem_append_left _ h))), hg⟩
theorem z_tbk4 {w : Cond} (i : Nat) (h : tables_1_4[i]? = some w) (hg : goodWord w = true) : w ∈ z_tb := by
  have h := List.mem_of_getElem? h
  exact List.mem_filter.mpr ⟨List.mem_append_right _ (List.mem_append_right _ (List.mem_append_right _ (List.mem_append_right _ (List.mem_append_left _ h)))), hg⟩
theorem z_tbk5 {w : Cond} (i : Nat) (h : tables_1_5[i]? = some w) (hg : goodWord w = true) : w ∈ z_tb := by
  have h := List.mem_of_getElem? h
  exact List.mem_filter.mpr ⟨List.mem_append_right _ (List.mem_append_right _ (List.mem_append_right _ (List.mem_append_right _ (List.mem_append_right _ (List.mem_append_left _ h))))), hg⟩
theorem z_tbk6 {w : Cond} (i : Nat) (h : tables_1_6[i]? = some w) (hg : goodWord w = true) : w ∈ z_tb := by
  have h := List.mem_of_getElem? h
  exact List.mem_filter.mpr ⟨List.mem_append_right _ (List.mem_append_right _ (List.mem_append_right _ (List.mem_append_right _ (List.mem_append_right _ (List.mem_append_right _ (List.mem_append_left _ h)))))), hg⟩
theorem z_tbk7 {w : Cond} (i : Nat) (h : tables_1_7[i]? = some w) (hg : goodWord w = true) : w ∈ z_tb := by
  have h := List.mem_of_getElem? h
  exact List.mem_filter.mpr ⟨List.mem_append_right _ (List.mem_append_right _ (List.mem_append_right _ (List.mem_append_right _ (List.mem_append_right _ (List.mem_append_right _ (List.mem_append_right _ (List.mem_append_left _ h))))))), hg⟩
theorem z_tbk8 {w : Cond} (i : Nat) (h : tables_1_8[i]? = some w) (hg : goodWord w = true) : w ∈ z_tb := by
  have h := List.mem_of_getElem? h
  exact List.mem_filter.mpr ⟨List.mem_append_right _ (List.mem_append_right _ (List.mem_append_right _ (List.mem_append_right _ (List.mem_append_right _ (List.mem_append_right _ (List.mem_append_right _ (List.mem_append_right _ (h)))))))), hg⟩
theorem cfX0_in : ∀ w ∈ u_ws RX0 TX0 4, w ∈ tables_1 := by decide +kernel
theorem cfX0 : z_CF 0 RX0 TX0 4 := ⟨rfl, by decide, fun w hw => List.mem_filter.mpr ⟨List.mem_append_right _ (cfX0_in w hw), by revert w; decide +kernel⟩, tyX0_ok, nmX0⟩
theorem cfX1_in : ∀ w ∈ u_ws RX1 TX1 2, w ∈ tables_1 := by decide +kernel
theorem cfX1 : z_CF 1 RX1 TX1 2 := ⟨rfl, by decide, fun w hw => List.mem_filter.mpr ⟨List.mem_append_right _ (cfX1_in w hw), by revert w; decide +kernel⟩, tyX1_ok, nmX1⟩
theorem cfX2_in : ∀ w ∈ u_ws RX2 TX2 4, w ∈ tables_1 := by decide +kernel
theorem cfX2 : z_CF 2 RX2 TX2 4 := ⟨rfl, by decide, fun w hw => List.mem_filter.mpr ⟨List.mem_append_right _ (cfX2_in w hw), by revert w; decide +kernel⟩, tyX2_ok, nmX2⟩
theorem cfX3_in : ∀ w ∈ u_ws RX3 TX3 1, w ∈ tables_1 := by decide +kernel
theorem cfX3 : z_CF 3 RX3 TX3 1 := ⟨rfl, by decide, fun w hw => List.mem_filter.mpr ⟨List.mem_append_right _ (cfX3_in w hw), by revert w; decide +kernel⟩, tyX3_ok, nmX3⟩
theorem cfX4_in : ∀ w ∈ u_ws RX4 TX4 2, w ∈ tables_1 := by decide +kernel
theorem cfX4 : z_CF 4 RX4 TX4 2 := ⟨rfl, by decide, fun w hw => List.mem_filter.mpr ⟨List.mem_append_right _ (cfX4_in w hw), by revert w; decide +kernel⟩, tyX4_ok, nmX4⟩
theorem cfX5_in : ∀ w ∈ u_ws RX5 TX5 7, w ∈ tables_1 := by decide +kernel
theorem cfX5 : z_CF 5 RX5 TX5 7 := ⟨rfl, by decide, fun w hw => List.mem_filter.mpr ⟨List.mem_append_right _ (cfX5_in w hw), by revert w; decide +kernel⟩, tyX5_ok, nmX5⟩
theorem cfX6_in : ∀ w ∈ u_ws RX6 TX6 10, w ∈ tables_1 := by decide +kernel
theorem cfX6 : z_CF 6 RX6 TX6 10 := ⟨rfl, by decide, fun w hw => List.mem_filter.mpr ⟨List.mem_append_right _ (cfX6_in w hw), by revert w; decide +kernel⟩, tyX6_ok, nmX6⟩
theorem cfX7_in : ∀ w ∈ u_ws RX7 TX7 18, w ∈ tables_1 := by decide +kernel
theorem cfX7 : z_CF 7 RX7 TX7 18 := ⟨rfl, by decide, fun w hw => List.mem_filter.mpr ⟨List.mem_append_right _ (cfX7_in w hw), by revert w; decide +kernel⟩, tyX7_ok, nmX7⟩
theorem cfX8_in : ∀ w ∈ u_ws RX8 TX8 2, w ∈ tables_1 := by decide +kernel
theorem cfX8 : z_CF 8 RX8 TX8 2 := ⟨rfl, by decide, fun w hw => List.mem_filter.mpr ⟨List.mem_append_right _ (cfX8_in w hw), by revert w; decide +kernel⟩, tyX8_ok, nmX8⟩
theorem cfX9_in : ∀ w ∈ u_ws RX9 TX9 4, w ∈ tables_1 := by decide +kernel
theorem cfX9 : z_CF 9 RX9 TX9 4 := ⟨rfl, by decide, fun w hw => List.mem_filter.mpr ⟨List.mem_append_right _ (cfX9_in w hw), by revert w; decide +kernel⟩, tyX9_ok, nmX9⟩
theorem cfX10_in : ∀ w ∈ u_ws RX10 TX10 17, w ∈ tables_1 := by decide +kernel
theorem cfX10 : z_CF 10 RX10 TX10 17 := ⟨rfl, by decide, fun w hw => List.mem_filter.mpr ⟨List.mem_append_right _ (cfX10_in w hw), by revert w; decide +kernel⟩, tyX10_ok, nmX10⟩
theorem cfX11_in : ∀ w ∈ u_ws RX11 TX11 46, w ∈ tables_1 := by decide +kernel
theorem cfX11 : z_CF 11 RX11 TX11 46 := ⟨rfl, by decide, fun w hw => List.mem_filter.mpr ⟨List.mem_append_right _ (cfX11_in w hw), by revert w; decide +kernel⟩, tyX11_ok, nmX11⟩
theorem fX7_49 : z_Fd 0 RX7 49 7 0 := ⟨RX7, TX7, 18, cfX7, by decide, Or.inl (z_tbm 37 (by decide +kernel) rfl), rfl, fun _ => rfl, (fun h => absurd h (by decide)), (fun h => absurd h (by decide)), fun _ => rfl⟩
theorem fX7_9 : z_Fd 4 RX7 9 7 1 := ⟨RX7, TX7, 18, cfX7, by decide, Or.inl (z_tbm 41 (by decide +kernel) rfl), rfl, (fun h => absurd h (by decide)), (fun h => absurd h (by decide)), (fun h => absurd h (by decide)), (fun h => absurd rfl h)⟩
theorem ffX7_9 : z_FF RX7 9 7 1 := ⟨RX7, TX7, 18, cfX7, by decide, z_tbm 41 (by decide +kernel) rfl, rfl, rfl, rfl, Or.inr ⟨_, rfl⟩⟩
theorem fX7_15 : z_Fd 4 RX7 15 7 2 := ⟨RX7, TX7, 18, cfX7, by decide, Or.inl (z_tbm 46 (by decide +kernel) rfl), rfl, (fun h => absurd h (by decide)), (fun h => absurd h (by decide)), (fun h => absurd h (by decide)), (fun h => absurd rfl h)⟩
theorem ffX7_15 : z_FF RX7 15 7 2 := ⟨RX7, TX7, 18, cfX7, by decide, z_tbm 46 (by decide +kernel) rfl, rfl, rfl, rfl, Or.inr ⟨_, rfl⟩⟩
theorem fX7_18 : z_Fd 4 RX7 18 7 3 := ⟨RX7, TX7, 18, cfX7, by decide, Or.inl (z_tbm 52 (by decide +kernel) rfl), rfl, (fun h => absurd h (by decide)), (fun h => absurd h (by decide)), (fun h => absurd h (by decide)), (fun h => absurd rfl h)⟩
theorem ffX7_18 : z_FF RX7 18 7 3 := ⟨RX7, TX7, 18, cfX7, by decide, z_tbm 52 (by decide +kernel) rfl, rfl, rfl, rfl, Or.inr ⟨_, rfl⟩⟩
theorem fX7_58 : z_Fd 0 RX7 58 7 4 := ⟨RX7, TX7, 18, cfX7, by decide, Or.inl (z_tbm 56 (by decide +kernel) rfl), rfl, fun _ => rfl, (fun h => absurd h (by decide)), (fun h => absurd h (by decide)), fun _ => rfl⟩
theorem fX7_61 : z_Fd 0 RX7 61 7 5 := ⟨RX7, TX7, 18, cfX7, by decide, Or.inl (z_tbm 60 (by decide +kernel) rfl), rfl, fun _ => rfl, (fun h => absurd h (by decide)), (fun h => absurd h (by decide)), fun _ => rfl⟩
theorem fX7_21 : z_Fd 4 RX7 21 7 6 := ⟨RX7, TX7, 18, cfX7, by decide, Or.inl (z_tbm 64 (by decide +kernel) rfl), rfl, (fun h => absurd h (by decide)), (fun h => absurd h (by decide)), (fun h => absurd h (by decide)), (fun h => absurd rfl h)⟩
theorem ffX7_21 : z_FF RX7 21 7 6 := ⟨RX7, TX7, 18, cfX7, by decide, z_tbm 64 (by decide +kernel) rfl, rfl, rfl, rfl, Or.inr ⟨_, rfl⟩⟩
theorem fX7_24 : z_Fd 4 RX7 24 7 7 := ⟨RX7, TX7, 18, cfX7, by decide, Or.inl (z_tbm 70 (by decide +kernel) rfl), rfl, (fun h => absurd h (by decide)), (fun h => absurd h (by decide)), (fun h => absurd h (by decide)), (fun h => absurd rfl h)⟩
theorem ffX7_24 : z_FF RX7 24 7 7 := ⟨RX7, TX7, 18, cfX7, by decide, z_tbm 70 (by decide +kernel) rfl, rfl, rfl, rfl, Or.inr ⟨_, rfl⟩⟩
theorem fX7_64 : z_Fd 0 RX7 64 7 8 := ⟨RX7, TX7, 18, cfX7, by decide, Or.inl (z_tbm 72 (by decide +kernel) rfl), rfl, fun _ => rfl, (fun h => absurd h (by decide)), (fun h => absurd h (by decide)), fun _ => rfl⟩
theorem fX7_67 : z_Fd 0 RX7 67 7 9 := ⟨RX7, TX7, 18, cfX7, by decide, Or.inl (z_tbm 78 (by decide +kernel) rfl), rfl, fun _ => rfl, (fun h => absurd h (by decide)), (fun h => absurd h (by decide)), fun _ => rfl⟩
theorem fX7_27 : z_Fd 4 RX7 27 7 10 := ⟨RX7, TX7, 18, cfX7, by decide, Or.inl (z_tbm 84 (by decide +kernel) rfl), rfl, (fun h => absurd h (by decide)), (fun h => absurd h (by decide)), (fun h => absurd h (by decide)), (fun h => absurd rfl h)⟩
theorem ffX7_27 : z_FF RX7 27 7 10 := ⟨RX7, TX7, 18, cfX7, by decide, z_tbm 84 (by decide +kernel) rfl, rfl, rfl, rfl, Or.inr ⟨_, rfl⟩⟩
theorem fX7_30 : z_Fd 4 RX7 30 7 11 := ⟨RX7, TX7, 18, cfX7, by decide, Or.inl (z_tbm 86 (by decide +kernel) rfl), rfl, (fun h => absurd h (by decide)), (fun h => absurd h (by decide)), (fun h => absurd h (by decide)), (fun h => absurd rfl h)⟩
theorem ffX7_30 : z_FF RX7 30 7 11 := ⟨RX7, TX7, 18, cfX7, by decide, z_tbm 86 (by decide +kernel) rfl, rfl, rfl, rfl, Or.inr ⟨_, rfl⟩⟩
theorem fX7_70 : z_Fd 0 RX7 70 7 12 := ⟨RX7, TX7, 18, cfX7, by decide, Or.inl (z_tbm 93 (by decide +kernel) rfl), rfl, fun _ => rfl, (fun h => absurd h (by decide)), (fun h => absurd h (by decide)), fun _ => rfl⟩
theorem fX7_33 : z_Fd 4 RX7 33 7 13 := ⟨RX7, TX7, 18, cfX7, by decide, Or.inl (z_tbm 96 (by decide +kernel) rfl), rfl, (fun h => absurd h (by decide)), (fun h => absurd h (by decide)), (fun h => absurd h (by decide)), (fun h => absurd rfl h)⟩
theorem ffX7_33 : z_FF RX7 33 7 13 := ⟨RX7, TX7, 18, cfX7, by decide, z_tbm 96 (by decide +kernel) rfl, rfl, rfl, rfl, Or.inr ⟨_, rfl⟩⟩
theorem fX7_36 : z_Fd 4 RX7 36 7 14 := ⟨RX7, TX7, 18, cfX7, by decide, Or.inl (z_tbm 98 (by decide +kernel) rfl), rfl, (fun h => absurd h (by decide)), (fun h => absurd h (by decide)), (fun h => absurd h (by decide)), (fun h => absurd rfl h)⟩
theorem ffX7_36 : z_FF RX7 36 7 14 := ⟨RX7, TX7, 18, cfX7, by decide, z_tbm 98 (by decide +kernel) rfl, rfl, rfl, rfl, Or.inr ⟨_, rfl⟩⟩
theorem fX7_73 : z_Fd 0 RX7 73 7 15 := ⟨RX7, TX7, 18, cfX7, by decide, Or.inl (z_tbm 100 (by decide +kernel) rfl), rfl, fun _ => rfl, (fun h => absurd h (by decide)), (fun h => absurd h (by decide)), fun _ => rfl⟩
theorem fX7_41 : z_Fd 4 RX7 41 7 16 := ⟨RX7, TX7, 18, cfX7, by decide, Or.inl (z_tbm 102 (by decide +kernel) rfl), rfl, (fun h => absurd h (by decide)), (fun h => absurd h (by decide)), (fun h => absurd h (by decide)), (fun h => absurd rfl h)⟩
theorem ffX7_41 : z_FF RX7 41 7 16 := ⟨RX7, TX7, 18, cfX7, by decide, z_tbm 102 (by decide +kernel) rfl, rfl, rfl, rfl, Or.inr ⟨_, rfl⟩⟩
theorem fX7_45 : z_Fd 0 RX7 45 7 17 := ⟨RX7, TX7, 18, cfX7, by decide, Or.inl (z_tbm 103 (by decide +kernel) rfl), rfl, fun _ => rfl, (fun h => absurd h (by decide)), (fun h => absurd h (by decide)), fun _ => rfl⟩
theorem fX2_11 : z_Fd 4 RX2 11 2 0 := ⟨RX2, TX2, 4, cfX2, by decide, Or.inl (z_tbm 150 (by decide +kernel) rfl), rfl, (fun h => absurd h (by decide)), (fun h => absurd h (by decide)), (fun h => absurd h (by decide)), (fun h => absurd rfl h)⟩
theorem ffX2_11 : z_FF RX2 11 2 0 := ⟨RX2, TX2, 4, cfX2, by decide, z_tbm 150 (by decide +kernel) rfl, rfl, rfl, rfl, Or.inr ⟨_, rfl⟩⟩
theorem fX2_15 : z_Fd 4 RX2 15 2 1 := ⟨RX2, TX2, 4, cfX2, by decide, Or.inl (z_tbm 151 (by decide +kernel) rfl), rfl, (fun h => absurd h (by decide)), (fun h => absurd h (by decide)), (fun h => absurd h (by decide)), (fun h => absurd rfl h)⟩
theorem ffX2_15 : z_FF RX2 15 2 1 := ⟨RX2, TX2, 4, cfX2, by decide, z_tbm 151 (by decide +kernel) rfl, rfl, rfl, rfl, Or.inr ⟨_, rfl⟩⟩
theorem fX2_28 : z_Fd 0 RX2 28 2 2 := ⟨RX2, TX2, 4, cfX2, by decide, Or.inl (z_tbm 152 (by decide +kernel) rfl), rfl, fun _ => rfl, (fun h => absurd h (by decide)), (fun h => absurd h (by decide)), fun _ => rfl⟩
theorem fX2_18 : z_Fd 0 RX2 18 2 3 := ⟨RX2, TX2, 4, cfX2, by decide, Or.inl (z_tbm 153 (by decide +kernel) rfl), rfl, fun _ => rfl, (fun h => absurd h (by decide)), (fun h => absurd h (by decide)), fun _ => rfl⟩
theorem fX8_9 : z_Fd 4 RX8 9 8 0 := ⟨RX8, TX8, 2, cfX8, by decide, Or.inl (z_tbm 170 (by decide +kernel) rfl), rfl, (fun h => absurd h (by decide)), (fun h => absurd h (by decide)), (fun h => absurd h (by decide)), (fun h => absurd rfl h)⟩
theorem ffX8_9 : z_FF RX8 9 8 0 := ⟨RX8, TX8, 2, cfX8, by decide, z_tbm 170 (by decide +kernel) rfl, rfl, rfl, rfl, Or.inr ⟨_, rfl⟩⟩
theorem fX8_15 : z_Fd 0 RX8 15 8 1 := ⟨RX8, TX8, 2, cfX8, by decide, Or.inl (z_tbm 171 (by decide +kernel) rfl), rfl, fun _ => rfl, (fun h => absurd h (by decide)), (fun h => absurd h (by decide)), fun _ => rfl⟩
theorem fX9_18 : z_Fd 0 RX9 18 9 0 := ⟨RX9, TX9, 4, cfX9, by decide, Or.inl (z_tbm 190 (by decide +kernel) rfl), rfl, fun _ => rfl, (fun h => absurd h (by decide)), (fun h => absurd h (by decide)), fun _ => rfl⟩
theorem fX9_22 : z_Fd 0 RX9 22 9 1 := ⟨RX9, TX9, 4, cfX9, by decide, Or.inl (z_tbm 193 (by decide +kernel) rfl), rfl, fun _ => rfl, (fun h => absurd h (by decide)), (fun h => absurd h (by decide)), fun _ => rfl⟩
theorem fX9_11 : z_Fd 4 RX9 11 9 2 := ⟨RX9, TX9, 4, cfX9, by decide, Or.inl (z_tbm 195 (by decide +kernel) rfl), rfl, (fun h => absurd h (by decide)), (fun h => absurd h (by decide)), (fun h => absurd h (by decide)), (fun h => absurd rfl h)⟩
theorem ffX9_11 : z_FF RX9 11 9 2 := ⟨RX9, TX9, 4, cfX9, by decide, z_tbm 195 (by decide +kernel) rfl, rfl, rfl, rfl, Or.inr ⟨_, rfl⟩⟩
theorem fX9_15 : z_Fd 4 RX9 15 9 3 := ⟨RX9, TX9, 4, cfX9, by decide, Or.inl (z_tbm 196 (by decide +kernel) rfl), rfl, (fun h => absurd h (by decide)), (fun h => absurd h (by decide)), (fun h => absurd h (by decide)), (fun h => absurd rfl h)⟩
theorem ffX9_15 : z_FF RX9 15 9 3 := ⟨RX9, TX9, 4, cfX9, by decide, z_tbm 196 (by decide +kernel) rfl, rfl, rfl, rfl, Or.inr ⟨_, rfl⟩⟩
theorem fX6_9 : z_Fd 4 RX6 9 6 0 := ⟨RX6, TX6, 10, cfX6, by decide, Or.inl (z_tbm 208 (by decide +kernel) rfl), rfl, (fun h => absurd h (by decide)), (fun h => absurd h (by decide)), (fun h => absurd h (by decide)), (fun h => absurd rfl h)⟩
theorem ffX6_9 : z_FF RX6 9 6 0 := ⟨RX6, TX6, 10, cfX6, by decide, z_tbm 208 (by decide +kernel) rfl, rfl, rfl, rfl, Or.inr ⟨_, rfl⟩⟩
theorem fX6_15 : z_Fd 4 RX6 15 6 1 := ⟨RX6, TX6, 10, cfX6, by decide, Or.inl (z_tbm 209 (by decide +kernel) rfl), rfl, (fun h => absurd h (by decide)), (fun h => absurd h (by decide)), (fun h => absurd h (by decide)), (fun h => absurd rfl h)⟩
theorem ffX6_15 : z_FF RX6 15 6 1 := ⟨RX6, TX6, 10, cfX6, by decide, z_tbm 209 (by decide +kernel) rfl, rfl, rfl, rfl, Or.inr ⟨_, rfl⟩⟩
theorem fX6_18 : z_Fd 4 RX6 18 6 2 := ⟨RX6, TX6, 10, cfX6, by decide, Or.inl (z_tbm 210 (by decide +kernel) rfl), rfl, (fun h => absurd h (by decide)), (fun h => absurd h (by decide)), (fun h => absurd h (by decide)), (fun h => absurd rfl h)⟩
theorem ffX6_18 : z_FF RX6 18 6 2 := ⟨RX6, TX6, 10, cfX6, by decide, z_tbm 210 (by decide +kernel) rfl, rfl, rfl, rfl, Or.inr ⟨_, rfl⟩⟩
theorem fX6_70 : z_Fd 0 RX6 70 6 3 := ⟨RX6, TX6, 10, cfX6, by decide, Or.inl (z_tbm 211 (by decide +kernel) rfl), rfl, fun _ => rfl, (fun h => absurd h (by decide)), (fun h => absurd h (by decide)), fun _ => rfl⟩
theorem fX6_47 : z_Fd 0 RX6 47 6 4 := ⟨RX6, TX6, 10, cfX6, by decide, Or.inl (z_tbm 212 (by decide +kernel) rfl), rfl, fun _ => rfl, (fun h => absurd h (by decide)), (fun h => absurd h (by decide)), fun _ => rfl⟩
theorem fX6_51 : z_Fd 0 RX6 51 6 5 := ⟨RX6, TX6, 10, cfX6, by decide, Or.inl (z_tbm 213 (by decide +kernel) rfl), rfl, fun _ => rfl, (fun h => absurd h (by decide)), (fun h => absurd h (by decide)), fun _ => rfl⟩
theorem fX6_54 : z_Fd 0 RX6 54 6 6 := ⟨RX6, TX6, 10, cfX6, by decide, Or.inl (z_tbm 214 (by decide +kernel) rfl), rfl, fun _ => rfl, (fun h => absurd h (by decide)), (fun h => absurd h (by decide)), fun _ => rfl⟩
theorem fX6_57 : z_Fd 0 RX6 57 6 7 := ⟨RX6, TX6, 10, cfX6, by decide, Or.inl (z_tbm 215 (by decide +kernel) rfl), rfl, fun _ => rfl, (fun h => absurd h (by decide)), (fun h => absurd h (by decide)), fun _ => rfl⟩
theorem fX6_43 : z_Fd 3 RX6 43 6 8 := ⟨RX6, TX6, 10, cfX6, by decide, Or.inl (z_tbm 216 (by decide +kernel) rfl), rfl, (fun h => absurd h (by decide)), fun _ => rfl, (fun h => absurd h (by decide)), fun _ => rfl⟩
theorem fX6_26 : z_Fd 4 RX6 26 6 9 := ⟨RX6, TX6, 10, cfX6, by decide, Or.inl (z_tbm 217 (by decide +kernel) rfl), rfl, (fun h => absurd h (by decide)), (fun h => absurd h (by decide)), (fun h => absurd h (by decide)), (fun h => absurd rfl h)⟩
theorem ffX6_26 : z_FF RX6 26 6 9 := ⟨RX6, TX6, 10, cfX6, by decide, z_tbm 217 (by decide +kernel) rfl, rfl, rfl, rfl, Or.inl ⟨_, rfl⟩⟩
theorem fX3_9 : z_Fd 4 RX3 9 3 0 := ⟨RX3, TX3, 1, cfX3, by decide, Or.inl (z_tbm 252 (by decide +kernel) rfl), rfl, (fun h => absurd h (by decide)), (fun h => absurd h (by decide)), (fun h => absurd h (by decide)), (fun h => absurd rfl h)⟩
theorem ffX3_9 : z_FF RX3 9 3 0 := ⟨RX3, TX3, 1, cfX3, by decide, z_tbm 252 (by decide +kernel) rfl, rfl, rfl, rfl, Or.inr ⟨_, rfl⟩⟩
theorem fX1_12 : z_Fd 4 RX1 12 1 0 := ⟨RX1, TX1, 2, cfX1, by decide, Or.inl (z_tbm 256 (by decide +kernel) rfl), rfl, (fun h => absurd h (by decide)), (fun h => absurd h (by decide)), (fun h => absurd h (by decide)), (fun h => absurd rfl h)⟩
theorem ffX1_12 : z_FF RX1 12 1 0 := ⟨RX1, TX1, 2, cfX1, by decide, z_tbm 256 (by decide +kernel) rfl, rfl, rfl, rfl, Or.inl ⟨_, rfl⟩⟩
theorem fX1_18 : z_Fd 4 RX1 18 1 1 := ⟨RX1, TX1, 2, cfX1, by decide, Or.inl (z_tbm 257 (by decide +kernel) rfl), rfl, (fun h => absurd h (by decide)), (fun h => absurd h (by decide)), (fun h => absurd h (by decide)), (fun h => absurd rfl h)⟩
theorem ffX1_18 : z_FF RX1 18 1 1 := ⟨RX1, TX1, 2, cfX1, by decide, z_tbm 257 (by decide +kernel) rfl, rfl, rfl, rfl, Or.inr ⟨_, rfl⟩⟩
theorem fX4_15 : z_Fd 4 RX4 15 4 0 := ⟨RX4, TX4, 2, cfX4, by decide, Or.inl (z_tbm 269 (by decide +kernel) rfl), rfl, (fun h => absurd h (by decide)), (fun h => absurd h (by decide)), (fun h => absurd h (by decide)), (fun h => absurd rfl h)⟩
theorem ffX4_15 : z_FF RX4 15 4 0 := ⟨RX4, TX4, 2, cfX4, by decide, z_tbm 269 (by decide +kernel) rfl, rfl, rfl, rfl, Or.inl ⟨_, rfl⟩⟩
theorem fX4_9 : z_Fd 4 RX4 9 4 1 := ⟨RX4, TX4, 2, cfX4, by decide, Or.inl (z_tbm 270 (by decide +kernel) rfl), rfl, (fun h => absurd h (by decide)), (fun h => absurd h (by decide)), (fun h => absurd h (by decide)), (fun h => absurd rfl h)⟩
theorem ffX4_9 : z_FF RX4 9 4 1 := ⟨RX4, TX4, 2, cfX4, by decide, z_tbm 270 (by decide +kernel) rfl, rfl, rfl, rfl, Or.inr ⟨_, rfl⟩⟩
theorem fX0_26 : z_Fd 4 RX0 26 0 0 := ⟨RX0, TX0, 4, cfX0, by decide, Or.inl (z_tbm 284 (by decide +kernel) rfl), rfl, (fun h => absurd h (by decide)), (fun h => absurd h (by decide)), (fun h => absurd h (by decide)), (fun h => absurd rfl h)⟩
theorem ffX0_26 : z_FF RX0 26 0 0 := ⟨RX0, TX0, 4, cfX0, by decide, z_tbm 284 (by decide +kernel) rfl, rfl, rfl, rfl, Or.inl ⟨_, rfl⟩⟩
theorem fX0_12 : z_Fd 4 RX0 12 0 1 := ⟨RX0, TX0, 4, cfX0, by decide, Or.inl (z_tbm 285 (by decide +kernel) rfl), rfl, (fun h => absurd h (by decide)), (fun h => absurd h (by decide)), (fun h => absurd h (by decide)), (fun h => absurd rfl h)⟩
theorem ffX0_12 : z_FF RX0 12 0 1 := ⟨RX0, TX0, 4, cfX0, by decide, z_tbm 285 (by decide +kernel) rfl, rfl, rfl, rfl, Or.inl ⟨_, rfl⟩⟩
theorem fX0_18 : z_Fd 4 RX0 18 0 2 := ⟨RX0, TX0, 4, cfX0, by decide, Or.inl (z_tbm 286 (by decide +kernel) rfl), rfl, (fun h => absurd h (by decide)), (fun h => absurd h (by decide)), (fun h => absurd h (by decide)), (fun h => absurd rfl h)⟩
theorem ffX0_18 : z_FF RX0 18 0 2 := ⟨RX0, TX0, 4, cfX0, by decide, z_tbm 286 (by decide +kernel) rfl, rfl, rfl, rfl, Or.inr ⟨_, rfl⟩⟩
theorem fX0_22 : z_Fd 0 RX0 22 0 3 := ⟨RX0, TX0, 4, cfX0, by decide, Or.inl (z_tbm 287 (by decide +kernel) rfl), rfl, fun _ => rfl, (fun h => absurd h (by decide)), (fun h => absurd h (by decide)), fun _ => rfl⟩
theorem fX5_25 : z_Fd 4 RX5 25 5 0 := ⟨RX5, TX5, 7, cfX5, by decide, Or.inl (z_tbm 304 (by decide +kernel) rfl), rfl, (fun h => absurd h (by decide)), (fun h => absurd h (by decide)), (fun h => absurd h (by decide)), (fun h => absurd rfl h)⟩
theorem ffX5_25 : z_FF RX5 25 5 0 := ⟨RX5, TX5, 7, cfX5, by decide, z_tbm 304 (by decide +kernel) rfl, rfl, rfl, rfl, Or.inl ⟨_, rfl⟩⟩
theorem fX5_9 : z_Fd 4 RX5 9 5 1 := ⟨RX5, TX5, 7, cfX5, by decide, Or.inl (z_tbm 305 (by decide +kernel) rfl), rfl, (fun h => absurd h (by decide)), (fun h => absurd h (by decide)), (fun h => absurd h (by decide)), (fun h => absurd rfl h)⟩
theorem ffX5_9 : z_FF RX5 9 5 1 := ⟨RX5, TX5, 7, cfX5, by decide, z_tbm 305 (by decide +kernel) rfl, rfl, rfl, rfl, Or.inr ⟨_, rfl⟩⟩
theorem fX5_15 : z_Fd 4 RX5 15 5 2 := ⟨RX5, TX5, 7, cfX5, by decide, Or.inl (z_tbm 306 (by decide +kernel) rfl), rfl, (fun h => absurd h (by decide)), (fun h => absurd h (by decide)), (fun h => absurd h (by decide)), (fun h => absurd rfl h)⟩
theorem ffX5_15 : z_FF RX5 15 5 2 := ⟨RX5, TX5, 7, cfX5, by decide, z_tbm 306 (by decide +kernel) rfl, rfl, rfl, rfl, Or.inr ⟨_, rfl⟩⟩
theorem fX5_19 : z_Fd 4 RX5 19 5 3 := ⟨RX5, TX5, 7, cfX5, by decide, Or.inl (z_tbm 307 (by decide +kernel) rfl), rfl, (fun h => absurd h (by decide)), (fun h => absurd h (by decide)), (fun h => absurd h (by decide)), (fun h => absurd rfl h)⟩
theorem ffX5_19 : z_FF RX5 19 5 3 := ⟨RX5, TX5, 7, cfX5, by decide, z_tbm 307 (by decide +kernel) rfl, rfl, rfl, rfl, Or.inr ⟨_, rfl⟩⟩
theorem fX5_22 : z_Fd 4 RX5 22 5 4 := ⟨RX5, TX5, 7, cfX5, by decide, Or.inl (z_tbm 308 (by decide +kernel) rfl), rfl, (fun h => absurd h (by decide)), (fun h => absurd h (by decide)), (fun h => absurd h (by decide)), (fun h => absurd rfl h)⟩
theorem ffX5_22 : z_FF RX5 22 5 4 := ⟨RX5, TX5, 7, cfX5, by decide, z_tbm 308 (by decide +kernel) rfl, rfl, rfl, rfl, Or.inr ⟨_, rfl⟩⟩
theorem fX5_123 : z_Fd 0 RX5 123 5 5 := ⟨RX5, TX5, 7, cfX5, by decide, Or.inl (z_tbm 309 (by decide +kernel) rfl), rfl, fun _ => rfl, (fun h => absurd h (by decide)), (fun h => absurd h (by decide)), fun _ => rfl⟩
theorem fX5_126 : z_Fd 0 RX5 126 5 6 := ⟨RX5, TX5, 7, cfX5, by decide, Or.inl (z_tbm 311 (by decide +kernel) rfl), rfl, fun _ => rfl, (fun h => absurd h (by decide)), (fun h => absurd h (by decide)), fun _ => rfl⟩
theorem fX10_10 : z_Fd 4 RX10 10 10 0 := ⟨RX10, TX10, 17, cfX10, by decide, Or.inl (z_tbm 329 (by decide +kernel) rfl), rfl, (fun h => absurd h (by decide)), (fun h => absurd h (by decide)), (fun h => absurd h (by decide)), (fun h => absurd rfl h)⟩
theorem ffX10_10 : z_FF RX10 10 10 0 := ⟨RX10, TX10, 17, cfX10, by decide, z_tbm 329 (by decide +kernel) rfl, rfl, rfl, rfl, Or.inl ⟨_, rfl⟩⟩
theorem fX10_16 : z_Fd 4 RX10 16 10 1 := ⟨RX10, TX10, 17, cfX10, by decide, Or.inl (z_tbm 330 (by decide +kernel) rfl), rfl, (fun h => absurd h (by decide)), (fun h => absurd h (by decide)), (fun h => absurd h (by decide)), (fun h => absurd rfl h)⟩
theorem ffX10_16 : z_FF RX10 16 10 1 := ⟨RX10, TX10, 17, cfX10, by decide, z_tbm 330 (by decide +kernel) rfl, rfl, rfl, rfl, Or.inl ⟨_, rfl⟩⟩
theorem fX10_19 : z_Fd 4 RX10 19 10 2 := ⟨RX10, TX10, 17, cfX10, by decide, Or.inl (z_tbm 331 (by decide +kernel) rfl), rfl, (fun h => absurd h (by decide)), (fun h => absurd h (by decide)), (fun h => absurd h (by decide)), (fun h => absurd rfl h)⟩
theorem ffX10_19 : z_FF RX10 19 10 2 := ⟨RX10, TX10, 17, cfX10, by decide, z_tbm 331 (by decide +kernel) rfl, rfl, rfl, rfl, Or.inr ⟨_, rfl⟩⟩
theorem fX10_287 : z_Fd 2 RX10 287 10 3 := ⟨RX10, TX10, 17, cfX10, by decide, Or.inl (z_tbm 332 (by decide +kernel) rfl), rfl, (fun h => absurd h (by decide)), (fun h => absurd h (by decide)), fun _ => ⟨_, rfl⟩, fun _ => rfl⟩
theorem fX10_26 : z_Fd 4 RX10 26 10 4 := ⟨RX10, TX10, 17, cfX10, by decide, Or.inl (z_tbm 333 (by decide +kernel) rfl), rfl, (fun h => absurd h (by decide)), (fun h => absurd h (by decide)), (fun h => absurd h (by decide)), (fun h => absurd rfl h)⟩
theorem ffX10_26 : z_FF RX10 26 10 4 := ⟨RX10, TX10, 17, cfX10, by decide, z_tbm 333 (by decide +kernel) rfl, rfl, rfl, rfl, Or.inl ⟨_, rfl⟩⟩
theorem fX10_30 : z_Fd 4 RX10 30 10 5 := ⟨RX10, TX10, 17, cfX10, by decide, Or.inl (z_tbm 334 (by decide +kernel) rfl), rfl, (fun h => absurd h (by decide)), (fun h => absurd h (by decide)), (fun h => absurd h (by decide)), (fun h => absurd rfl h)⟩
theorem ffX10_30 : z_FF RX10 30 10 5 := ⟨RX10, TX10, 17, cfX10, by decide, z_tbm 334 (by decide +kernel) rfl, rfl, rfl, rfl, Or.inl ⟨_, rfl⟩⟩
theorem fX10_36 : z_Fd 4 RX10 36 10 6 := ⟨RX10, TX10, 17, cfX10, by decide, Or.inl (z_tbm 335 (by decide +kernel) rfl), rfl, (fun h => absurd h (by decide)), (fun h => absurd h (by decide)), (fun h => absurd h (by decide)), (fun h => absurd rfl h)⟩
theorem ffX10_36 : z_FF RX10 36 10 6 := ⟨RX10, TX10, 17, cfX10, by decide, z_tbm 335 (by decide +kernel) rfl, rfl, rfl, rfl, Or.inl ⟨_, rfl⟩⟩
theorem fX10_43 : z_Fd 4 RX10 43 10 7 := ⟨RX10, TX10, 17, cfX10, by decide, Or.inl (z_tbm 336 (by decide +kernel) rfl), rfl, (fun h => absurd h (by decide)), (fun h => absurd h (by decide)), (fun h => absurd h (by decide)), (fun h => absurd rfl h)⟩
theorem ffX10_43 : z_FF RX10 43 10 7 := ⟨RX10, TX10, 17, cfX10, by decide, z_tbm 336 (by decide +kernel) rfl, rfl, rfl, rfl, Or.inl ⟨_, rfl⟩⟩
theorem fX10_50 : z_Fd 4 RX10 50 10 8 := ⟨RX10, TX10, 17, cfX10, by decide, Or.inl (z_tbm 337 (by decide +kernel) rfl), rfl, (fun h => absurd h (by decide)), (fun h => absurd h (by decide)), (fun h => absurd h (by decide)), (fun h => absurd rfl h)⟩
theorem ffX10_50 : z_FF RX10 50 10 8 := ⟨RX10, TX10, 17, cfX10, by decide, z_tbm 337 (by decide +kernel) rfl, rfl, rfl, rfl, Or.inl ⟨_, rfl⟩⟩
theorem fX10_59 : z_Fd 4 RX10 59 10 9 := ⟨RX10, TX10, 17, cfX10, by decide, Or.inl (z_tbm 338 (by decide +kernel) rfl), rfl, (fun h => absurd h (by decide)), (fun h => absurd h (by decide)), (fun h => absurd h (by decide)), (fun h => absurd rfl h)⟩
theorem ffX10_59 : z_FF RX10 59 10 9 := ⟨RX10, TX10, 17, cfX10, by decide, z_tbm 338 (by decide +kernel) rfl, rfl, rfl, rfl, Or.inl ⟨_, rfl⟩⟩
theorem fX10_68 : z_Fd 4 RX10 68 10 10 := ⟨RX10, TX10, 17, cfX10, by decide, Or.inl (z_tbm 339 (by decide +kernel) rfl), rfl, (fun h => absurd h (by decide)), (fun h => absurd h (by decide)), (fun h => absurd h (by decide)), (fun h => absurd rfl h)⟩
theorem ffX10_68 : z_FF RX10 68 10 10 := ⟨RX10, TX10, 17, cfX10, by decide, z_tbm 339 (by decide +kernel) rfl, rfl, rfl, rfl, Or.inl ⟨_, rfl⟩⟩
theorem fX10_75 : z_Fd 4 RX10 75 10 11 := ⟨RX10, TX10, 17, cfX10, by decide, Or.inl (z_tbm 340 (by decide +kernel) rfl), rfl, (fun h => absurd h (by decide)), (fun h => absurd h (by decide)), (fun h => absurd h (by decide)), (fun h => absurd rfl h)⟩
theorem ffX10_75 : z_FF RX10 75 10 11 := ⟨RX10, TX10, 17, cfX10, by decide, z_tbm 340 (by decide +kernel) rfl, rfl, rfl, rfl, Or.inl ⟨_, rfl⟩⟩
theorem fX10_79 : z_Fd 0 RX10 79 10 12 := ⟨RX10, TX10, 17, cfX10, by decide, Or.inl (z_tbm 341 (by decide +kernel) rfl), rfl, fun _ => rfl, (fun h => absurd h (by decide)), (fun h => absurd h (by decide)), fun _ => rfl⟩
theorem fX10_183 : z_Fd 0 RX10 183 10 13 := ⟨RX10, TX10, 17, cfX10, by decide, Or.inl (z_tbm 342 (by decide +kernel) rfl), rfl, fun _ => rfl, (fun h => absurd h (by decide)), (fun h => absurd h (by decide)), fun _ => rfl⟩
theorem fX10_83 : z_Fd 0 RX10 83 10 14 := ⟨RX10, TX10, 17, cfX10, by decide, Or.inl (z_tbm 343 (by decide +kernel) rfl), rfl, fun _ => rfl, (fun h => absurd h (by decide)), (fun h => absurd h (by decide)), fun _ => rfl⟩
theorem fX10_300 : z_Fd 0 RX10 300 10 15 := ⟨RX10, TX10, 17, cfX10, by decide, Or.inl (z_tbm 344 (by decide +kernel) rfl), rfl, fun _ => rfl, (fun h => absurd h (by decide)), (fun h => absurd h (by decide)), fun _ => rfl⟩
theorem fX10_86 : z_Fd 4 RX10 86 10 16 := ⟨RX10, TX10, 17, cfX10, by decide, Or.inl (z_tbm 345 (by decide +kernel) rfl), rfl, (fun h => absurd h (by decide)), (fun h => absurd h (by decide)), (fun h => absurd h (by decide)), (fun h => absurd rfl h)⟩
theorem ffX10_86 : z_FF RX10 86 10 16 := ⟨RX10, TX10, 17, cfX10, by decide, z_tbm 345 (by decide +kernel) rfl, rfl, rfl, rfl, Or.inr ⟨_, rfl⟩⟩
theorem fX11_3 : z_Fd 0 RX11 3 11 0 := ⟨RX11, TX11, 46, cfX11, by decide, Or.inl (z_tbm 1032 (by decide +kernel) rfl), rfl, fun _ => rfl, (fun h => absurd h (by decide)), (fun h => absurd h (by decide)), fun _ => rfl⟩
theorem fX11_7 : z_Fd 4 RX11 7 11 1 := ⟨RX11, TX11, 46, cfX11, by decide, Or.inl (z_tbm 1033 (by decide +kernel) rfl), rfl, (fun h => absurd h (by decide)), (fun h => absurd h (by decide)), (fun h => absurd h (by decide)), (fun h => absurd rfl h)⟩
theorem ffX11_7 : z_FF RX11 7 11 1 := ⟨RX11, TX11, 46, cfX11, by decide, z_tbm 1033 (by decide +kernel) rfl, rfl, rfl, rfl, Or.inr ⟨_, rfl⟩⟩
theorem fX11_24 : z_Fd 4 RX11 24 11 2 := ⟨RX11, TX11, 46, cfX11, by decide, Or.inl (z_tbm 1034 (by decide +kernel) rfl), rfl, (fun h => absurd h (by decide)), (fun h => absurd h (by decide)), (fun h => absurd h (by decide)), (fun h => absurd rfl h)⟩
theorem ffX11_24 : z_FF RX11 24 11 2 := ⟨RX11, TX11, 46, cfX11, by decide, z_tbm 1034 (by decide +kernel) rfl, rfl, rfl, rfl, Or.inr ⟨_, rfl⟩⟩
theorem fX11_27 : z_Fd 4 RX11 27 11 3 := ⟨RX11, TX11, 46, cfX11, by decide, Or.inl (z_tbm 1035 (by decide +kernel) rfl), rfl, (fun h => absurd h (by decide)), (fun h => absurd h (by decide)), (fun h => absurd h (by decide)), (fun h => absurd rfl h)⟩
theorem ffX11_27 : z_FF RX11 27 11 3 := ⟨RX11, TX11, 46, cfX11, by decide, z_tbm 1035 (by decide +kernel) rfl, rfl, rfl, rfl, Or.inr ⟨_, rfl⟩⟩
theorem fX11_30 : z_Fd 4 RX11 30 11 4 := ⟨RX11, TX11, 46, cfX11, by decide, Or.inl (z_tbm 1036 (by decide +kernel) rfl), rfl, (fun h => absurd h (by decide)), (fun h => absurd h (by decide)), (fun h => absurd h (by decide)), (fun h => absurd rfl h)⟩
theorem ffX11_30 : z_FF RX11 30 11 4 := ⟨RX11, TX11, 46, cfX11, by decide, z_tbm 1036 (by decide +kernel) rfl, rfl, rfl, rfl, Or.inr ⟨_, rfl⟩⟩
theorem fX11_34 : z_Fd 4 RX11 34 11 5 := ⟨RX11, TX11, 46, cfX11, by decide, Or.inl (z_tbm 1037 (by decide +kernel) rfl), rfl, (fun h => absurd h (by decide)), (fun h => absurd h (by decide)), (fun h => absurd h (by decide)), (fun h => absurd rfl h)⟩
theorem ffX11_34 : z_FF RX11 34 11 5 := ⟨RX11, TX11, 46, cfX11, by decide, z_tbm 1037 (by decide +kernel) rfl, rfl, rfl, rfl, Or.inr ⟨_, rfl⟩⟩
theorem fX11_146 : z_Fd 0 RX11 146 11 6 := ⟨RX11, TX11, 46, cfX11, by decide, Or.inl (z_tbm 1038 (by decide +kernel) rfl), rfl, fun _ => rfl, (fun h => absurd h (by decide)), (fun h => absurd h (by decide)), fun _ => rfl⟩
theorem fX11_37 : z_Fd 4 RX11 37 11 7 := ⟨RX11, TX11, 46, cfX11, by decide, Or.inl (z_tbm 1039 (by decide +kernel) rfl), rfl, (fun h => absurd h (by decide)), (fun h => absurd h (by decide)), (fun h => absurd h (by decide)), (fun h => absurd rfl h)⟩
theorem ffX11_37 : z_FF RX11 37 11 7 := ⟨RX11, TX11, 46, cfX11, by decide, z_tbm 1039 (by decide +kernel) rfl, rfl, rfl, rfl, Or.inr ⟨_, rfl⟩⟩
theorem fX11_221 : z_Fd 0 RX11 221 11 8 := ⟨RX11, TX11, 46, cfX11, by decide, Or.inl (z_tbm 1040 (by decide +kernel) rfl), rfl, fun _ => rfl, (fun h => absurd h (by decide)), (fun h => absurd h (by decide)), fun _ => rfl⟩
theorem fX11_224 : z_Fd 0 RX11 224 11 9 := ⟨RX11, TX11, 46, cfX11, by decide, Or.inl (z_tbm 1041 (by decide +kernel) rfl), rfl, fun _ => rfl, (fun h => absurd h (by decide)), (fun h => absurd h (by decide)), fun _ => rfl⟩
theorem fX11_195 : z_Fd 3 RX11 195 11 10 := ⟨RX11, TX11, 46, cfX11, by decide, Or.inl (z_tbm 1042 (by decide +kernel) rfl), rfl, (fun h => absurd h (by decide)), fun _ => rfl, (fun h => absurd h (by decide)), fun _ => rfl⟩
theorem fX11_41 : z_Fd 4 RX11 41 11 11 := ⟨RX11, TX11, 46, cfX11, by decide, Or.inl (z_tbm 1043 (by decide +kernel) rfl), rfl, (fun h => absurd h (by decide)), (fun h => absurd h (by decide)), (fun h => absurd h (by decide)), (fun h => absurd rfl h)⟩
theorem ffX11_41 : z_FF RX11 41 11 11 := ⟨RX11, TX11, 46, cfX11, by decide, z_tbm 1043 (by decide +kernel) rfl, rfl, rfl, rfl, Or.inr ⟨_, rfl⟩⟩
theorem fX11_44 : z_Fd 4 RX11 44 11 12 := ⟨RX11, TX11, 46, cfX11, by decide, Or.inl (z_tbm 1044 (by decide +kernel) rfl), rfl, (fun h => absurd h (by decide)), (fun h => absurd h (by decide)), (fun h => absurd h (by decide)), (fun h => absurd rfl h)⟩
theorem ffX11_44 : z_FF RX11 44 11 12 := ⟨RX11, TX11, 46, cfX11, by decide, z_tbm 1044 (by decide +kernel) rfl, rfl, rfl, rfl, Or.inr ⟨_, rfl⟩⟩
theorem fX11_143 : z_Fd 0 RX11 143 11 13 := ⟨RX11, TX11, 46, cfX11, by decide, Or.inl (z_tbm 1045 (by decide +kernel) rfl), rfl, fun _ => rfl, (fun h => absurd h (by decide)), (fun h => absurd h (by decide)), fun _ => rfl⟩
theorem fX11_47 : z_Fd 0 RX11 47 11 14 := ⟨RX11, TX11, 46, cfX11, by decide, Or.inl (z_tbm 1046 (by decide +kernel) rfl), rfl, fun _ => rfl, (fun h => absurd h (by decide)), (fun h => absurd h (by decide)), fun _ => rfl⟩
theorem fX11_50 : z_Fd 4 RX11 50 11 15 := ⟨RX11, TX11, 46, cfX11, by decide, Or.inl (z_tbm 1047 (by decide +kernel) rfl), rfl, (fun h => absurd h (by decide)), (fun h => absurd h (by decide)), (fun h => absurd h (by decide)), (fun h => absurd rfl h)⟩
theorem ffX11_50 : z_FF RX11 50 11 15 := ⟨RX11, TX11, 46, cfX11, by decide, z_tbm 1047 (by decide +kernel) rfl, rfl, rfl, rfl, Or.inr ⟨_, rfl⟩⟩
theorem fX11_53 : z_Fd 4 RX11 53 11 16 := ⟨RX11, TX11, 46, cfX11, by decide, Or.inl (z_tbm 1048 (by decide +kernel) rfl), rfl, (fun h => absurd h (by decide)), (fun h => absurd h (by decide)), (fun h => absurd h (by decide)), (fun h => absurd rfl h)⟩
theorem ffX11_53 : z_FF RX11 53 11 16 := ⟨RX11, TX11, 46, cfX11, by decide, z_tbm 1048 (by decide +kernel) rfl, rfl, rfl, rfl, Or.inr ⟨_, rfl⟩⟩
theorem fX11_56 : z_Fd 4 RX11 56 11 17 := ⟨RX11, TX11, 46, cfX11, by decide, Or.inl (z_tbm 1049 (by decide +kernel) rfl), rfl, (fun h => absurd h (by decide)), (fun h => absurd h (by decide)), (fun h => absurd h (by decide)), (fun h => absurd rfl h)⟩
theorem ffX11_56 : z_FF RX11 56 11 17 := ⟨RX11, TX11, 46, cfX11, by decide, z_tbm 1049 (by decide +kernel) rfl, rfl, rfl, rfl, Or.inr ⟨_, rfl⟩⟩
theorem fX11_149 : z_Fd 0 RX11 149 11 18 := ⟨RX11, TX11, 46, cfX11, by decide, Or.inl (z_tbm 1050 (by decide +kernel) rfl), rfl, fun _ => rfl, (fun h => absurd h (by decide)), (fun h => absurd h (by decide)), fun _ => rfl⟩
theorem fX11_169 : z_Fd 0 RX11 169 11 19 := ⟨RX11, TX11, 46, cfX11, by decide, Or.inl (z_tbm 1051 (by decide +kernel) rfl), rfl, fun _ => rfl, (fun h => absurd h (by decide)), (fun h => absurd h (by decide)), fun _ => rfl⟩
theorem fX11_178 : z_Fd 0 RX11 178 11 20 := ⟨RX11, TX11, 46, cfX11, by decide, Or.inl (z_tbm 1052 (by decide +kernel) rfl), rfl, fun _ => rfl, (fun h => absurd h (by decide)), (fun h => absurd h (by decide)), fun _ => rfl⟩
theorem fX11_162 : z_Fd 0 RX11 162 11 21 := ⟨RX11, TX11, 46, cfX11, by decide, Or.inl (z_tbm 1053 (by decide +kernel) rfl), rfl, fun _ => rfl, (fun h => absurd h (by decide)), (fun h => absurd h (by decide)), fun _ => rfl⟩
theorem fX11_249 : z_Fd 0 RX11 249 11 22 := ⟨RX11, TX11, 46, cfX11, by decide, Or.inl (z_tbm 1054 (by decide +kernel) rfl), rfl, fun _ => rfl, (fun h => absurd h (by decide)), (fun h => absurd h (by decide)), fun _ => rfl⟩
theorem fX11_246 : z_Fd 0 RX11 246 11 23 := ⟨RX11, TX11, 46, cfX11, by decide, Or.inl (z_tbm 1055 (by decide +kernel) rfl), rfl, fun _ => rfl, (fun h => absurd h (by decide)), (fun h => absurd h (by decide)), fun _ => rfl⟩
theorem fX11_259 : z_Fd 3 RX11 259 11 24 := ⟨RX11, TX11, 46, cfX11, by decide, Or.inl (z_tbm 1056 (by decide +kernel) rfl), rfl, (fun h => absurd h (by decide)), fun _ => rfl, (fun h => absurd h (by decide)), fun _ => rfl⟩
theorem fX11_279 : z_Fd 3 RX11 279 11 25 := ⟨RX11, TX11, 46, cfX11, by decide, Or.inl (z_tbm 1057 (by decide +kernel) rfl), rfl, (fun h => absurd h (by decide)), fun _ => rfl, (fun h => absurd h (by decide)), fun _ => rfl⟩
theorem fX11_59 : z_Fd 4 RX11 59 11 26 := ⟨RX11, TX11, 46, cfX11, by decide, Or.inl (z_tbm 1058 (by decide +kernel) rfl), rfl, (fun h => absurd h (by decide)), (fun h => absurd h (by decide)), (fun h => absurd h (by decide)), (fun h => absurd rfl h)⟩
theorem ffX11_59 : z_FF RX11 59 11 26 := ⟨RX11, TX11, 46, cfX11, by decide, z_tbm 1058 (by decide +kernel) rfl, rfl, rfl, rfl, Or.inr ⟨_, rfl⟩⟩
theorem fX11_285 : z_Fd 0 RX11 285 11 27 := ⟨RX11, TX11, 46, cfX11, by decide, Or.inl (z_tbm 1059 (by decide +kernel) rfl), rfl, fun _ => rfl, (fun h => absurd h (by decide)), (fun h => absurd h (by decide)), fun _ => rfl⟩
theorem fX11_288 : z_Fd 0 RX11 288 11 28 := ⟨RX11, TX11, 46, cfX11, by decide, Or.inl (z_tbm 1060 (by decide +kernel) rfl), rfl, fun _ => rfl, (fun h => absurd h (by decide)), (fun h => absurd h (by decide)), fun _ => rfl⟩
theorem fX11_62 : z_Fd 4 RX11 62 11 29 := ⟨RX11, TX11, 46, cfX11, by decide, Or.inl (z_tbm 1061 (by decide +kernel) rfl), rfl, (fun h => absurd h (by decide)), (fun h => absurd h (by decide)), (fun h => absurd h (by decide)), (fun h => absurd rfl h)⟩
theorem ffX11_62 : z_FF RX11 62 11 29 := ⟨RX11, TX11, 46, cfX11, by decide, z_tbm 1061 (by decide +kernel) rfl, rfl, rfl, rfl, Or.inr ⟨_, rfl⟩⟩
theorem fX11_65 : z_Fd 4 RX11 65 11 30 := ⟨RX11, TX11, 46, cfX11, by decide, Or.inl (z_tbm 1062 (by decide +kernel) rfl), rfl, (fun h => absurd h (by decide)), (fun h => absurd h (by decide)), (fun h => absurd h (by decide)), (fun h => absurd rfl h)⟩
theorem ffX11_65 : z_FF RX11 65 11 30 := ⟨RX11, TX11, 46, cfX11, by decide, z_tbm 1062 (by decide +kernel) rfl, rfl, rfl, rfl, Or.inr ⟨_, rfl⟩⟩
theorem fX11_68 : z_Fd 4 RX11 68 11 31 := ⟨RX11, TX11, 46, cfX11, by decide, Or.inl (z_tbm 1063 (by decide +kernel) rfl), rfl, (fun h => absurd h (by decide)), (fun h => absurd h (by decide)), (fun h => absurd h (by decide)), (fun h => absurd rfl h)⟩
theorem ffX11_68 : z_FF RX11 68 11 31 := ⟨RX11, TX11, 46, cfX11, by decide, z_tbm 1063 (by decide +kernel) rfl, rfl, rfl, rfl, Or.inr ⟨_, rfl⟩⟩
theorem fX11_11 : z_Fd 0 RX11 11 11 32 := ⟨RX11, TX11, 46, cfX11, by decide, Or.inl (z_tbm 1064 (by decide +kernel) rfl), rfl, fun _ => rfl, (fun h => absurd h (by decide)), (fun h => absurd h (by decide)), fun _ => rfl⟩
theorem fX11_71 : z_Fd 4 RX11 71 11 33 := ⟨RX11, TX11, 46, cfX11, by decide, Or.inl (z_tbm 1065 (by decide +kernel) rfl), rfl, (fun h => absurd h (by decide)), (fun h => absurd h (by decide)), (fun h => absurd h (by decide)), (fun h => absurd rfl h)⟩
theorem ffX11_71 : z_FF RX11 71 11 33 := ⟨RX11, TX11, 46, cfX11, by decide, z_tbm 1065 (by decide +kernel) rfl, rfl, rfl, rfl, Or.inr ⟨_, rfl⟩⟩
theorem fX11_75 : z_Fd 4 RX11 75 11 34 := ⟨RX11, TX11, 46, cfX11, by decide, Or.inl (z_tbm 1066 (by decide +kernel) rfl), rfl, (fun h => absurd h (by decide)), (fun h => absurd h (by decide)), (fun h => absurd h (by decide)), (fun h => absurd rfl h)⟩
theorem ffX11_75 : z_FF RX11 75 11 34 := ⟨RX11, TX11, 46, cfX11, by decide, z_tbm 1066 (by decide +kernel) rfl, rfl, rfl, rfl, Or.inr ⟨_, rfl⟩⟩
theorem fX11_78 : z_Fd 0 RX11 78 11 35 := ⟨RX11, TX11, 46, cfX11, by decide, Or.inl (z_tbm 1067 (by decide +kernel) rfl), rfl, fun _ => rfl, (fun h => absurd h (by decide)), (fun h => absurd h (by decide)), fun _ => rfl⟩
theorem fX11_419 : z_Fd 0 RX11 419 11 36 := ⟨RX11, TX11, 46, cfX11, by decide, Or.inl (z_tbm 1068 (by decide +kernel) rfl), rfl, fun _ => rfl, (fun h => absurd h (by decide)), (fun h => absurd h (by decide)), fun _ => rfl⟩
theorem fX11_434 : z_Fd 0 RX11 434 11 37 := ⟨RX11, TX11, 46, cfX11, by decide, Or.inl (z_tbm 1069 (by decide +kernel) rfl), rfl, fun _ => rfl, (fun h => absurd h (by decide)), (fun h => absurd h (by decide)), fun _ => rfl⟩
theorem fX11_428 : z_Fd 0 RX11 428 11 38 := ⟨RX11, TX11, 46, cfX11, by decide, Or.inl (z_tbm 1070 (by decide +kernel) rfl), rfl, fun _ => rfl, (fun h => absurd h (by decide)), (fun h => absurd h (by decide)), fun _ => rfl⟩
theorem fX11_431 : z_Fd 3 RX11 431 11 39 := ⟨RX11, TX11, 46, cfX11, by decide, Or.inl (z_tbm 1071 (by decide +kernel) rfl), rfl, (fun h => absurd h (by decide)), fun _ => rfl, (fun h => absurd h (by decide)), fun _ => rfl⟩
theorem fX11_437 : z_Fd 3 RX11 437 11 40 := ⟨RX11, TX11, 46, cfX11, by decide, Or.inl (z_tbm 1072 (by decide +kernel) rfl), rfl, (fun h => absurd h (by decide)), fun _ => rfl, (fun h => absurd h (by decide)), fun _ => rfl⟩
theorem fX11_81 : z_Fd 4 RX11 81 11 41 := ⟨RX11, TX11, 46, cfX11, by decide, Or.inl (z_tbm 1073 (by decide +kernel) rfl), rfl, (fun h => absurd h (by decide)), (fun h => absurd h (by decide)), (fun h => absurd h (by decide)), (fun h => absurd rfl h)⟩
theorem ffX11_81 : z_FF RX11 81 11 41 := ⟨RX11, TX11, 46, cfX11, by decide, z_tbm 1073 (by decide +kernel) rfl, rfl, rfl, rfl, Or.inr ⟨_, rfl⟩⟩
theorem fX11_84 : z_Fd 4 RX11 84 11 42 := ⟨RX11, TX11, 46, cfX11, by decide, Or.inl (z_tbm 1074 (by decide +kernel) rfl), rfl, (fun h => absurd h (by decide)), (fun h => absurd h (by decide)), (fun h => absurd h (by decide)), (fun h => absurd rfl h)⟩
theorem ffX11_84 : z_FF RX11 84 11 42 := ⟨RX11, TX11, 46, cfX11, by decide, z_tbm 1074 (by decide +kernel) rfl, rfl, rfl, rfl, Or.inr ⟨_, rfl⟩⟩
theorem fX11_87 : z_Fd 0 RX11 87 11 43 := ⟨RX11, TX11, 46, cfX11, by decide, Or.inl (z_tbm 1075 (by decide +kernel) rfl), rfl, fun _ => rfl, (fun h => absurd h (by decide)), (fun h => absurd h (by decide)), fun _ => rfl⟩
theorem fX11_460 : z_Fd 0 RX11 460 11 44 := ⟨RX11, TX11, 46, cfX11, by decide, Or.inl (z_tbm 1076 (by decide +kernel) rfl), rfl, fun _ => rfl, (fun h => absurd h (by decide)), (fun h => absurd h (by decide)), fun _ => rfl⟩
theorem fX11_453 : z_Fd 0 RX11 453 11 45 := ⟨RX11, TX11, 46, cfX11, by decide, Or.inl (z_tbm 1077 (by decide +kernel) rfl), rfl, fun _ => rfl, (fun h => absurd h (by decide)), (fun h => absurd h (by decide)), fun _ => rfl⟩
theorem fX10_94 : z_Fd 0 RX10 94 7 0 := ⟨RX7, TX7, 18, cfX7, by decide, Or.inr ⟨"WhaleLays", z_nem 36 (by decide +kernel) rfl⟩, rfl, fun _ => rfl, (fun h => absurd h (by decide)), (fun h => absurd h (by decide)), fun _ => rfl⟩
theorem fX4_72 : z_Fd 0 RX4 72 7 0 := ⟨RX7, TX7, 18, cfX7, by decide, Or.inr ⟨"WhaleLays", z_nem 38 (by decide +kernel) rfl⟩, rfl, fun _ => rfl, (fun h => absurd h (by decide)), (fun h => absurd h (by decide)), fun _ => rfl⟩
theorem fX0_72 : z_Fd 0 RX0 72 7 0 := ⟨RX7, TX7, 18, cfX7, by decide, Or.inr ⟨"WhaleLays", z_nem 39 (by decide +kernel) rfl⟩, rfl, fun _ => rfl, (fun h => absurd h (by decide)), (fun h => absurd h (by decide)), fun _ => rfl⟩
theorem fX5_98 : z_Fd 0 RX5 98 7 0 := ⟨RX7, TX7, 18, cfX7, by decide, Or.inr ⟨"WhaleLays", z_nem 40 (by decide +kernel) rfl⟩, rfl, fun _ => rfl, (fun h => absurd h (by decide)), (fun h => absurd h (by decide)), fun _ => rfl⟩
theorem fX1_49 : z_Fd 4 RX1 49 7 1 := ⟨RX7, TX7, 18, cfX7, by decide, Or.inr ⟨"WhaleLays", z_nem 42 (by decide +kernel) rfl⟩, rfl, (fun h => absurd h (by decide)), (fun h => absurd h (by decide)), (fun h => absurd h (by decide)), (fun h => absurd rfl h)⟩
theorem fX10_112 : z_Fd 4 RX10 112 7 1 := ⟨RX7, TX7, 18, cfX7, by decide, Or.inr ⟨"WhaleLays", z_nem 43 (by decide +kernel) rfl⟩, rfl, (fun h => absurd h (by decide)), (fun h => absurd h (by decide)), (fun h => absurd h (by decide)), (fun h => absurd rfl h)⟩
theorem fX4_93 : z_Fd 4 RX4 93 7 1 := ⟨RX7, TX7, 18, cfX7, by decide, Or.inr ⟨"WhaleLays", z_nem 44 (by decide +kernel) rfl⟩, rfl, (fun h => absurd h (by decide)), (fun h => absurd h (by decide)), (fun h => absurd h (by decide)), (fun h => absurd rfl h)⟩
theorem fX5_101 : z_Fd 4 RX5 101 7 1 := ⟨RX7, TX7, 18, cfX7, by decide, Or.inr ⟨"WhaleLays", z_nem 45 (by decide +kernel) rfl⟩, rfl, (fun h => absurd h (by decide)), (fun h => absurd h (by decide)), (fun h => absurd h (by decide)), (fun h => absurd rfl h)⟩
theorem fX10_115 : z_Fd 4 RX10 115 7 2 := ⟨RX7, TX7, 18, cfX7, by decide, Or.inr ⟨"WhaleLays", z_nem 47 (by decide +kernel) rfl⟩, rfl, (fun h => absurd h (by decide)), (fun h => absurd h (by decide)), (fun h => absurd h (by decide)), (fun h => absurd rfl h)⟩
theorem fX4_90 : z_Fd 4 RX4 90 7 2 := ⟨RX7, TX7, 18, cfX7, by decide, Or.inr ⟨"WhaleLays", z_nem 48 (by decide +kernel) rfl⟩, rfl, (fun h => absurd h (by decide)), (fun h => absurd h (by decide)), (fun h => absurd h (by decide)), (fun h => absurd rfl h)⟩
theorem fX2_31 : z_Fd 4 RX2 31 7 2 := ⟨RX7, TX7, 18, cfX7, by decide, Or.inr ⟨"WhaleLays", z_nem 49 (by decide +kernel) rfl⟩, rfl, (fun h => absurd h (by decide)), (fun h => absurd h (by decide)), (fun h => absurd h (by decide)), (fun h => absurd rfl h)⟩
theorem fX0_75 : z_Fd 4 RX0 75 7 2 := ⟨RX7, TX7, 18, cfX7, by decide, Or.inr ⟨"WhaleLays", z_nem 50 (by decide +kernel) rfl⟩, rfl, (fun h => absurd h (by decide)), (fun h => absurd h (by decide)), (fun h => absurd h (by decide)), (fun h => absurd rfl h)⟩
theorem fX1_60 : z_Fd 4 RX1 60 7 2 := ⟨RX7, TX7, 18, cfX7, by decide, Or.inr ⟨"WhaleLays", z_nem 51 (by decide +kernel) rfl⟩, rfl, (fun h => absurd h (by decide)), (fun h => absurd h (by decide)), (fun h => absurd h (by decide)), (fun h => absurd rfl h)⟩
theorem fX10_118 : z_Fd 4 RX10 118 7 3 := ⟨RX7, TX7, 18, cfX7, by decide, Or.inr ⟨"WhaleLays", z_nem 53 (by decide +kernel) rfl⟩, rfl, (fun h => absurd h (by decide)), (fun h => absurd h (by decide)), (fun h => absurd h (by decide)), (fun h => absurd rfl h)⟩
theorem fX1_66 : z_Fd 4 RX1 66 7 3 := ⟨RX7, TX7, 18, cfX7, by decide, Or.inr ⟨"WhaleLays", z_nem 54 (by decide +kernel) rfl⟩, rfl, (fun h => absurd h (by decide)), (fun h => absurd h (by decide)), (fun h => absurd h (by decide)), (fun h => absurd rfl h)⟩
theorem fX4_53 : z_Fd 0 RX4 53 7 4 := ⟨RX7, TX7, 18, cfX7, by decide, Or.inr ⟨"WhaleLays", z_nem 55 (by decide +kernel) rfl⟩, rfl, fun _ => rfl, (fun h => absurd h (by decide)), (fun h => absurd h (by decide)), fun _ => rfl⟩
theorem fX2_39 : z_Fd 0 RX2 39 7 4 := ⟨RX7, TX7, 18, cfX7, by decide, Or.inr ⟨"WhaleLays", z_nem 57 (by decide +kernel) rfl⟩, rfl, fun _ => rfl, (fun h => absurd h (by decide)), (fun h => absurd h (by decide)), fun _ => rfl⟩
theorem fX5_95 : z_Fd 0 RX5 95 7 4 := ⟨RX7, TX7, 18, cfX7, by decide, Or.inr ⟨"WhaleLays", z_nem 58 (by decide +kernel) rfl⟩, rfl, fun _ => rfl, (fun h => absurd h (by decide)), (fun h => absurd h (by decide)), fun _ => rfl⟩
theorem fX5_40 : z_Fd 0 RX5 40 7 5 := ⟨RX7, TX7, 18, cfX7, by decide, Or.inr ⟨"WhaleLays", z_nem 59 (by decide +kernel) rfl⟩, rfl, fun _ => rfl, (fun h => absurd h (by decide)), (fun h => absurd h (by decide)), fun _ => rfl⟩
theorem fX10_143 : z_Fd 0 RX10 143 7 5 := ⟨RX7, TX7, 18, cfX7, by decide, Or.inr ⟨"WhaleLays", z_nem 61 (by decide +kernel) rfl⟩, rfl, fun _ => rfl, (fun h => absurd h (by decide)), (fun h => absurd h (by decide)), fun _ => rfl⟩
theorem fX0_78 : z_Fd 0 RX0 78 7 5 := ⟨RX7, TX7, 18, cfX7, by decide, Or.inr ⟨"WhaleLays", z_nem 62 (by decide +kernel) rfl⟩, rfl, fun _ => rfl, (fun h => absurd h (by decide)), (fun h => absurd h (by decide)), fun _ => rfl⟩
theorem fX4_116 : z_Fd 0 RX4 116 7 5 := ⟨RX7, TX7, 18, cfX7, by decide, Or.inr ⟨"WhaleLays", z_nem 63 (by decide +kernel) rfl⟩, rfl, fun _ => rfl, (fun h => absurd h (by decide)), (fun h => absurd h (by decide)), fun _ => rfl⟩
theorem fX1_28 : z_Fd 4 RX1 28 7 6 := ⟨RX7, TX7, 18, cfX7, by decide, Or.inr ⟨"WhaleLays", z_nem 65 (by decide +kernel) rfl⟩, rfl, (fun h => absurd h (by decide)), (fun h => absurd h (by decide)), (fun h => absurd h (by decide)), (fun h => absurd rfl h)⟩
theorem fX4_60 : z_Fd 4 RX4 60 7 6 := ⟨RX7, TX7, 18, cfX7, by decide, Or.inr ⟨"WhaleLays", z_nem 66 (by decide +kernel) rfl⟩, rfl, (fun h => absurd h (by decide)), (fun h => absurd h (by decide)), (fun h => absurd h (by decide)), (fun h => absurd rfl h)⟩
theorem fX2_36 : z_Fd 4 RX2 36 7 6 := ⟨RX7, TX7, 18, cfX7, by decide, Or.inr ⟨"WhaleLays", z_nem 67 (by decide +kernel) rfl⟩, rfl, (fun h => absurd h (by decide)), (fun h => absurd h (by decide)), (fun h => absurd h (by decide)), (fun h => absurd rfl h)⟩
theorem fX0_81 : z_Fd 4 RX0 81 7 6 := ⟨RX7, TX7, 18, cfX7, by decide, Or.inr ⟨"WhaleLays", z_nem 68 (by decide +kernel) rfl⟩, rfl, (fun h => absurd h (by decide)), (fun h => absurd h (by decide)), (fun h => absurd h (by decide)), (fun h => absurd rfl h)⟩
theorem fX10_153 : z_Fd 4 RX10 153 7 6 := ⟨RX7, TX7, 18, cfX7, by decide, Or.inr ⟨"WhaleLays", z_nem 69 (by decide +kernel) rfl⟩, rfl, (fun h => absurd h (by decide)), (fun h => absurd h (by decide)), (fun h => absurd h (by decide)), (fun h => absurd rfl h)⟩
theorem fX5_62 : z_Fd 0 RX5 62 7 8 := ⟨RX7, TX7, 18, cfX7, by decide, Or.inr ⟨"WhaleLays", z_nem 71 (by decide +kernel) rfl⟩, rfl, fun _ => rfl, (fun h => absurd h (by decide)), (fun h => absurd h (by decide)), fun _ => rfl⟩
theorem fX4_81 : z_Fd 0 RX4 81 7 8 := ⟨RX7, TX7, 18, cfX7, by decide, Or.inr ⟨"WhaleLays", z_nem 73 (by decide +kernel) rfl⟩, rfl, fun _ => rfl, (fun h => absurd h (by decide)), (fun h => absurd h (by decide)), fun _ => rfl⟩
theorem fX0_66 : z_Fd 0 RX0 66 7 8 := ⟨RX7, TX7, 18, cfX7, by decide, Or.inr ⟨"WhaleLays", z_nem 74 (by decide +kernel) rfl⟩, rfl, fun _ => rfl, (fun h => absurd h (by decide)), (fun h => absurd h (by decide)), fun _ => rfl⟩
theorem fX2_42 : z_Fd 0 RX2 42 7 8 := ⟨RX7, TX7, 18, cfX7, by decide, Or.inr ⟨"WhaleLays", z_nem 75 (by decide +kernel) rfl⟩, rfl, fun _ => rfl, (fun h => absurd h (by decide)), (fun h => absurd h (by decide)), fun _ => rfl⟩
theorem fX1_69 : z_Fd 0 RX1 69 7 8 := ⟨RX7, TX7, 18, cfX7, by decide, Or.inr ⟨"WhaleLays", z_nem 76 (by decide +kernel) rfl⟩, rfl, fun _ => rfl, (fun h => absurd h (by decide)), (fun h => absurd h (by decide)), fun _ => rfl⟩
theorem fX10_293 : z_Fd 0 RX10 293 7 8 := ⟨RX7, TX7, 18, cfX7, by decide, Or.inr ⟨"WhaleLays", z_nem 77 (by decide +kernel) rfl⟩, rfl, fun _ => rfl, (fun h => absurd h (by decide)), (fun h => absurd h (by decide)), fun _ => rfl⟩
theorem fX0_69 : z_Fd 0 RX0 69 7 9 := ⟨RX7, TX7, 18, cfX7, by decide, Or.inr ⟨"WhaleLays", z_nem 79 (by decide +kernel) rfl⟩, rfl, fun _ => rfl, (fun h => absurd h (by decide)), (fun h => absurd h (by decide)), fun _ => rfl⟩
theorem fX2_45 : z_Fd 0 RX2 45 7 9 := ⟨RX7, TX7, 18, cfX7, by decide, Or.inr ⟨"WhaleLays", z_nem 80 (by decide +kernel) rfl⟩, rfl, fun _ => rfl, (fun h => absurd h (by decide)), (fun h => absurd h (by decide)), fun _ => rfl⟩
theorem fX4_107 : z_Fd 0 RX4 107 7 9 := ⟨RX7, TX7, 18, cfX7, by decide, Or.inr ⟨"WhaleLays", z_nem 81 (by decide +kernel) rfl⟩, rfl, fun _ => rfl, (fun h => absurd h (by decide)), (fun h => absurd h (by decide)), fun _ => rfl⟩
theorem fX5_138 : z_Fd 0 RX5 138 7 9 := ⟨RX7, TX7, 18, cfX7, by decide, Or.inr ⟨"WhaleLays", z_nem 82 (by decide +kernel) rfl⟩, rfl, fun _ => rfl, (fun h => absurd h (by decide)), (fun h => absurd h (by decide)), fun _ => rfl⟩
theorem fX10_297 : z_Fd 0 RX10 297 7 9 := ⟨RX7, TX7, 18, cfX7, by decide, Or.inr ⟨"WhaleLays", z_nem 83 (by decide +kernel) rfl⟩, rfl, fun _ => rfl, (fun h => absurd h (by decide)), (fun h => absurd h (by decide)), fun _ => rfl⟩
theorem fX10_163 : z_Fd 4 RX10 163 7 10 := ⟨RX7, TX7, 18, cfX7, by decide, Or.inr ⟨"WhaleLays", z_nem 85 (by decide +kernel) rfl⟩, rfl, (fun h => absurd h (by decide)), (fun h => absurd h (by decide)), (fun h => absurd h (by decide)), (fun h => absurd rfl h)⟩
theorem fX5_29 : z_Fd 4 RX5 29 7 11 := ⟨RX7, TX7, 18, cfX7, by decide, Or.inr ⟨"WhaleLays", z_nem 87 (by decide +kernel) rfl⟩, rfl, (fun h => absurd h (by decide)), (fun h => absurd h (by decide)), (fun h => absurd h (by decide)), (fun h => absurd rfl h)⟩
theorem fX4_57 : z_Fd 4 RX4 57 7 11 := ⟨RX7, TX7, 18, cfX7, by decide, Or.inr ⟨"WhaleLays", z_nem 88 (by decide +kernel) rfl⟩, rfl, (fun h => absurd h (by decide)), (fun h => absurd h (by decide)), (fun h => absurd h (by decide)), (fun h => absurd rfl h)⟩
theorem fX0_61 : z_Fd 4 RX0 61 7 11 := ⟨RX7, TX7, 18, cfX7, by decide, Or.inr ⟨"WhaleLays", z_nem 89 (by decide +kernel) rfl⟩, rfl, (fun h => absurd h (by decide)), (fun h => absurd h (by decide)), (fun h => absurd h (by decide)), (fun h => absurd rfl h)⟩
theorem fX2_48 : z_Fd 4 RX2 48 7 11 := ⟨RX7, TX7, 18, cfX7, by decide, Or.inr ⟨"WhaleLays", z_nem 90 (by decide +kernel) rfl⟩, rfl, (fun h => absurd h (by decide)), (fun h => absurd h (by decide)), (fun h => absurd h (by decide)), (fun h => absurd rfl h)⟩
theorem fX1_63 : z_Fd 4 RX1 63 7 11 := ⟨RX7, TX7, 18, cfX7, by decide, Or.inr ⟨"WhaleLays", z_nem 91 (by decide +kernel) rfl⟩, rfl, (fun h => absurd h (by decide)), (fun h => absurd h (by decide)), (fun h => absurd h (by decide)), (fun h => absurd rfl h)⟩
theorem fX10_170 : z_Fd 4 RX10 170 7 11 := ⟨RX7, TX7, 18, cfX7, by decide, Or.inr ⟨"WhaleLays", z_nem 92 (by decide +kernel) rfl⟩, rfl, (fun h => absurd h (by decide)), (fun h => absurd h (by decide)), (fun h => absurd h (by decide)), (fun h => absurd rfl h)⟩
theorem fX5_129 : z_Fd 0 RX5 129 7 12 := ⟨RX7, TX7, 18, cfX7, by decide, Or.inr ⟨"WhaleLays", z_nem 94 (by decide +kernel) rfl⟩, rfl, fun _ => rfl, (fun h => absurd h (by decide)), (fun h => absurd h (by decide)), fun _ => rfl⟩
theorem fX10_268 : z_Fd 0 RX10 268 7 12 := ⟨RX7, TX7, 18, cfX7, by decide, Or.inr ⟨"WhaleLays", z_nem 95 (by decide +kernel) rfl⟩, rfl, fun _ => rfl, (fun h => absurd h (by decide)), (fun h => absurd h (by decide)), fun _ => rfl⟩
theorem fX5_132 : z_Fd 4 RX5 132 7 13 := ⟨RX7, TX7, 18, cfX7, by decide, Or.inr ⟨"WhaleLays", z_nem 97 (by decide +kernel) rfl⟩, rfl, (fun h => absurd h (by decide)), (fun h => absurd h (by decide)), (fun h => absurd h (by decide)), (fun h => absurd rfl h)⟩
theorem fX5_135 : z_Fd 4 RX5 135 7 14 := ⟨RX7, TX7, 18, cfX7, by decide, Or.inr ⟨"WhaleLays", z_nem 99 (by decide +kernel) rfl⟩, rfl, (fun h => absurd h (by decide)), (fun h => absurd h (by decide)), (fun h => absurd h (by decide)), (fun h => absurd rfl h)⟩
theorem fX10_189 : z_Fd 0 RX10 189 7 15 := ⟨RX7, TX7, 18, cfX7, by decide, Or.inr ⟨"WhaleLays", z_nem 101 (by decide +kernel) rfl⟩, rfl, fun _ => rfl, (fun h => absurd h (by decide)), (fun h => absurd h (by decide)), fun _ => rfl⟩
theorem fX10_222 : z_Fd 0 RX10 222 7 17 := ⟨RX7, TX7, 18, cfX7, by decide, Or.inr ⟨"WhaleLays", z_nem 104 (by decide +kernel) rfl⟩, rfl, fun _ => rfl, (fun h => absurd h (by decide)), (fun h => absurd h (by decide)), fun _ => rfl⟩
theorem fX10_296 : z_Fd 0 RX10 296 2 3 := ⟨RX2, TX2, 4, cfX2, by decide, Or.inr ⟨"WhaleLays", z_nem 154 (by decide +kernel) rfl⟩, rfl, fun _ => rfl, (fun h => absurd h (by decide)), (fun h => absurd h (by decide)), fun _ => rfl⟩
theorem fX10_173 : z_Fd 0 RX10 173 8 1 := ⟨RX8, TX8, 2, cfX8, by decide, Or.inr ⟨"WhaleLays", z_nem 172 (by decide +kernel) rfl⟩, rfl, fun _ => rfl, (fun h => absurd h (by decide)), (fun h => absurd h (by decide)), fun _ => rfl⟩
theorem fX0_30 : z_Fd 0 RX0 30 9 0 := ⟨RX9, TX9, 4, cfX9, by decide, Or.inr ⟨"WhaleLays", z_nem 191 (by decide +kernel) rfl⟩, rfl, fun _ => rfl, (fun h => absurd h (by decide)), (fun h => absurd h (by decide)), fun _ => rfl⟩
theorem fX1_73 : z_Fd 0 RX1 73 9 0 := ⟨RX9, TX9, 4, cfX9, by decide, Or.inr ⟨"WhaleLays", z_nem 192 (by decide +kernel) rfl⟩, rfl, fun _ => rfl, (fun h => absurd h (by decide)), (fun h => absurd h (by decide)), fun _ => rfl⟩
theorem fX6_118 : z_Fd 0 RX6 118 9 1 := ⟨RX9, TX9, 4, cfX9, by decide, Or.inr ⟨"WhaleLays", z_nem 194 (by decide +kernel) rfl⟩, rfl, fun _ => rfl, (fun h => absurd h (by decide)), (fun h => absurd h (by decide)), fun _ => rfl⟩
theorem fX0_43 : z_Fd 4 RX0 43 9 3 := ⟨RX9, TX9, 4, cfX9, by decide, Or.inr ⟨"WhaleLays", z_nem 197 (by decide +kernel) rfl⟩, rfl, (fun h => absurd h (by decide)), (fun h => absurd h (by decide)), (fun h => absurd h (by decide)), (fun h => absurd rfl h)⟩
theorem fX1_81 : z_Fd 4 RX1 81 9 3 := ⟨RX9, TX9, 4, cfX9, by decide, Or.inr ⟨"WhaleLays", z_nem 198 (by decide +kernel) rfl⟩, rfl, (fun h => absurd h (by decide)), (fun h => absurd h (by decide)), (fun h => absurd h (by decide)), (fun h => absurd rfl h)⟩
theorem fX10_196 : z_Fd 4 RX10 196 6 9 := ⟨RX6, TX6, 10, cfX6, by decide, Or.inr ⟨"WhaleLays", z_nem 218 (by decide +kernel) rfl⟩, rfl, (fun h => absurd h (by decide)), (fun h => absurd h (by decide)), (fun h => absurd h (by decide)), (fun h => absurd rfl h)⟩
theorem fX10_221 : z_Fd 0 RX10 221 0 3 := ⟨RX0, TX0, 4, cfX0, by decide, Or.inr ⟨"WhaleLays", z_nem 288 (by decide +kernel) rfl⟩, rfl, fun _ => rfl, (fun h => absurd h (by decide)), (fun h => absurd h (by decide)), fun _ => rfl⟩
theorem fX10_277 : z_Fd 0 RX10 277 5 5 := ⟨RX5, TX5, 7, cfX5, by decide, Or.inr ⟨"WhaleLays", z_nem 310 (by decide +kernel) rfl⟩, rfl, fun _ => rfl, (fun h => absurd h (by decide)), (fun h => absurd h (by decide)), fun _ => rfl⟩
theorem fX10_280 : z_Fd 0 RX10 280 5 6 := ⟨RX5, TX5, 7, cfX5, by decide, Or.inr ⟨"WhaleLays", z_nem 312 (by decide +kernel) rfl⟩, rfl, fun _ => rfl, (fun h => absurd h (by decide)), (fun h => absurd h (by decide)), fun _ => rfl⟩
theorem clL_7 : Cond.classLink RL 7 RX10 ∈ z_tb := z_tbm 20 (by decide +kernel) rfl
theorem nL_7 : z_Nw RL 7 10 17 := ⟨RX10, TX10, cfX10, clL_7, z_tbm 21 (by decide +kernel) rfl, z_tbm 1 (by decide +kernel) rfl, by decide +kernel⟩
theorem clX10_7 : Cond.classLink RX10 7 RX7 ∈ z_tb := z_tbm 28 (by decide +kernel) rfl
theorem nX10_7 : z_Nw RX10 7 7 18 := ⟨RX7, TX7, cfX7, clX10_7, z_tbm 29 (by decide +kernel) rfl, z_tbm 2 (by decide +kernel) rfl, by decide +kernel⟩
theorem clX7_39 : Cond.classLink RX7 39 RX9 ∈ z_tb := z_tbm 34 (by decide +kernel) rfl
theorem nX7_39 : z_Nw RX7 39 9 4 := ⟨RX9, TX9, cfX9, clX7_39, z_tbm 185 (by decide +kernel) rfl, z_tbm 6 (by decide +kernel) rfl, by decide +kernel⟩
theorem clX10_23 : Cond.classLink RX10 23 RX2 ∈ z_tb := z_tbm 144 (by decide +kernel) rfl
theorem nX10_23 : z_Nw RX10 23 2 4 := ⟨RX2, TX2, cfX2, clX10_23, z_tbm 145 (by decide +kernel) rfl, z_tbm 3 (by decide +kernel) rfl, by decide +kernel⟩
theorem clX10_33 : Cond.classLink RX10 33 RX8 ∈ z_tb := z_tbm 164 (by decide +kernel) rfl
theorem nX10_33 : z_Nw RX10 33 8 2 := ⟨RX8, TX8, cfX8, clX10_33, z_tbm 165 (by decide +kernel) rfl, z_tbm 4 (by decide +kernel) rfl, by decide +kernel⟩
theorem clX10_40 : Cond.classLink RX10 40 RX6 ∈ z_tb := z_tbm 178 (by decide +kernel) rfl
theorem nX10_40 : z_Nw RX10 40 6 10 := ⟨RX6, TX6, cfX6, clX10_40, z_tbm 179 (by decide +kernel) rfl, z_tbm 5 (by decide +kernel) rfl, by decide +kernel⟩
theorem clX6_21 : Cond.classLink RX6 21 RX9 ∈ z_tb := z_tbm 184 (by decide +kernel) rfl
theorem nX6_21 : z_Nw RX6 21 9 4 := ⟨RX9, TX9, cfX9, clX6_21, z_tbm 185 (by decide +kernel) rfl, z_tbm 6 (by decide +kernel) rfl, by decide +kernel⟩
theorem clX10_47 : Cond.classLink RX10 47 RX1 ∈ z_tb := z_tbm 240 (by decide +kernel) rfl
theorem nX10_47 : z_Nw RX10 47 1 2 := ⟨RX1, TX1, cfX1, clX10_47, z_tbm 241 (by decide +kernel) rfl, z_tbm 7 (by decide +kernel) rfl, by decide +kernel⟩
theorem clX1_9 : Cond.classLink RX1 9 RX3 ∈ z_tb := z_tbm 246 (by decide +kernel) rfl
theorem nX1_9 : z_Nw RX1 9 3 1 := ⟨RX3, TX3, cfX3, clX1_9, z_tbm 247 (by decide +kernel) rfl, z_tbm 8 (by decide +kernel) rfl, by decide +kernel⟩
theorem clX10_54 : Cond.classLink RX10 54 RX4 ∈ z_tb := z_tbm 263 (by decide +kernel) rfl
theorem nX10_54 : z_Nw RX10 54 4 2 := ⟨RX4, TX4, cfX4, clX10_54, z_tbm 264 (by decide +kernel) rfl, z_tbm 9 (by decide +kernel) rfl, by decide +kernel⟩
theorem clX10_63 : Cond.classLink RX10 63 RX0 ∈ z_tb := z_tbm 276 (by decide +kernel) rfl
theorem nX10_63 : z_Nw RX10 63 0 4 := ⟨RX0, TX0, cfX0, clX10_63, z_tbm 277 (by decide +kernel) rfl, z_tbm 10 (by decide +kernel) rfl, by decide +kernel⟩
theorem clX0_9 : Cond.classLink RX0 9 RX3 ∈ z_tb := z_tbm 282 (by decide +kernel) rfl
theorem nX0_9 : z_Nw RX0 9 3 1 := ⟨RX3, TX3, cfX3, clX0_9, z_tbm 247 (by decide +kernel) rfl, z_tbm 8 (by decide +kernel) rfl, by decide +kernel⟩
theorem clX10_72 : Cond.classLink RX10 72 RX5 ∈ z_tb := z_tbm 298 (by decide +kernel) rfl
theorem nX10_72 : z_Nw RX10 72 5 7 := ⟨RX5, TX5, cfX5, clX10_72, z_tbm 299 (by decide +kernel) rfl, z_tbm 11 (by decide +kernel) rfl, by decide +kernel⟩
theorem clX9_9 : Cond.classLink RX9 9 RX9 ∈ z_tb := z_tbm 733 (by decide +kernel) rfl
theorem nX9_9 : z_Nw RX9 9 9 4 := ⟨RX9, TX9, cfX9, clX9_9, z_tbm 185 (by decide +kernel) rfl, z_tbm 6 (by decide +kernel) rfl, by decide +kernel⟩
theorem clL_10 : Cond.classLink RL 10 RX11 ∈ z_tb := z_tbm 1026 (by decide +kernel) rfl
theorem nL_10 : z_Nw RL 10 11 46 := ⟨RX11, TX11, cfX11, clL_10, z_tbm 1027 (by decide +kernel) rfl, z_tbm 12 (by decide +kernel) rfl, by decide +kernel⟩
theorem wa_int : Cond.arrayClass .int ∈ z_tb := z_tbm 142 (by decide +kernel) rfl
theorem wa_long : Cond.arrayClass .long ∈ z_tb := z_tbm 328 (by decide +kernel) rfl
theorem wa_byte : Cond.arrayClass .byte ∈ z_tb := z_tbm 742 (by decide +kernel) rfl
theorem wa_boolean : Cond.arrayClass .boolean ∈ z_tb := z_tbm 1171 (by decide +kernel) rfl
theorem kX10_111 : Cond.constant RX10 111 (-100000000) ∈ z_tb := z_tbm 409 (by decide +kernel) rfl
theorem kJ6_265 : Cond.constant RJ6 265 (1431655765) ∈ z_tb := z_tbm 433 (by decide +kernel) rfl
theorem kJ6_266 : Cond.constant RJ6 266 (858993459) ∈ z_tb := z_tbm 434 (by decide +kernel) rfl
theorem kJ6_267 : Cond.constant RJ6 267 (252645135) ∈ z_tb := z_tbm 435 (by decide +kernel) rfl
theorem kX3_15 : Cond.constant RX3 15 (-2000000000) ∈ z_tb := z_tbm 452 (by decide +kernel) rfl
theorem kX1_39 : Cond.constant RX1 39 (-2000000000) ∈ z_tb := z_tbm 458 (by decide +kernel) rfl
theorem kX0_54 : Cond.constant RX0 54 (-2000000000) ∈ z_tb := z_tbm 771 (by decide +kernel) rfl
theorem kX4_106 : Cond.constant RX4 106 (999999) ∈ z_tb := z_tbm 800 (by decide +kernel) rfl
theorem kX10_267 : Cond.constant RX10 267 (999999) ∈ z_tb := z_tbm 958 (by decide +kernel) rfl
theorem kX10_286 : Cond.constant RX10 286 (1000000) ∈ z_tb := z_tbm 996 (by decide +kernel) rfl
theorem kX4_119 : Cond.constant RX4 119 (1000003) ∈ z_tb := z_tbm 1001 (by decide +kernel) rfl
theorem kX11_104 : Cond.constant RX11 104 (-100000000) ∈ z_tb := z_tbm 1207 (by decide +kernel) rfl
theorem kX11_161 : Cond.constant RX11 161 (1000000) ∈ z_tb := z_tbm 1382 (by decide +kernel) rfl
theorem kX11_343 : Cond.constant RX11 343 (999999) ∈ z_tb := z_tbm 1512 (by decide +kernel) rfl
theorem kX11_412 : Cond.constant RX11 412 (1000000000) ∈ z_tb := z_tbm 1618 (by decide +kernel) rfl
theorem klX3_20 : Cond.constantLong RX3 20 (1000000000) ∈ z_tb := z_tbm 456 (by decide +kernel) rfl
theorem klX3_22 : Cond.constantLong RX3 22 (-1000000000) ∈ z_tb := z_tbm 457 (by decide +kernel) rfl
theorem klX7_100 : Cond.constantLong RX7 100 (1000000000000) ∈ z_tb := z_tbm 874 (by decide +kernel) rfl
theorem klX10_246 : Cond.constantLong RX10 246 (-1) ∈ z_tb := z_tbm 879 (by decide +kernel) rfl
theorem klX5_76 : Cond.constantLong RX5 76 (1000000) ∈ z_tb := z_tbm 898 (by decide +kernel) rfl
theorem klX5_85 : Cond.constantLong RX5 85 (10) ∈ z_tb := z_tbm 905 (by decide +kernel) rfl
theorem klX5_89 : Cond.constantLong RX5 89 (1000000000000) ∈ z_tb := z_tbm 918 (by decide +kernel) rfl
theorem klX5_113 : Cond.constantLong RX5 113 (-1) ∈ z_tb := z_tbm 949 (by decide +kernel) rfl
theorem klX11_255 : Cond.constantLong RX11 255 (1000000000) ∈ z_tb := z_tbm 1263 (by decide +kernel) rfl
theorem klX11_257 : Cond.constantLong RX11 257 (-1000000000) ∈ z_tb := z_tbm 1264 (by decide +kernel) rfl
theorem klX11_306 : Cond.constantLong RX11 306 (99) ∈ z_tb := z_tbm 1281 (by decide +kernel) rfl
theorem klX11_368 : Cond.constantLong RX11 368 (1000000000000) ∈ z_tb := z_tbm 1545 (by decide +kernel) rfl
theorem klX11_392 : Cond.constantLong RX11 392 (-1) ∈ z_tb := z_tbm 1550 (by decide +kernel) rfl
theorem klX11_377 : Cond.constantLong RX11 377 (1000000) ∈ z_tb := z_tbm 1559 (by decide +kernel) rfl
theorem klX11_379 : Cond.constantLong RX11 379 (10) ∈ z_tb := z_tbm 1568 (by decide +kernel) rfl
theorem klX11_451 : Cond.constantLong RX11 451 (1103) ∈ z_tb := z_tbm 1662 (by decide +kernel) rfl
theorem klX11_456 : Cond.constantLong RX11 456 (12345) ∈ z_tb := z_tbm 1663 (by decide +kernel) rfl
theorem klX11_458 : Cond.constantLong RX11 458 (1000003) ∈ z_tb := z_tbm 1664 (by decide +kernel) rfl
theorem z_selm {q : MethodName × Nat} (j : Nat) (h : lw_privs[j]? = some q) : Cond.selects q.1.cls q.1 q.1 ∈ z_tb := List.mem_filter.mpr ⟨List.mem_append_left _ (List.mem_map.mpr ⟨q, List.mem_of_getElem? h, rfl⟩), rfl⟩
abbrev mX10_init : zMt := (yX10_init, prog_1_method_1_code, 1, none)
theorem mb_mX10_init : z_MB mX10_init 0 := ⟨z_tbk1 24 rfl rfl, z_tbm 1 (by decide +kernel) rfl, ⟨by decide, by decide, by decide +kernel⟩, by decide⟩
theorem iv_mX10_init : Cond.instanceMethod yX10_init ∈ z_tb := z_tbm 23 (by decide +kernel) rfl
abbrev mX7_init : zMt := (yX7_init, prog_9_method_1_code, 1, none)
theorem mb_mX7_init : z_MB mX7_init 0 := ⟨z_tbk1 32 rfl rfl, z_tbm 2 (by decide +kernel) rfl, ⟨by decide, by decide, by decide +kernel⟩, by decide⟩
theorem iv_mX7_init : Cond.instanceMethod yX7_init ∈ z_tb := z_tbm 31 (by decide +kernel) rfl
abbrev mX2_init : zMt := (yX2_init, prog_4_method_1_code, 1, none)
theorem mb_mX2_init : z_MB mX2_init 0 := ⟨z_tbk1 148 rfl rfl, z_tbm 3 (by decide +kernel) rfl, ⟨by decide, by decide, by decide +kernel⟩, by decide⟩
theorem iv_mX2_init : Cond.instanceMethod yX2_init ∈ z_tb := z_tbm 147 (by decide +kernel) rfl
abbrev mX8_init : zMt := (yX8_init, prog_10_method_1_code, 1, none)
theorem mb_mX8_init : z_MB mX8_init 0 := ⟨z_tbk1 168 rfl rfl, z_tbm 4 (by decide +kernel) rfl, ⟨by decide, by decide, by decide +kernel⟩, by decide⟩
theorem iv_mX8_init : Cond.instanceMethod yX8_init ∈ z_tb := z_tbm 167 (by decide +kernel) rfl
abbrev mX6_init : zMt := (yX6_init, prog_8_method_1_code, 1, none)
theorem mb_mX6_init : z_MB mX6_init 0 := ⟨z_tbk1 182 rfl rfl, z_tbm 5 (by decide +kernel) rfl, ⟨by decide, by decide, by decide +kernel⟩, by decide⟩
theorem iv_mX6_init : Cond.instanceMethod yX6_init ∈ z_tb := z_tbm 181 (by decide +kernel) rfl
abbrev mX9_init : zMt := (yX9_init, prog_11_method_1_code, 3, none)
theorem mb_mX9_init : z_MB mX9_init 2 := ⟨z_tbk1 188 rfl rfl, z_tbm 6 (by decide +kernel) rfl, ⟨by decide, by decide, by decide +kernel⟩, by decide⟩
theorem iv_mX9_init : Cond.instanceMethod yX9_init ∈ z_tb := z_tbm 187 (by decide +kernel) rfl
abbrev mX1_init : zMt := (yX1_init, prog_3_method_1_code, 1, none)
theorem mb_mX1_init : z_MB mX1_init 0 := ⟨z_tbk2 4 rfl rfl, z_tbm 7 (by decide +kernel) rfl, ⟨by decide, by decide, by decide +kernel⟩, by decide⟩
theorem iv_mX1_init : Cond.instanceMethod yX1_init ∈ z_tb := z_tbm 243 (by decide +kernel) rfl
abbrev mX3_init : zMt := (yX3_init, prog_5_method_1_code, 1, none)
theorem mb_mX3_init : z_MB mX3_init 0 := ⟨z_tbk2 10 rfl rfl, z_tbm 8 (by decide +kernel) rfl, ⟨by decide, by decide, by decide +kernel⟩, by decide⟩
theorem iv_mX3_init : Cond.instanceMethod yX3_init ∈ z_tb := z_tbm 249 (by decide +kernel) rfl
abbrev mX4_init : zMt := (yX4_init, prog_6_method_1_code, 2, none)
theorem mb_mX4_init : z_MB mX4_init 1 := ⟨z_tbk2 27 rfl rfl, z_tbm 9 (by decide +kernel) rfl, ⟨by decide, by decide, by decide +kernel⟩, by decide⟩
theorem iv_mX4_init : Cond.instanceMethod yX4_init ∈ z_tb := z_tbm 266 (by decide +kernel) rfl
abbrev mX0_init : zMt := (yX0_init, prog_2_method_1_code, 2, none)
theorem mb_mX0_init : z_MB mX0_init 1 := ⟨z_tbk2 40 rfl rfl, z_tbm 10 (by decide +kernel) rfl, ⟨by decide, by decide, by decide +kernel⟩, by decide⟩
theorem iv_mX0_init : Cond.instanceMethod yX0_init ∈ z_tb := z_tbm 279 (by decide +kernel) rfl
abbrev mX5_init : zMt := (yX5_init, prog_7_method_1_code, 2, none)
theorem mb_mX5_init : z_MB mX5_init 1 := ⟨z_tbk2 62 rfl rfl, z_tbm 11 (by decide +kernel) rfl, ⟨by decide, by decide, by decide +kernel⟩, by decide⟩
theorem iv_mX5_init : Cond.instanceMethod yX5_init ∈ z_tb := z_tbm 301 (by decide +kernel) rfl
abbrev mX10_sign : zMt := (yX10_sign, prog_1_method_2_code, 3, some .int)
theorem mb_mX10_sign : z_MB mX10_sign 2 := ⟨z_tbk2 144 rfl rfl, z_tbm 1 (by decide +kernel) rfl, ⟨by decide, by decide, by decide +kernel⟩, by decide⟩
theorem iv_mX10_sign : Cond.instanceMethod yX10_sign ∈ z_tb := z_tbm 382 (by decide +kernel) rfl
theorem se_mX10_sign : Cond.selects RX10 yX10_sign yX10_sign ∈ z_tb := z_tbm 383 (by decide +kernel) rfl
abbrev mX10_refuse : zMt := (yX10_refuse, prog_1_method_39_code, 2, some .int)
theorem mb_mX10_refuse : z_MB mX10_refuse 1 := ⟨z_tbk2 148 rfl rfl, z_tbm 1 (by decide +kernel) rfl, ⟨by decide, by decide, by decide +kernel⟩, by decide⟩
theorem iv_mX10_refuse : Cond.instanceMethod yX10_refuse ∈ z_tb := z_tbm 387 (by decide +kernel) rfl
theorem se_mX10_refuse : Cond.selects RX10 yX10_refuse yX10_refuse ∈ z_tb := z_selm (q := (yX10_refuse, 17)) 0 (by decide +kernel)
abbrev mX2_clear : zMt := (yX2_clear, prog_4_method_2_code, 1, none)
theorem mb_mX2_clear : z_MB mX2_clear 0 := ⟨z_tbk2 152 rfl rfl, z_tbm 3 (by decide +kernel) rfl, ⟨by decide, by decide, by decide +kernel⟩, by decide⟩
theorem iv_mX2_clear : Cond.instanceMethod yX2_clear ∈ z_tb := z_tbm 390 (by decide +kernel) rfl
theorem se_mX2_clear : Cond.selects RX2 yX2_clear yX2_clear ∈ z_tb := z_tbm 391 (by decide +kernel) rfl
abbrev mX7_enlist : zMt := (yX7_enlist, prog_9_method_8_code, 4, some .int)
theorem mb_mX7_enlist : z_MB mX7_enlist 2 := ⟨z_tbk2 156 rfl rfl, z_tbm 2 (by decide +kernel) rfl, ⟨by decide, by decide, by decide +kernel⟩, by decide⟩
theorem iv_mX7_enlist : Cond.instanceMethod yX7_enlist ∈ z_tb := z_tbm 394 (by decide +kernel) rfl
theorem se_mX7_enlist : Cond.selects RX7 yX7_enlist yX7_enlist ∈ z_tb := z_tbm 395 (by decide +kernel) rfl
abbrev mX10_accept : zMt := (yX10_accept, prog_1_method_40_code, 2, some .int)
theorem mb_mX10_accept : z_MB mX10_accept 1 := ⟨z_tbk2 160 rfl rfl, z_tbm 1 (by decide +kernel) rfl, ⟨by decide, by decide, by decide +kernel⟩, by decide⟩
theorem iv_mX10_accept : Cond.instanceMethod yX10_accept ∈ z_tb := z_tbm 399 (by decide +kernel) rfl
theorem se_mX10_accept : Cond.selects RX10 yX10_accept yX10_accept ∈ z_tb := z_selm (q := (yX10_accept, 17)) 1 (by decide +kernel)
abbrev mX10_of : zMt := (yX10_of, prog_1_method_3_code, 3, some .int)
theorem mb_mX10_of : z_MB mX10_of 2 := ⟨z_tbk2 164 rfl rfl, z_tbm 1 (by decide +kernel) rfl, ⟨by decide, by decide, by decide +kernel⟩, by decide⟩
theorem iv_mX10_of : Cond.instanceMethod yX10_of ∈ z_tb := z_tbm 402 (by decide +kernel) rfl
theorem se_mX10_of : Cond.selects RX10 yX10_of yX10_of ∈ z_tb := z_tbm 403 (by decide +kernel) rfl
abbrev mX7_hasHand : zMt := (yX7_hasHand, prog_9_method_4_code, 2, some .boolean)
theorem mb_mX7_hasHand : z_MB mX7_hasHand 1 := ⟨z_tbk2 168 rfl rfl, z_tbm 2 (by decide +kernel) rfl, ⟨by decide, by decide, by decide +kernel⟩, by decide⟩
theorem iv_mX7_hasHand : Cond.instanceMethod yX7_hasHand ∈ z_tb := z_tbm 406 (by decide +kernel) rfl
theorem se_mX7_hasHand : Cond.selects RX7 yX7_hasHand yX7_hasHand ∈ z_tb := z_tbm 407 (by decide +kernel) rfl
abbrev mX7_isAboard : zMt := (yX7_isAboard, prog_9_method_6_code, 2, some .boolean)
theorem mb_mX7_isAboard : z_MB mX7_isAboard 1 := ⟨z_tbk2 173 rfl rfl, z_tbm 2 (by decide +kernel) rfl, ⟨by decide, by decide, by decide +kernel⟩, by decide⟩
theorem iv_mX7_isAboard : Cond.instanceMethod yX7_isAboard ∈ z_tb := z_tbm 411 (by decide +kernel) rfl
theorem se_mX7_isAboard : Cond.selects RX7 yX7_isAboard yX7_isAboard ∈ z_tb := z_tbm 412 (by decide +kernel) rfl
abbrev mX1_eatenBy : zMt := (yX1_eatenBy, prog_3_method_3_code, 5, some .int)
theorem mb_mX1_eatenBy : z_MB mX1_eatenBy 2 := ⟨z_tbk2 177 rfl rfl, z_tbm 7 (by decide +kernel) rfl, ⟨by decide, by decide, by decide +kernel⟩, by decide⟩
theorem iv_mX1_eatenBy : Cond.instanceMethod yX1_eatenBy ∈ z_tb := z_tbm 415 (by decide +kernel) rfl
theorem se_mX1_eatenBy : Cond.selects RX1 yX1_eatenBy yX1_eatenBy ∈ z_tb := z_tbm 416 (by decide +kernel) rfl
abbrev mX7_lawInForce : zMt := (yX7_lawInForce, prog_9_method_12_code, 1, some (.object "WhaleLays$Text"))
theorem mb_mX7_lawInForce : z_MB mX7_lawInForce 0 := ⟨z_tbk2 181 rfl rfl, z_tbm 2 (by decide +kernel) rfl, ⟨by decide, by decide, by decide +kernel⟩, by decide⟩
theorem iv_mX7_lawInForce : Cond.instanceMethod yX7_lawInForce ∈ z_tb := z_tbm 419 (by decide +kernel) rfl
theorem se_mX7_lawInForce : Cond.selects RX7 yX7_lawInForce yX7_lawInForce ∈ z_tb := z_tbm 420 (by decide +kernel) rfl
abbrev mX1_askAboutHand : zMt := (yX1_askAboutHand, prog_3_method_5_code, 4, none)
theorem mb_mX1_askAboutHand : z_MB mX1_askAboutHand 3 := ⟨z_tbk2 185 rfl rfl, z_tbm 7 (by decide +kernel) rfl, ⟨by decide, by decide, by decide +kernel⟩, by decide⟩
theorem iv_mX1_askAboutHand : Cond.instanceMethod yX1_askAboutHand ∈ z_tb := z_tbm 424 (by decide +kernel) rfl
theorem se_mX1_askAboutHand : Cond.selects RX1 yX1_askAboutHand yX1_askAboutHand ∈ z_tb := z_selm (q := (yX1_askAboutHand, 2)) 2 (by decide +kernel)
abbrev mX7_crewSize : zMt := (yX7_crewSize, prog_9_method_7_code, 1, some .int)
theorem mb_mX7_crewSize : z_MB mX7_crewSize 0 := ⟨z_tbk2 189 rfl rfl, z_tbm 2 (by decide +kernel) rfl, ⟨by decide, by decide, by decide +kernel⟩, by decide⟩
theorem iv_mX7_crewSize : Cond.instanceMethod yX7_crewSize ∈ z_tb := z_tbm 427 (by decide +kernel) rfl
theorem se_mX7_crewSize : Cond.selects RX7 yX7_crewSize yX7_crewSize ∈ z_tb := z_tbm 428 (by decide +kernel) rfl
abbrev mJ6_bitCount_0f7a4 : zMt := (yJ6_bitCount_0f7a4, prog_14_method_49_code, 1, some .int)
theorem mb_mJ6_bitCount_0f7a4 : z_MB mJ6_bitCount_0f7a4 1 := ⟨z_tbk2 192 rfl rfl, z_tbm 13 (by decide +kernel) rfl, ⟨by decide, by decide, by decide +kernel⟩, by decide⟩
theorem is_mJ6_bitCount_0f7a4 : Cond.static yJ6_bitCount_0f7a4 ∈ z_tb := z_tbm 431 (by decide +kernel) rfl
abbrev mX1_askAboutShip : zMt := (yX1_askAboutShip, prog_3_method_6_code, 3, none)
theorem mb_mX1_askAboutShip : z_MB mX1_askAboutShip 2 := ⟨z_tbk2 199 rfl rfl, z_tbm 7 (by decide +kernel) rfl, ⟨by decide, by decide, by decide +kernel⟩, by decide⟩
theorem iv_mX1_askAboutShip : Cond.instanceMethod yX1_askAboutShip ∈ z_tb := z_tbm 438 (by decide +kernel) rfl
theorem se_mX1_askAboutShip : Cond.selects RX1 yX1_askAboutShip yX1_askAboutShip ∈ z_tb := z_selm (q := (yX1_askAboutShip, 2)) 3 (by decide +kernel)
abbrev mX1_lastTold : zMt := (yX1_lastTold, prog_3_method_7_code, 7, some .int)
theorem mb_mX1_lastTold : z_MB mX1_lastTold 2 := ⟨z_tbk2 203 rfl rfl, z_tbm 7 (by decide +kernel) rfl, ⟨by decide, by decide, by decide +kernel⟩, by decide⟩
theorem iv_mX1_lastTold : Cond.instanceMethod yX1_lastTold ∈ z_tb := z_tbm 442 (by decide +kernel) rfl
theorem se_mX1_lastTold : Cond.selects RX1 yX1_lastTold yX1_lastTold ∈ z_tb := z_selm (q := (yX1_lastTold, 2)) 4 (by decide +kernel)
abbrev mX9_get : zMt := (yX9_get, prog_11_method_6_code, 4, some .int)
theorem mb_mX9_get : z_MB mX9_get 2 := ⟨z_tbk2 207 rfl rfl, z_tbm 6 (by decide +kernel) rfl, ⟨by decide, by decide, by decide +kernel⟩, by decide⟩
theorem iv_mX9_get : Cond.instanceMethod yX9_get ∈ z_tb := z_tbm 445 (by decide +kernel) rfl
theorem se_mX9_get : Cond.selects RX9 yX9_get yX9_get ∈ z_tb := z_tbm 446 (by decide +kernel) rfl
abbrev mX3_value : zMt := (yX3_value, prog_5_method_2_code, 9, some .int)
theorem mb_mX3_value : z_MB mX3_value 3 := ⟨z_tbk2 211 rfl rfl, z_tbm 8 (by decide +kernel) rfl, ⟨by decide, by decide, by decide +kernel⟩, by decide⟩
theorem iv_mX3_value : Cond.instanceMethod yX3_value ∈ z_tb := z_tbm 449 (by decide +kernel) rfl
theorem se_mX3_value : Cond.selects RX3 yX3_value yX3_value ∈ z_tb := z_tbm 450 (by decide +kernel) rfl
abbrev mX3_joined : zMt := (yX3_joined, prog_5_method_3_code, 7, some .int)
theorem mb_mX3_joined : z_MB mX3_joined 3 := ⟨z_tbk2 215 rfl rfl, z_tbm 8 (by decide +kernel) rfl, ⟨by decide, by decide, by decide +kernel⟩, by decide⟩
theorem is_mX3_joined : Cond.static yX3_joined ∈ z_tb := z_tbm 454 (by decide +kernel) rfl
abbrev mJ9_min_7cf53 : zMt := (yJ9_min_7cf53, prog_15_method_69_code, 2, some .int)
theorem mb_mJ9_min_7cf53 : z_MB mJ9_min_7cf53 2 := ⟨z_tbk2 221 rfl rfl, z_tbm 14 (by decide +kernel) rfl, ⟨by decide, by decide, by decide +kernel⟩, by decide⟩
theorem is_mJ9_min_7cf53 : Cond.static yJ9_min_7cf53 ∈ z_tb := z_tbm 460 (by decide +kernel) rfl
abbrev mJ9_max_7cf53 : zMt := (yJ9_max_7cf53, prog_15_method_65_code, 2, some .int)
theorem mb_mJ9_max_7cf53 : z_MB mJ9_max_7cf53 2 := ⟨z_tbk2 224 rfl rfl, z_tbm 14 (by decide +kernel) rfl, ⟨by decide, by decide, by decide +kernel⟩, by decide⟩
theorem is_mJ9_max_7cf53 : Cond.static yJ9_max_7cf53 ∈ z_tb := z_tbm 463 (by decide +kernel) rfl
abbrev mX1_runsOff : zMt := (yX1_runsOff, prog_3_method_4_code, 6, some .boolean)
theorem mb_mX1_runsOff : z_MB mX1_runsOff 4 := ⟨z_tbk2 229 rfl rfl, z_tbm 7 (by decide +kernel) rfl, ⟨by decide, by decide, by decide +kernel⟩, by decide⟩
theorem iv_mX1_runsOff : Cond.instanceMethod yX1_runsOff ∈ z_tb := z_tbm 467 (by decide +kernel) rfl
theorem se_mX1_runsOff : Cond.selects RX1 yX1_runsOff yX1_runsOff ∈ z_tb := z_tbm 468 (by decide +kernel) rfl
abbrev mX7_wholeOf : zMt := (yX7_wholeOf, prog_9_method_17_code, 2, some .int)
theorem mb_mX7_wholeOf : z_MB mX7_wholeOf 1 := ⟨z_tbk2 233 rfl rfl, z_tbm 2 (by decide +kernel) rfl, ⟨by decide, by decide, by decide +kernel⟩, by decide⟩
theorem iv_mX7_wholeOf : Cond.instanceMethod yX7_wholeOf ∈ z_tb := z_tbm 471 (by decide +kernel) rfl
theorem se_mX7_wholeOf : Cond.selects RX7 yX7_wholeOf yX7_wholeOf ∈ z_tb := z_tbm 472 (by decide +kernel) rfl
abbrev mX7_moneyNow : zMt := (yX7_moneyNow, prog_9_method_15_code, 1, some .int)
theorem mb_mX7_moneyNow : z_MB mX7_moneyNow 0 := ⟨z_tbk2 238 rfl rfl, z_tbm 2 (by decide +kernel) rfl, ⟨by decide, by decide, by decide +kernel⟩, by decide⟩
theorem iv_mX7_moneyNow : Cond.instanceMethod yX7_moneyNow ∈ z_tb := z_tbm 476 (by decide +kernel) rfl
theorem se_mX7_moneyNow : Cond.selects RX7 yX7_moneyNow yX7_moneyNow ∈ z_tb := z_tbm 477 (by decide +kernel) rfl
abbrev mX7_priceIn : zMt := (yX7_priceIn, prog_9_method_14_code, 3, some .int)
theorem mb_mX7_priceIn : z_MB mX7_priceIn 1 := ⟨z_tbk3 2 rfl rfl, z_tbm 2 (by decide +kernel) rfl, ⟨by decide, by decide, by decide +kernel⟩, by decide⟩
theorem iv_mX7_priceIn : Cond.instanceMethod yX7_priceIn ∈ z_tb := z_tbm 480 (by decide +kernel) rfl
theorem se_mX7_priceIn : Cond.selects RX7 yX7_priceIn yX7_priceIn ∈ z_tb := z_tbm 481 (by decide +kernel) rfl
abbrev mX7_wholeBy : zMt := (yX7_wholeBy, prog_9_method_16_code, 3, some .int)
theorem mb_mX7_wholeBy : z_MB mX7_wholeBy 2 := ⟨z_tbk3 6 rfl rfl, z_tbm 2 (by decide +kernel) rfl, ⟨by decide, by decide, by decide +kernel⟩, by decide⟩
theorem iv_mX7_wholeBy : Cond.instanceMethod yX7_wholeBy ∈ z_tb := z_tbm 484 (by decide +kernel) rfl
theorem se_mX7_wholeBy : Cond.selects RX7 yX7_wholeBy yX7_wholeBy ∈ z_tb := z_tbm 485 (by decide +kernel) rfl
abbrev mX10_ground : zMt := (yX10_ground, prog_1_method_4_code, 5, some .int)
theorem mb_mX10_ground : z_MB mX10_ground 4 := ⟨z_tbk3 10 rfl rfl, z_tbm 1 (by decide +kernel) rfl, ⟨by decide, by decide, by decide +kernel⟩, by decide⟩
theorem iv_mX10_ground : Cond.instanceMethod yX10_ground ∈ z_tb := z_tbm 488 (by decide +kernel) rfl
theorem se_mX10_ground : Cond.selects RX10 yX10_ground yX10_ground ∈ z_tb := z_tbm 489 (by decide +kernel) rfl
abbrev mX7_groundCanBe : zMt := (yX7_groundCanBe, prog_9_method_2_code, 4, some .boolean)
theorem mb_mX7_groundCanBe : z_MB mX7_groundCanBe 4 := ⟨z_tbk3 13 rfl rfl, z_tbm 2 (by decide +kernel) rfl, ⟨by decide, by decide, by decide +kernel⟩, by decide⟩
theorem is_mX7_groundCanBe : Cond.static yX7_groundCanBe ∈ z_tb := z_tbm 492 (by decide +kernel) rfl
abbrev mX7_addGround : zMt := (yX7_addGround, prog_9_method_9_code, 6, some .int)
theorem mb_mX7_addGround : z_MB mX7_addGround 4 := ⟨z_tbk3 17 rfl rfl, z_tbm 2 (by decide +kernel) rfl, ⟨by decide, by decide, by decide +kernel⟩, by decide⟩
theorem iv_mX7_addGround : Cond.instanceMethod yX7_addGround ∈ z_tb := z_tbm 495 (by decide +kernel) rfl
theorem se_mX7_addGround : Cond.selects RX7 yX7_addGround yX7_addGround ∈ z_tb := z_tbm 496 (by decide +kernel) rfl
abbrev mX10_at : zMt := (yX10_at, prog_1_method_5_code, 3, some .int)
theorem mb_mX10_at : z_MB mX10_at 2 := ⟨z_tbk3 21 rfl rfl, z_tbm 1 (by decide +kernel) rfl, ⟨by decide, by decide, by decide +kernel⟩, by decide⟩
theorem iv_mX10_at : Cond.instanceMethod yX10_at ∈ z_tb := z_tbm 499 (by decide +kernel) rfl
theorem se_mX10_at : Cond.selects RX10 yX10_at yX10_at ∈ z_tb := z_tbm 500 (by decide +kernel) rfl
abbrev mX7_hasGround : zMt := (yX7_hasGround, prog_9_method_5_code, 2, some .boolean)
theorem mb_mX7_hasGround : z_MB mX7_hasGround 1 := ⟨z_tbk3 25 rfl rfl, z_tbm 2 (by decide +kernel) rfl, ⟨by decide, by decide, by decide +kernel⟩, by decide⟩
theorem iv_mX7_hasGround : Cond.instanceMethod yX7_hasGround ∈ z_tb := z_tbm 503 (by decide +kernel) rfl
theorem se_mX7_hasGround : Cond.selects RX7 yX7_hasGround yX7_hasGround ∈ z_tb := z_tbm 504 (by decide +kernel) rfl
abbrev mX7_chanceOf : zMt := (yX7_chanceOf, prog_9_method_13_code, 4, some .int)
theorem mb_mX7_chanceOf : z_MB mX7_chanceOf 2 := ⟨z_tbk3 29 rfl rfl, z_tbm 2 (by decide +kernel) rfl, ⟨by decide, by decide, by decide +kernel⟩, by decide⟩
theorem iv_mX7_chanceOf : Cond.instanceMethod yX7_chanceOf ∈ z_tb := z_tbm 507 (by decide +kernel) rfl
theorem se_mX7_chanceOf : Cond.selects RX7 yX7_chanceOf yX7_chanceOf ∈ z_tb := z_tbm 508 (by decide +kernel) rfl
abbrev mX1_casksOf : zMt := (yX1_casksOf, prog_3_method_2_code, 6, some .int)
theorem mb_mX1_casksOf : z_MB mX1_casksOf 3 := ⟨z_tbk3 33 rfl rfl, z_tbm 7 (by decide +kernel) rfl, ⟨by decide, by decide, by decide +kernel⟩, by decide⟩
theorem iv_mX1_casksOf : Cond.instanceMethod yX1_casksOf ∈ z_tb := z_tbm 511 (by decide +kernel) rfl
theorem se_mX1_casksOf : Cond.selects RX1 yX1_casksOf yX1_casksOf ∈ z_tb := z_tbm 512 (by decide +kernel) rfl
abbrev mX10_price : zMt := (yX10_price, prog_1_method_6_code, 4, some .int)
theorem mb_mX10_price : z_MB mX10_price 2 := ⟨z_tbk3 37 rfl rfl, z_tbm 1 (by decide +kernel) rfl, ⟨by decide, by decide, by decide +kernel⟩, by decide⟩
theorem iv_mX10_price : Cond.instanceMethod yX10_price ∈ z_tb := z_tbm 515 (by decide +kernel) rfl
theorem se_mX10_price : Cond.selects RX10 yX10_price yX10_price ∈ z_tb := z_tbm 516 (by decide +kernel) rfl
abbrev mX10_terms : zMt := (yX10_terms, prog_1_method_7_code, 4, some .int)
theorem mb_mX10_terms : z_MB mX10_terms 2 := ⟨z_tbk3 41 rfl rfl, z_tbm 1 (by decide +kernel) rfl, ⟨by decide, by decide, by decide +kernel⟩, by decide⟩
theorem iv_mX10_terms : Cond.instanceMethod yX10_terms ∈ z_tb := z_tbm 519 (by decide +kernel) rfl
theorem se_mX10_terms : Cond.selects RX10 yX10_terms yX10_terms ∈ z_tb := z_tbm 520 (by decide +kernel) rfl
abbrev mX10_termCanBe : zMt := (yX10_termCanBe, prog_1_method_42_code, 3, some .boolean)
theorem mb_mX10_termCanBe : z_MB mX10_termCanBe 2 := ⟨z_tbk3 45 rfl rfl, z_tbm 1 (by decide +kernel) rfl, ⟨by decide, by decide, by decide +kernel⟩, by decide⟩
theorem iv_mX10_termCanBe : Cond.instanceMethod yX10_termCanBe ∈ z_tb := z_tbm 524 (by decide +kernel) rfl
theorem se_mX10_termCanBe : Cond.selects RX10 yX10_termCanBe yX10_termCanBe ∈ z_tb := z_selm (q := (yX10_termCanBe, 17)) 5 (by decide +kernel)
abbrev mX10_feed : zMt := (yX10_feed, prog_1_method_8_code, 6, some .int)
theorem mb_mX10_feed : z_MB mX10_feed 5 := ⟨z_tbk3 49 rfl rfl, z_tbm 1 (by decide +kernel) rfl, ⟨by decide, by decide, by decide +kernel⟩, by decide⟩
theorem iv_mX10_feed : Cond.instanceMethod yX10_feed ∈ z_tb := z_tbm 527 (by decide +kernel) rfl
theorem se_mX10_feed : Cond.selects RX10 yX10_feed yX10_feed ∈ z_tb := z_tbm 528 (by decide +kernel) rfl
abbrev mX8_put : zMt := (yX8_put, prog_10_method_2_code, 3, none)
theorem mb_mX8_put : z_MB mX8_put 1 := ⟨z_tbk3 53 rfl rfl, z_tbm 4 (by decide +kernel) rfl, ⟨by decide, by decide, by decide +kernel⟩, by decide⟩
theorem iv_mX8_put : Cond.instanceMethod yX8_put ∈ z_tb := z_tbm 531 (by decide +kernel) rfl
theorem se_mX8_put : Cond.selects RX8 yX8_put yX8_put ∈ z_tb := z_tbm 532 (by decide +kernel) rfl
abbrev mX10_end : zMt := (yX10_end, prog_1_method_9_code, 2, some .int)
theorem mb_mX10_end : z_MB mX10_end 1 := ⟨z_tbk3 57 rfl rfl, z_tbm 1 (by decide +kernel) rfl, ⟨by decide, by decide, by decide +kernel⟩, by decide⟩
theorem iv_mX10_end : Cond.instanceMethod yX10_end ∈ z_tb := z_tbm 535 (by decide +kernel) rfl
theorem se_mX10_end : Cond.selects RX10 yX10_end yX10_end ∈ z_tb := z_tbm 536 (by decide +kernel) rfl
abbrev mX10_row : zMt := (yX10_row, prog_1_method_10_code, 4, some .int)
theorem mb_mX10_row : z_MB mX10_row 0 := ⟨z_tbk3 61 rfl rfl, z_tbm 1 (by decide +kernel) rfl, ⟨by decide, by decide, by decide +kernel⟩, by decide⟩
theorem iv_mX10_row : Cond.instanceMethod yX10_row ∈ z_tb := z_tbm 539 (by decide +kernel) rfl
theorem se_mX10_row : Cond.selects RX10 yX10_row yX10_row ∈ z_tb := z_tbm 540 (by decide +kernel) rfl
abbrev mX8_taken : zMt := (yX8_taken, prog_10_method_4_code, 2, some .int)
theorem mb_mX8_taken : z_MB mX8_taken 0 := ⟨z_tbk3 65 rfl rfl, z_tbm 4 (by decide +kernel) rfl, ⟨by decide, by decide, by decide +kernel⟩, by decide⟩
theorem iv_mX8_taken : Cond.instanceMethod yX8_taken ∈ z_tb := z_tbm 543 (by decide +kernel) rfl
theorem se_mX8_taken : Cond.selects RX8 yX8_taken yX8_taken ∈ z_tb := z_tbm 544 (by decide +kernel) rfl
abbrev mX10_groundCame : zMt := (yX10_groundCame, prog_1_method_43_code, 6, some .boolean)
theorem mb_mX10_groundCame : z_MB mX10_groundCame 1 := ⟨z_tbk3 69 rfl rfl, z_tbm 1 (by decide +kernel) rfl, ⟨by decide, by decide, by decide +kernel⟩, by decide⟩
theorem iv_mX10_groundCame : Cond.instanceMethod yX10_groundCame ∈ z_tb := z_tbm 548 (by decide +kernel) rfl
theorem se_mX10_groundCame : Cond.selects RX10 yX10_groundCame yX10_groundCame ∈ z_tb := z_selm (q := (yX10_groundCame, 17)) 6 (by decide +kernel)
abbrev mX8_byteAt : zMt := (yX8_byteAt, prog_10_method_3_code, 2, some .int)
theorem mb_mX8_byteAt : z_MB mX8_byteAt 1 := ⟨z_tbk3 73 rfl rfl, z_tbm 4 (by decide +kernel) rfl, ⟨by decide, by decide, by decide +kernel⟩, by decide⟩
theorem iv_mX8_byteAt : Cond.instanceMethod yX8_byteAt ∈ z_tb := z_tbm 551 (by decide +kernel) rfl
theorem se_mX8_byteAt : Cond.selects RX8 yX8_byteAt yX8_byteAt ∈ z_tb := z_tbm 552 (by decide +kernel) rfl
abbrev mX10_spray : zMt := (yX10_spray, prog_1_method_11_code, 1, some .int)
theorem mb_mX10_spray : z_MB mX10_spray 0 := ⟨z_tbk3 77 rfl rfl, z_tbm 1 (by decide +kernel) rfl, ⟨by decide, by decide, by decide +kernel⟩, by decide⟩
theorem iv_mX10_spray : Cond.instanceMethod yX10_spray ∈ z_tb := z_tbm 555 (by decide +kernel) rfl
theorem se_mX10_spray : Cond.selects RX10 yX10_spray yX10_spray ∈ z_tb := z_tbm 556 (by decide +kernel) rfl
abbrev mX10_law : zMt := (yX10_law, prog_1_method_12_code, 2, some .int)
theorem mb_mX10_law : z_MB mX10_law 0 := ⟨z_tbk3 81 rfl rfl, z_tbm 1 (by decide +kernel) rfl, ⟨by decide, by decide, by decide +kernel⟩, by decide⟩
theorem iv_mX10_law : Cond.instanceMethod yX10_law ∈ z_tb := z_tbm 559 (by decide +kernel) rfl
theorem se_mX10_law : Cond.selects RX10 yX10_law yX10_law ∈ z_tb := z_tbm 560 (by decide +kernel) rfl
abbrev mX6_read : zMt := (yX6_read, prog_8_method_2_code, 6, some .int)
theorem mb_mX6_read : z_MB mX6_read 3 := ⟨z_tbk3 85 rfl rfl, z_tbm 5 (by decide +kernel) rfl, ⟨by decide, by decide, by decide +kernel⟩, by decide⟩
theorem iv_mX6_read : Cond.instanceMethod yX6_read ∈ z_tb := z_tbm 563 (by decide +kernel) rfl
theorem se_mX6_read : Cond.selects RX6 yX6_read yX6_read ∈ z_tb := z_tbm 564 (by decide +kernel) rfl
abbrev mX6_cut : zMt := (yX6_cut, prog_8_method_3_code, 7, none)
theorem mb_mX6_cut : z_MB mX6_cut 2 := ⟨z_tbk3 90 rfl rfl, z_tbm 5 (by decide +kernel) rfl, ⟨by decide, by decide, by decide +kernel⟩, by decide⟩
theorem iv_mX6_cut : Cond.instanceMethod yX6_cut ∈ z_tb := z_tbm 569 (by decide +kernel) rfl
theorem se_mX6_cut : Cond.selects RX6 yX6_cut yX6_cut ∈ z_tb := z_selm (q := (yX6_cut, 10)) 7 (by decide +kernel)
abbrev mX6_isLetter : zMt := (yX6_isLetter, prog_8_method_5_code, 1, some .boolean)
theorem mb_mX6_isLetter : z_MB mX6_isLetter 1 := ⟨z_tbk3 94 rfl rfl, z_tbm 5 (by decide +kernel) rfl, ⟨by decide, by decide, by decide +kernel⟩, by decide⟩
theorem is_mX6_isLetter : Cond.static yX6_isLetter ∈ z_tb := z_tbm 573 (by decide +kernel) rfl
abbrev mX6_wordAt : zMt := (yX6_wordAt, prog_8_method_7_code, 8, some .int)
theorem mb_mX6_wordAt : z_MB mX6_wordAt 3 := ⟨z_tbk3 97 rfl rfl, z_tbm 5 (by decide +kernel) rfl, ⟨by decide, by decide, by decide +kernel⟩, by decide⟩
theorem is_mX6_wordAt : Cond.static yX6_wordAt ∈ z_tb := z_tbm 576 (by decide +kernel) rfl
abbrev mJ3_checkIndex_8e157 : zMt := (yJ3_checkIndex_8e157, prog_20_method_11_code, 3, some .int)
theorem mb_mJ3_checkIndex_8e157 : z_MB mJ3_checkIndex_8e157 3 := ⟨z_tbk3 127 rfl rfl, z_tbm 17 (by decide +kernel) rfl, ⟨by decide, by decide, by decide +kernel⟩, by decide⟩
theorem is_mJ3_checkIndex_8e157 : Cond.static yJ3_checkIndex_8e157 ∈ z_tb := z_tbm 606 (by decide +kernel) rfl
abbrev mX6_note : zMt := (yX6_note, prog_8_method_4_code, 4, none)
theorem mb_mX6_note : z_MB mX6_note 3 := ⟨z_tbk3 150 rfl rfl, z_tbm 5 (by decide +kernel) rfl, ⟨by decide, by decide, by decide +kernel⟩, by decide⟩
theorem iv_mX6_note : Cond.instanceMethod yX6_note ∈ z_tb := z_tbm 629 (by decide +kernel) rfl
theorem se_mX6_note : Cond.selects RX6 yX6_note yX6_note ∈ z_tb := z_selm (q := (yX6_note, 10)) 8 (by decide +kernel)
abbrev mX6_isDigit : zMt := (yX6_isDigit, prog_8_method_6_code, 1, some .boolean)
theorem mb_mX6_isDigit : z_MB mX6_isDigit 1 := ⟨z_tbk3 153 rfl rfl, z_tbm 5 (by decide +kernel) rfl, ⟨by decide, by decide, by decide +kernel⟩, by decide⟩
theorem is_mX6_isDigit : Cond.static yX6_isDigit ∈ z_tb := z_tbm 632 (by decide +kernel) rfl
abbrev mX9_clear : zMt := (yX9_clear, prog_11_method_3_code, 1, none)
theorem mb_mX9_clear : z_MB mX9_clear 0 := ⟨z_tbk3 157 rfl rfl, z_tbm 6 (by decide +kernel) rfl, ⟨by decide, by decide, by decide +kernel⟩, by decide⟩
theorem iv_mX9_clear : Cond.instanceMethod yX9_clear ∈ z_tb := z_tbm 635 (by decide +kernel) rfl
theorem se_mX9_clear : Cond.selects RX9 yX9_clear yX9_clear ∈ z_tb := z_tbm 636 (by decide +kernel) rfl
abbrev mX6_fail : zMt := (yX6_fail, prog_8_method_9_code, 1, none)
theorem mb_mX6_fail : z_MB mX6_fail 0 := ⟨z_tbk3 161 rfl rfl, z_tbm 5 (by decide +kernel) rfl, ⟨by decide, by decide, by decide +kernel⟩, by decide⟩
theorem iv_mX6_fail : Cond.instanceMethod yX6_fail ∈ z_tb := z_tbm 640 (by decide +kernel) rfl
theorem se_mX6_fail : Cond.selects RX6 yX6_fail yX6_fail ∈ z_tb := z_selm (q := (yX6_fail, 10)) 9 (by decide +kernel)
abbrev mX6_clause : zMt := (yX6_clause, prog_8_method_11_code, 4, none)
theorem mb_mX6_clause : z_MB mX6_clause 0 := ⟨z_tbk3 165 rfl rfl, z_tbm 5 (by decide +kernel) rfl, ⟨by decide, by decide, by decide +kernel⟩, by decide⟩
theorem iv_mX6_clause : Cond.instanceMethod yX6_clause ∈ z_tb := z_tbm 644 (by decide +kernel) rfl
theorem se_mX6_clause : Cond.selects RX6 yX6_clause yX6_clause ∈ z_tb := z_selm (q := (yX6_clause, 10)) 10 (by decide +kernel)
abbrev mX9_open : zMt := (yX9_open, prog_11_method_4_code, 2, none)
theorem mb_mX9_open : z_MB mX9_open 1 := ⟨z_tbk3 169 rfl rfl, z_tbm 6 (by decide +kernel) rfl, ⟨by decide, by decide, by decide +kernel⟩, by decide⟩
theorem iv_mX9_open : Cond.instanceMethod yX9_open ∈ z_tb := z_tbm 647 (by decide +kernel) rfl
theorem se_mX9_open : Cond.selects RX9 yX9_open yX9_open ∈ z_tb := z_tbm 648 (by decide +kernel) rfl
abbrev mX9_set : zMt := (yX9_set, prog_11_method_5_code, 4, none)
theorem mb_mX9_set : z_MB mX9_set 2 := ⟨z_tbk3 173 rfl rfl, z_tbm 6 (by decide +kernel) rfl, ⟨by decide, by decide, by decide +kernel⟩, by decide⟩
theorem iv_mX9_set : Cond.instanceMethod yX9_set ∈ z_tb := z_tbm 651 (by decide +kernel) rfl
theorem se_mX9_set : Cond.selects RX9 yX9_set yX9_set ∈ z_tb := z_tbm 652 (by decide +kernel) rfl
abbrev mX6_sumOf : zMt := (yX6_sumOf, prog_8_method_12_code, 2, none)
theorem mb_mX6_sumOf : z_MB mX6_sumOf 1 := ⟨z_tbk3 177 rfl rfl, z_tbm 5 (by decide +kernel) rfl, ⟨by decide, by decide, by decide +kernel⟩, by decide⟩
theorem iv_mX6_sumOf : Cond.instanceMethod yX6_sumOf ∈ z_tb := z_tbm 656 (by decide +kernel) rfl
theorem se_mX6_sumOf : Cond.selects RX6 yX6_sumOf yX6_sumOf ∈ z_tb := z_selm (q := (yX6_sumOf, 10)) 11 (by decide +kernel)
abbrev mX6_sum : zMt := (yX6_sum, prog_8_method_18_code, 3, none)
theorem mb_mX6_sum : z_MB mX6_sum 0 := ⟨z_tbk3 182 rfl rfl, z_tbm 5 (by decide +kernel) rfl, ⟨by decide, by decide, by decide +kernel⟩, by decide⟩
theorem iv_mX6_sum : Cond.instanceMethod yX6_sum ∈ z_tb := z_tbm 661 (by decide +kernel) rfl
theorem se_mX6_sum : Cond.selects RX6 yX6_sum yX6_sum ∈ z_tb := z_selm (q := (yX6_sum, 10)) 12 (by decide +kernel)
abbrev mX6_term : zMt := (yX6_term, prog_8_method_19_code, 3, none)
theorem mb_mX6_term : z_MB mX6_term 0 := ⟨z_tbk3 186 rfl rfl, z_tbm 5 (by decide +kernel) rfl, ⟨by decide, by decide, by decide +kernel⟩, by decide⟩
theorem iv_mX6_term : Cond.instanceMethod yX6_term ∈ z_tb := z_tbm 665 (by decide +kernel) rfl
theorem se_mX6_term : Cond.selects RX6 yX6_term yX6_term ∈ z_tb := z_selm (q := (yX6_term, 10)) 13 (by decide +kernel)
abbrev mX6_part : zMt := (yX6_part, prog_8_method_21_code, 1, none)
theorem mb_mX6_part : z_MB mX6_part 0 := ⟨z_tbk3 190 rfl rfl, z_tbm 5 (by decide +kernel) rfl, ⟨by decide, by decide, by decide +kernel⟩, by decide⟩
theorem iv_mX6_part : Cond.instanceMethod yX6_part ∈ z_tb := z_tbm 669 (by decide +kernel) rfl
theorem se_mX6_part : Cond.selects RX6 yX6_part yX6_part ∈ z_tb := z_selm (q := (yX6_part, 10)) 14 (by decide +kernel)
abbrev mX6_stands : zMt := (yX6_stands, prog_8_method_8_code, 2, some .boolean)
theorem mb_mX6_stands : z_MB mX6_stands 1 := ⟨z_tbk3 194 rfl rfl, z_tbm 5 (by decide +kernel) rfl, ⟨by decide, by decide, by decide +kernel⟩, by decide⟩
theorem iv_mX6_stands : Cond.instanceMethod yX6_stands ∈ z_tb := z_tbm 673 (by decide +kernel) rfl
theorem se_mX6_stands : Cond.selects RX6 yX6_stands yX6_stands ∈ z_tb := z_selm (q := (yX6_stands, 10)) 15 (by decide +kernel)
abbrev mX6_opened : zMt := (yX6_opened, prog_8_method_25_code, 1, some .boolean)
theorem mb_mX6_opened : z_MB mX6_opened 0 := ⟨z_tbk3 198 rfl rfl, z_tbm 5 (by decide +kernel) rfl, ⟨by decide, by decide, by decide +kernel⟩, by decide⟩
theorem iv_mX6_opened : Cond.instanceMethod yX6_opened ∈ z_tb := z_tbm 677 (by decide +kernel) rfl
theorem se_mX6_opened : Cond.selects RX6 yX6_opened yX6_opened ∈ z_tb := z_selm (q := (yX6_opened, 10)) 16 (by decide +kernel)
abbrev mX6_closed : zMt := (yX6_closed, prog_8_method_26_code, 2, none)
theorem mb_mX6_closed : z_MB mX6_closed 1 := ⟨z_tbk3 202 rfl rfl, z_tbm 5 (by decide +kernel) rfl, ⟨by decide, by decide, by decide +kernel⟩, by decide⟩
theorem iv_mX6_closed : Cond.instanceMethod yX6_closed ∈ z_tb := z_tbm 681 (by decide +kernel) rfl
theorem se_mX6_closed : Cond.selects RX6 yX6_closed yX6_closed ∈ z_tb := z_selm (q := (yX6_closed, 10)) 17 (by decide +kernel)
abbrev mX6_take : zMt := (yX6_take, prog_8_method_10_code, 2, none)
theorem mb_mX6_take : z_MB mX6_take 1 := ⟨z_tbk3 206 rfl rfl, z_tbm 5 (by decide +kernel) rfl, ⟨by decide, by decide, by decide +kernel⟩, by decide⟩
theorem iv_mX6_take : Cond.instanceMethod yX6_take ∈ z_tb := z_tbm 685 (by decide +kernel) rfl
theorem se_mX6_take : Cond.selects RX6 yX6_take yX6_take ∈ z_tb := z_selm (q := (yX6_take, 10)) 18 (by decide +kernel)
abbrev mX9_emit : zMt := (yX9_emit, prog_11_method_7_code, 3, none)
theorem mb_mX9_emit : z_MB mX9_emit 2 := ⟨z_tbk3 210 rfl rfl, z_tbm 6 (by decide +kernel) rfl, ⟨by decide, by decide, by decide +kernel⟩, by decide⟩
theorem iv_mX9_emit : Cond.instanceMethod yX9_emit ∈ z_tb := z_tbm 688 (by decide +kernel) rfl
theorem se_mX9_emit : Cond.selects RX9 yX9_emit yX9_emit ∈ z_tb := z_tbm 689 (by decide +kernel) rfl
abbrev mX6_named : zMt := (yX6_named, prog_8_method_22_code, 3, none)
theorem mb_mX6_named : z_MB mX6_named 0 := ⟨z_tbk3 214 rfl rfl, z_tbm 5 (by decide +kernel) rfl, ⟨by decide, by decide, by decide +kernel⟩, by decide⟩
theorem iv_mX6_named : Cond.instanceMethod yX6_named ∈ z_tb := z_tbm 693 (by decide +kernel) rfl
theorem se_mX6_named : Cond.selects RX6 yX6_named yX6_named ∈ z_tb := z_selm (q := (yX6_named, 10)) 19 (by decide +kernel)
abbrev mX6_isLawWord : zMt := (yX6_isLawWord, prog_8_method_23_code, 1, some .boolean)
theorem mb_mX6_isLawWord : z_MB mX6_isLawWord 1 := ⟨z_tbk3 217 rfl rfl, z_tbm 5 (by decide +kernel) rfl, ⟨by decide, by decide, by decide +kernel⟩, by decide⟩
theorem is_mX6_isLawWord : Cond.static yX6_isLawWord ∈ z_tb := z_tbm 696 (by decide +kernel) rfl
abbrev mX6_isOrderWord : zMt := (yX6_isOrderWord, prog_8_method_24_code, 1, some .boolean)
theorem mb_mX6_isOrderWord : z_MB mX6_isOrderWord 1 := ⟨z_tbk3 220 rfl rfl, z_tbm 5 (by decide +kernel) rfl, ⟨by decide, by decide, by decide +kernel⟩, by decide⟩
theorem is_mX6_isOrderWord : Cond.static yX6_isOrderWord ∈ z_tb := z_tbm 699 (by decide +kernel) rfl
abbrev mX6_multiplies : zMt := (yX6_multiplies, prog_8_method_20_code, 1, some .int)
theorem mb_mX6_multiplies : z_MB mX6_multiplies 0 := ⟨z_tbk3 224 rfl rfl, z_tbm 5 (by decide +kernel) rfl, ⟨by decide, by decide, by decide +kernel⟩, by decide⟩
theorem iv_mX6_multiplies : Cond.instanceMethod yX6_multiplies ∈ z_tb := z_tbm 703 (by decide +kernel) rfl
theorem se_mX6_multiplies : Cond.selects RX6 yX6_multiplies yX6_multiplies ∈ z_tb := z_selm (q := (yX6_multiplies, 10)) 20 (by decide +kernel)
abbrev mX6_times : zMt := (yX6_times, prog_8_method_13_code, 1, none)
theorem mb_mX6_times : z_MB mX6_times 0 := ⟨z_tbk3 228 rfl rfl, z_tbm 5 (by decide +kernel) rfl, ⟨by decide, by decide, by decide +kernel⟩, by decide⟩
theorem iv_mX6_times : Cond.instanceMethod yX6_times ∈ z_tb := z_tbm 707 (by decide +kernel) rfl
theorem se_mX6_times : Cond.selects RX6 yX6_times yX6_times ∈ z_tb := z_selm (q := (yX6_times, 10)) 21 (by decide +kernel)
abbrev mX6_test : zMt := (yX6_test, prog_8_method_14_code, 3, none)
theorem mb_mX6_test : z_MB mX6_test 0 := ⟨z_tbk3 232 rfl rfl, z_tbm 5 (by decide +kernel) rfl, ⟨by decide, by decide, by decide +kernel⟩, by decide⟩
theorem iv_mX6_test : Cond.instanceMethod yX6_test ∈ z_tb := z_tbm 711 (by decide +kernel) rfl
theorem se_mX6_test : Cond.selects RX6 yX6_test yX6_test ∈ z_tb := z_selm (q := (yX6_test, 10)) 22 (by decide +kernel)
abbrev mX6_both : zMt := (yX6_both, prog_8_method_15_code, 3, none)
theorem mb_mX6_both : z_MB mX6_both 0 := ⟨z_tbk3 236 rfl rfl, z_tbm 5 (by decide +kernel) rfl, ⟨by decide, by decide, by decide +kernel⟩, by decide⟩
theorem iv_mX6_both : Cond.instanceMethod yX6_both ∈ z_tb := z_tbm 715 (by decide +kernel) rfl
theorem se_mX6_both : Cond.selects RX6 yX6_both yX6_both ∈ z_tb := z_selm (q := (yX6_both, 10)) 23 (by decide +kernel)
abbrev mX6_plain : zMt := (yX6_plain, prog_8_method_16_code, 3, none)
theorem mb_mX6_plain : z_MB mX6_plain 0 := ⟨z_tbk4 0 rfl rfl, z_tbm 5 (by decide +kernel) rfl, ⟨by decide, by decide, by decide +kernel⟩, by decide⟩
theorem iv_mX6_plain : Cond.instanceMethod yX6_plain ∈ z_tb := z_tbm 719 (by decide +kernel) rfl
theorem se_mX6_plain : Cond.selects RX6 yX6_plain yX6_plain ∈ z_tb := z_selm (q := (yX6_plain, 10)) 24 (by decide +kernel)
abbrev mX6_compares : zMt := (yX6_compares, prog_8_method_17_code, 1, some .int)
theorem mb_mX6_compares : z_MB mX6_compares 0 := ⟨z_tbk4 4 rfl rfl, z_tbm 5 (by decide +kernel) rfl, ⟨by decide, by decide, by decide +kernel⟩, by decide⟩
theorem iv_mX6_compares : Cond.instanceMethod yX6_compares ∈ z_tb := z_tbm 723 (by decide +kernel) rfl
theorem se_mX6_compares : Cond.selects RX6 yX6_compares yX6_compares ∈ z_tb := z_selm (q := (yX6_compares, 10)) 25 (by decide +kernel)
abbrev mX9_aim : zMt := (yX9_aim, prog_11_method_8_code, 3, none)
theorem mb_mX9_aim : z_MB mX9_aim 2 := ⟨z_tbk4 8 rfl rfl, z_tbm 6 (by decide +kernel) rfl, ⟨by decide, by decide, by decide +kernel⟩, by decide⟩
theorem iv_mX9_aim : Cond.instanceMethod yX9_aim ∈ z_tb := z_tbm 726 (by decide +kernel) rfl
theorem se_mX9_aim : Cond.selects RX9 yX9_aim yX9_aim ∈ z_tb := z_tbm 727 (by decide +kernel) rfl
abbrev mX9_packed : zMt := (yX9_packed, prog_11_method_2_code, 2, some (.object "WhaleLays$Text"))
theorem mb_mX9_packed : z_MB mX9_packed 0 := ⟨z_tbk4 12 rfl rfl, z_tbm 6 (by decide +kernel) rfl, ⟨by decide, by decide, by decide +kernel⟩, by decide⟩
theorem iv_mX9_packed : Cond.instanceMethod yX9_packed ∈ z_tb := z_tbm 730 (by decide +kernel) rfl
theorem se_mX9_packed : Cond.selects RX9 yX9_packed yX9_packed ∈ z_tb := z_tbm 731 (by decide +kernel) rfl
abbrev mX7_addLaw : zMt := (yX7_addLaw, prog_9_method_10_code, 3, some .int)
theorem mb_mX7_addLaw : z_MB mX7_addLaw 1 := ⟨z_tbk4 21 rfl rfl, z_tbm 2 (by decide +kernel) rfl, ⟨by decide, by decide, by decide +kernel⟩, by decide⟩
theorem iv_mX7_addLaw : Cond.instanceMethod yX7_addLaw ∈ z_tb := z_tbm 739 (by decide +kernel) rfl
theorem se_mX7_addLaw : Cond.selects RX7 yX7_addLaw yX7_addLaw ∈ z_tb := z_tbm 740 (by decide +kernel) rfl
abbrev mX10_orders : zMt := (yX10_orders, prog_1_method_13_code, 2, some .int)
theorem mb_mX10_orders : z_MB mX10_orders 0 := ⟨z_tbk4 26 rfl rfl, z_tbm 1 (by decide +kernel) rfl, ⟨by decide, by decide, by decide +kernel⟩, by decide⟩
theorem iv_mX10_orders : Cond.instanceMethod yX10_orders ∈ z_tb := z_tbm 744 (by decide +kernel) rfl
theorem se_mX10_orders : Cond.selects RX10 yX10_orders yX10_orders ∈ z_tb := z_tbm 745 (by decide +kernel) rfl
abbrev mX7_become : zMt := (yX7_become, prog_9_method_3_code, 3, none)
theorem mb_mX7_become : z_MB mX7_become 1 := ⟨z_tbk4 30 rfl rfl, z_tbm 2 (by decide +kernel) rfl, ⟨by decide, by decide, by decide +kernel⟩, by decide⟩
theorem iv_mX7_become : Cond.instanceMethod yX7_become ∈ z_tb := z_tbm 748 (by decide +kernel) rfl
theorem se_mX7_become : Cond.selects RX7 yX7_become yX7_become ∈ z_tb := z_tbm 749 (by decide +kernel) rfl
abbrev mX2_become : zMt := (yX2_become, prog_4_method_3_code, 2, none)
theorem mb_mX2_become : z_MB mX2_become 1 := ⟨z_tbk4 35 rfl rfl, z_tbm 3 (by decide +kernel) rfl, ⟨by decide, by decide, by decide +kernel⟩, by decide⟩
theorem iv_mX2_become : Cond.instanceMethod yX2_become ∈ z_tb := z_tbm 753 (by decide +kernel) rfl
theorem se_mX2_become : Cond.selects RX2 yX2_become yX2_become ∈ z_tb := z_tbm 754 (by decide +kernel) rfl
abbrev mX0_run : zMt := (yX0_run, prog_2_method_2_code, 12, some .int)
theorem mb_mX0_run : z_MB mX0_run 3 := ⟨z_tbk4 40 rfl rfl, z_tbm 10 (by decide +kernel) rfl, ⟨by decide, by decide, by decide +kernel⟩, by decide⟩
theorem iv_mX0_run : Cond.instanceMethod yX0_run ∈ z_tb := z_tbm 758 (by decide +kernel) rfl
theorem se_mX0_run : Cond.selects RX0 yX0_run yX0_run ∈ z_tb := z_tbm 759 (by decide +kernel) rfl
abbrev mX0_look : zMt := (yX0_look, prog_2_method_4_code, 3, none)
theorem mb_mX0_look : z_MB mX0_look 1 := ⟨z_tbk4 45 rfl rfl, z_tbm 10 (by decide +kernel) rfl, ⟨by decide, by decide, by decide +kernel⟩, by decide⟩
theorem iv_mX0_look : Cond.instanceMethod yX0_look ∈ z_tb := z_tbm 764 (by decide +kernel) rfl
theorem se_mX0_look : Cond.selects RX0 yX0_look yX0_look ∈ z_tb := z_selm (q := (yX0_look, 4)) 26 (by decide +kernel)
abbrev mX0_valueOf : zMt := (yX0_valueOf, prog_2_method_3_code, 5, some .int)
theorem mb_mX0_valueOf : z_MB mX0_valueOf 3 := ⟨z_tbk4 50 rfl rfl, z_tbm 10 (by decide +kernel) rfl, ⟨by decide, by decide, by decide +kernel⟩, by decide⟩
theorem iv_mX0_valueOf : Cond.instanceMethod yX0_valueOf ∈ z_tb := z_tbm 769 (by decide +kernel) rfl
theorem se_mX0_valueOf : Cond.selects RX0 yX0_valueOf yX0_valueOf ∈ z_tb := z_selm (q := (yX0_valueOf, 4)) 27 (by decide +kernel)
abbrev mX4_act : zMt := (yX4_act, prog_6_method_2_code, 7, some .int)
theorem mb_mX4_act : z_MB mX4_act 5 := ⟨z_tbk4 55 rfl rfl, z_tbm 9 (by decide +kernel) rfl, ⟨by decide, by decide, by decide +kernel⟩, by decide⟩
theorem iv_mX4_act : Cond.instanceMethod yX4_act ∈ z_tb := z_tbm 773 (by decide +kernel) rfl
theorem se_mX4_act : Cond.selects RX4 yX4_act yX4_act ∈ z_tb := z_tbm 774 (by decide +kernel) rfl
abbrev mX2_note : zMt := (yX2_note, prog_4_method_4_code, 4, none)
theorem mb_mX2_note : z_MB mX2_note 1 := ⟨z_tbk4 59 rfl rfl, z_tbm 3 (by decide +kernel) rfl, ⟨by decide, by decide, by decide +kernel⟩, by decide⟩
theorem iv_mX2_note : Cond.instanceMethod yX2_note ∈ z_tb := z_tbm 777 (by decide +kernel) rfl
theorem se_mX2_note : Cond.selects RX2 yX2_note yX2_note ∈ z_tb := z_tbm 778 (by decide +kernel) rfl
abbrev mX4_takeWhales : zMt := (yX4_takeWhales, prog_6_method_3_code, 6, some .int)
theorem mb_mX4_takeWhales : z_MB mX4_takeWhales 3 := ⟨z_tbk4 63 rfl rfl, z_tbm 9 (by decide +kernel) rfl, ⟨by decide, by decide, by decide +kernel⟩, by decide⟩
theorem iv_mX4_takeWhales : Cond.instanceMethod yX4_takeWhales ∈ z_tb := z_tbm 782 (by decide +kernel) rfl
theorem se_mX4_takeWhales : Cond.selects RX4 yX4_takeWhales yX4_takeWhales ∈ z_tb := z_selm (q := (yX4_takeWhales, 2)) 28 (by decide +kernel)
abbrev mX4_runAway : zMt := (yX4_runAway, prog_6_method_4_code, 5, some .int)
theorem mb_mX4_runAway : z_MB mX4_runAway 1 := ⟨z_tbk4 73 rfl rfl, z_tbm 9 (by decide +kernel) rfl, ⟨by decide, by decide, by decide +kernel⟩, by decide⟩
theorem iv_mX4_runAway : Cond.instanceMethod yX4_runAway ∈ z_tb := z_tbm 792 (by decide +kernel) rfl
theorem se_mX4_runAway : Cond.selects RX4 yX4_runAway yX4_runAway ∈ z_tb := z_selm (q := (yX4_runAway, 2)) 29 (by decide +kernel)
abbrev mX4_sellOff : zMt := (yX4_sellOff, prog_6_method_5_code, 3, some .int)
theorem mb_mX4_sellOff : z_MB mX4_sellOff 2 := ⟨z_tbk4 79 rfl rfl, z_tbm 9 (by decide +kernel) rfl, ⟨by decide, by decide, by decide +kernel⟩, by decide⟩
theorem iv_mX4_sellOff : Cond.instanceMethod yX4_sellOff ∈ z_tb := z_tbm 798 (by decide +kernel) rfl
theorem se_mX4_sellOff : Cond.selects RX4 yX4_sellOff yX4_sellOff ∈ z_tb := z_selm (q := (yX4_sellOff, 2)) 30 (by decide +kernel)
abbrev mX4_payOut : zMt := (yX4_payOut, prog_6_method_6_code, 4, some .int)
theorem mb_mX4_payOut : z_MB mX4_payOut 3 := ⟨z_tbk4 85 rfl rfl, z_tbm 9 (by decide +kernel) rfl, ⟨by decide, by decide, by decide +kernel⟩, by decide⟩
theorem iv_mX4_payOut : Cond.instanceMethod yX4_payOut ∈ z_tb := z_tbm 804 (by decide +kernel) rfl
theorem se_mX4_payOut : Cond.selects RX4 yX4_payOut yX4_payOut ∈ z_tb := z_selm (q := (yX4_payOut, 2)) 31 (by decide +kernel)
abbrev mX4_putAshore : zMt := (yX4_putAshore, prog_6_method_7_code, 3, some .int)
theorem mb_mX4_putAshore : z_MB mX4_putAshore 2 := ⟨z_tbk4 90 rfl rfl, z_tbm 9 (by decide +kernel) rfl, ⟨by decide, by decide, by decide +kernel⟩, by decide⟩
theorem iv_mX4_putAshore : Cond.instanceMethod yX4_putAshore ∈ z_tb := z_tbm 809 (by decide +kernel) rfl
theorem se_mX4_putAshore : Cond.selects RX4 yX4_putAshore yX4_putAshore ∈ z_tb := z_selm (q := (yX4_putAshore, 2)) 32 (by decide +kernel)
abbrev mX2_keepNoted : zMt := (yX2_keepNoted, prog_4_method_5_code, 2, none)
theorem mb_mX2_keepNoted : z_MB mX2_keepNoted 1 := ⟨z_tbk4 94 rfl rfl, z_tbm 3 (by decide +kernel) rfl, ⟨by decide, by decide, by decide +kernel⟩, by decide⟩
theorem iv_mX2_keepNoted : Cond.instanceMethod yX2_keepNoted ∈ z_tb := z_tbm 812 (by decide +kernel) rfl
theorem se_mX2_keepNoted : Cond.selects RX2 yX2_keepNoted yX2_keepNoted ∈ z_tb := z_tbm 813 (by decide +kernel) rfl
abbrev mX10_fault : zMt := (yX10_fault, prog_1_method_14_code, 1, some .int)
theorem mb_mX10_fault : z_MB mX10_fault 0 := ⟨z_tbk4 98 rfl rfl, z_tbm 1 (by decide +kernel) rfl, ⟨by decide, by decide, by decide +kernel⟩, by decide⟩
theorem iv_mX10_fault : Cond.instanceMethod yX10_fault ∈ z_tb := z_tbm 816 (by decide +kernel) rfl
theorem se_mX10_fault : Cond.selects RX10 yX10_fault yX10_fault ∈ z_tb := z_tbm 817 (by decide +kernel) rfl
abbrev mX10_stopped : zMt := (yX10_stopped, prog_1_method_15_code, 1, some .int)
theorem mb_mX10_stopped : z_MB mX10_stopped 0 := ⟨z_tbk4 102 rfl rfl, z_tbm 1 (by decide +kernel) rfl, ⟨by decide, by decide, by decide +kernel⟩, by decide⟩
theorem iv_mX10_stopped : Cond.instanceMethod yX10_stopped ∈ z_tb := z_tbm 820 (by decide +kernel) rfl
theorem se_mX10_stopped : Cond.selects RX10 yX10_stopped yX10_stopped ∈ z_tb := z_tbm 821 (by decide +kernel) rfl
abbrev mX10_force : zMt := (yX10_force, prog_1_method_16_code, 3, some .int)
theorem mb_mX10_force : z_MB mX10_force 1 := ⟨z_tbk4 106 rfl rfl, z_tbm 1 (by decide +kernel) rfl, ⟨by decide, by decide, by decide +kernel⟩, by decide⟩
theorem iv_mX10_force : Cond.instanceMethod yX10_force ∈ z_tb := z_tbm 824 (by decide +kernel) rfl
theorem se_mX10_force : Cond.selects RX10 yX10_force yX10_force ∈ z_tb := z_tbm 825 (by decide +kernel) rfl
abbrev mX10_hunt : zMt := (yX10_hunt, prog_1_method_17_code, 3, some .int)
theorem mb_mX10_hunt : z_MB mX10_hunt 2 := ⟨z_tbk4 110 rfl rfl, z_tbm 1 (by decide +kernel) rfl, ⟨by decide, by decide, by decide +kernel⟩, by decide⟩
theorem iv_mX10_hunt : Cond.instanceMethod yX10_hunt ∈ z_tb := z_tbm 828 (by decide +kernel) rfl
theorem se_mX10_hunt : Cond.selects RX10 yX10_hunt yX10_hunt ∈ z_tb := z_tbm 829 (by decide +kernel) rfl
abbrev mX10_answer : zMt := (yX10_answer, prog_1_method_41_code, 2, some .int)
theorem mb_mX10_answer : z_MB mX10_answer 1 := ⟨z_tbk4 115 rfl rfl, z_tbm 1 (by decide +kernel) rfl, ⟨by decide, by decide, by decide +kernel⟩, by decide⟩
theorem iv_mX10_answer : Cond.instanceMethod yX10_answer ∈ z_tb := z_tbm 834 (by decide +kernel) rfl
theorem se_mX10_answer : Cond.selects RX10 yX10_answer yX10_answer ∈ z_tb := z_selm (q := (yX10_answer, 17)) 33 (by decide +kernel)
abbrev mX10_sell : zMt := (yX10_sell, prog_1_method_18_code, 2, some .int)
theorem mb_mX10_sell : z_MB mX10_sell 1 := ⟨z_tbk4 119 rfl rfl, z_tbm 1 (by decide +kernel) rfl, ⟨by decide, by decide, by decide +kernel⟩, by decide⟩
theorem iv_mX10_sell : Cond.instanceMethod yX10_sell ∈ z_tb := z_tbm 837 (by decide +kernel) rfl
theorem se_mX10_sell : Cond.selects RX10 yX10_sell yX10_sell ∈ z_tb := z_tbm 838 (by decide +kernel) rfl
abbrev mX10_advance : zMt := (yX10_advance, prog_1_method_19_code, 3, some .int)
theorem mb_mX10_advance : z_MB mX10_advance 2 := ⟨z_tbk4 123 rfl rfl, z_tbm 1 (by decide +kernel) rfl, ⟨by decide, by decide, by decide +kernel⟩, by decide⟩
theorem iv_mX10_advance : Cond.instanceMethod yX10_advance ∈ z_tb := z_tbm 841 (by decide +kernel) rfl
theorem se_mX10_advance : Cond.selects RX10 yX10_advance yX10_advance ∈ z_tb := z_tbm 842 (by decide +kernel) rfl
abbrev mX10_leave : zMt := (yX10_leave, prog_1_method_20_code, 2, some .int)
theorem mb_mX10_leave : z_MB mX10_leave 1 := ⟨z_tbk4 127 rfl rfl, z_tbm 1 (by decide +kernel) rfl, ⟨by decide, by decide, by decide +kernel⟩, by decide⟩
theorem iv_mX10_leave : Cond.instanceMethod yX10_leave ∈ z_tb := z_tbm 845 (by decide +kernel) rfl
theorem se_mX10_leave : Cond.selects RX10 yX10_leave yX10_leave ∈ z_tb := z_tbm 846 (by decide +kernel) rfl
abbrev mX10_undo : zMt := (yX10_undo, prog_1_method_21_code, 1, some .int)
theorem mb_mX10_undo : z_MB mX10_undo 0 := ⟨z_tbk4 131 rfl rfl, z_tbm 1 (by decide +kernel) rfl, ⟨by decide, by decide, by decide +kernel⟩, by decide⟩
theorem iv_mX10_undo : Cond.instanceMethod yX10_undo ∈ z_tb := z_tbm 849 (by decide +kernel) rfl
theorem se_mX10_undo : Cond.selects RX10 yX10_undo yX10_undo ∈ z_tb := z_tbm 850 (by decide +kernel) rfl
abbrev mX2_takeBack : zMt := (yX2_takeBack, prog_4_method_6_code, 5, some .int)
theorem mb_mX2_takeBack : z_MB mX2_takeBack 1 := ⟨z_tbk4 135 rfl rfl, z_tbm 3 (by decide +kernel) rfl, ⟨by decide, by decide, by decide +kernel⟩, by decide⟩
theorem iv_mX2_takeBack : Cond.instanceMethod yX2_takeBack ∈ z_tb := z_tbm 853 (by decide +kernel) rfl
theorem se_mX2_takeBack : Cond.selects RX2 yX2_takeBack yX2_takeBack ∈ z_tb := z_tbm 854 (by decide +kernel) rfl
abbrev mX10_money : zMt := (yX10_money, prog_1_method_22_code, 2, some .int)
theorem mb_mX10_money : z_MB mX10_money 1 := ⟨z_tbk4 139 rfl rfl, z_tbm 1 (by decide +kernel) rfl, ⟨by decide, by decide, by decide +kernel⟩, by decide⟩
theorem iv_mX10_money : Cond.instanceMethod yX10_money ∈ z_tb := z_tbm 857 (by decide +kernel) rfl
theorem se_mX10_money : Cond.selects RX10 yX10_money yX10_money ∈ z_tb := z_tbm 858 (by decide +kernel) rfl
abbrev mX7_ownersNow : zMt := (yX7_ownersNow, prog_9_method_18_code, 3, some .int)
theorem mb_mX7_ownersNow : z_MB mX7_ownersNow 0 := ⟨z_tbk4 144 rfl rfl, z_tbm 2 (by decide +kernel) rfl, ⟨by decide, by decide, by decide +kernel⟩, by decide⟩
theorem iv_mX7_ownersNow : Cond.instanceMethod yX7_ownersNow ∈ z_tb := z_tbm 862 (by decide +kernel) rfl
theorem se_mX7_ownersNow : Cond.selects RX7 yX7_ownersNow yX7_ownersNow ∈ z_tb := z_tbm 863 (by decide +kernel) rfl
abbrev mX10_parts : zMt := (yX10_parts, prog_1_method_23_code, 4, some .long)
theorem mb_mX10_parts : z_MB mX10_parts 0 := ⟨z_tbk4 149 rfl rfl, z_tbm 1 (by decide +kernel) rfl, ⟨by decide, by decide, by decide +kernel⟩, by decide⟩
theorem iv_mX10_parts : Cond.instanceMethod yX10_parts ∈ z_tb := z_tbm 867 (by decide +kernel) rfl
theorem se_mX10_parts : Cond.selects RX10 yX10_parts yX10_parts ∈ z_tb := z_tbm 868 (by decide +kernel) rfl
abbrev mX7_partsOf : zMt := (yX7_partsOf, prog_9_method_19_code, 2, some .long)
theorem mb_mX7_partsOf : z_MB mX7_partsOf 1 := ⟨z_tbk4 153 rfl rfl, z_tbm 2 (by decide +kernel) rfl, ⟨by decide, by decide, by decide +kernel⟩, by decide⟩
theorem iv_mX7_partsOf : Cond.instanceMethod yX7_partsOf ∈ z_tb := z_tbm 871 (by decide +kernel) rfl
theorem se_mX7_partsOf : Cond.selects RX7 yX7_partsOf yX7_partsOf ∈ z_tb := z_tbm 872 (by decide +kernel) rfl
abbrev mX10_best : zMt := (yX10_best, prog_1_method_24_code, 3, some .long)
theorem mb_mX10_best : z_MB mX10_best 2 := ⟨z_tbk4 158 rfl rfl, z_tbm 1 (by decide +kernel) rfl, ⟨by decide, by decide, by decide +kernel⟩, by decide⟩
theorem iv_mX10_best : Cond.instanceMethod yX10_best ∈ z_tb := z_tbm 876 (by decide +kernel) rfl
theorem se_mX10_best : Cond.selects RX10 yX10_best yX10_best ∈ z_tb := z_tbm 877 (by decide +kernel) rfl
abbrev mX5_bestOf : zMt := (yX5_bestOf, prog_7_method_2_code, 11, some .long)
theorem mb_mX5_bestOf : z_MB mX5_bestOf 3 := ⟨z_tbk4 163 rfl rfl, z_tbm 11 (by decide +kernel) rfl, ⟨by decide, by decide, by decide +kernel⟩, by decide⟩
theorem iv_mX5_bestOf : Cond.instanceMethod yX5_bestOf ∈ z_tb := z_tbm 881 (by decide +kernel) rfl
theorem se_mX5_bestOf : Cond.selects RX5 yX5_bestOf yX5_bestOf ∈ z_tb := z_tbm 882 (by decide +kernel) rfl
abbrev mX5_reach : zMt := (yX5_reach, prog_7_method_3_code, 7, none)
theorem mb_mX5_reach : z_MB mX5_reach 1 := ⟨z_tbk4 170 rfl rfl, z_tbm 11 (by decide +kernel) rfl, ⟨by decide, by decide, by decide +kernel⟩, by decide⟩
theorem iv_mX5_reach : Cond.instanceMethod yX5_reach ∈ z_tb := z_tbm 889 (by decide +kernel) rfl
theorem se_mX5_reach : Cond.selects RX5 yX5_reach yX5_reach ∈ z_tb := z_selm (q := (yX5_reach, 7)) 34 (by decide +kernel)
abbrev mX5_fillMonth : zMt := (yX5_fillMonth, prog_7_method_4_code, 8, none)
theorem mb_mX5_fillMonth : z_MB mX5_fillMonth 3 := ⟨z_tbk4 174 rfl rfl, z_tbm 11 (by decide +kernel) rfl, ⟨by decide, by decide, by decide +kernel⟩, by decide⟩
theorem iv_mX5_fillMonth : Cond.instanceMethod yX5_fillMonth ∈ z_tb := z_tbm 893 (by decide +kernel) rfl
theorem se_mX5_fillMonth : Cond.selects RX5 yX5_fillMonth yX5_fillMonth ∈ z_tb := z_selm (q := (yX5_fillMonth, 7)) 35 (by decide +kernel)
abbrev mX5_homeFor : zMt := (yX5_homeFor, prog_7_method_5_code, 3, some .long)
theorem mb_mX5_homeFor : z_MB mX5_homeFor 3 := ⟨z_tbk4 177 rfl rfl, z_tbm 11 (by decide +kernel) rfl, ⟨by decide, by decide, by decide +kernel⟩, by decide⟩
theorem is_mX5_homeFor : Cond.static yX5_homeFor ∈ z_tb := z_tbm 896 (by decide +kernel) rfl
abbrev mX5_averageOf : zMt := (yX5_averageOf, prog_7_method_6_code, 8, some .long)
theorem mb_mX5_averageOf : z_MB mX5_averageOf 3 := ⟨z_tbk4 183 rfl rfl, z_tbm 11 (by decide +kernel) rfl, ⟨by decide, by decide, by decide +kernel⟩, by decide⟩
theorem iv_mX5_averageOf : Cond.instanceMethod yX5_averageOf ∈ z_tb := z_tbm 902 (by decide +kernel) rfl
theorem se_mX5_averageOf : Cond.selects RX5 yX5_averageOf yX5_averageOf ∈ z_tb := z_selm (q := (yX5_averageOf, 7)) 36 (by decide +kernel)
abbrev mJ9_max_f86c9 : zMt := (yJ9_max_f86c9, prog_15_method_66_code, 4, some .long)
theorem mb_mJ9_max_f86c9 : z_MB mJ9_max_f86c9 2 := ⟨z_tbk4 188 rfl rfl, z_tbm 14 (by decide +kernel) rfl, ⟨by decide, by decide, by decide +kernel⟩, by decide⟩
theorem is_mJ9_max_f86c9 : Cond.static yJ9_max_f86c9 ∈ z_tb := z_tbm 907 (by decide +kernel) rfl
abbrev mX10_odds : zMt := (yX10_odds, prog_1_method_25_code, 4, some .long)
theorem mb_mX10_odds : z_MB mX10_odds 3 := ⟨z_tbk4 192 rfl rfl, z_tbm 1 (by decide +kernel) rfl, ⟨by decide, by decide, by decide +kernel⟩, by decide⟩
theorem iv_mX10_odds : Cond.instanceMethod yX10_odds ∈ z_tb := z_tbm 910 (by decide +kernel) rfl
theorem se_mX10_odds : Cond.selects RX10 yX10_odds yX10_odds ∈ z_tb := z_tbm 911 (by decide +kernel) rfl
abbrev mX5_chanceOfOil : zMt := (yX5_chanceOfOil, prog_7_method_7_code, 11, some .long)
theorem mb_mX5_chanceOfOil : z_MB mX5_chanceOfOil 4 := ⟨z_tbk4 196 rfl rfl, z_tbm 11 (by decide +kernel) rfl, ⟨by decide, by decide, by decide +kernel⟩, by decide⟩
theorem iv_mX5_chanceOfOil : Cond.instanceMethod yX5_chanceOfOil ∈ z_tb := z_tbm 914 (by decide +kernel) rfl
theorem se_mX5_chanceOfOil : Cond.selects RX5 yX5_chanceOfOil yX5_chanceOfOil ∈ z_tb := z_tbm 915 (by decide +kernel) rfl
abbrev mX5_spread : zMt := (yX5_spread, prog_7_method_8_code, 8, none)
theorem mb_mX5_spread : z_MB mX5_spread 3 := ⟨z_tbk4 202 rfl rfl, z_tbm 11 (by decide +kernel) rfl, ⟨by decide, by decide, by decide +kernel⟩, by decide⟩
theorem iv_mX5_spread : Cond.instanceMethod yX5_spread ∈ z_tb := z_tbm 921 (by decide +kernel) rfl
theorem se_mX5_spread : Cond.selects RX5 yX5_spread yX5_spread ∈ z_tb := z_selm (q := (yX5_spread, 7)) 37 (by decide +kernel)
abbrev mX10_left : zMt := (yX10_left, prog_1_method_26_code, 2, some .int)
theorem mb_mX10_left : z_MB mX10_left 1 := ⟨z_tbk4 206 rfl rfl, z_tbm 1 (by decide +kernel) rfl, ⟨by decide, by decide, by decide +kernel⟩, by decide⟩
theorem iv_mX10_left : Cond.instanceMethod yX10_left ∈ z_tb := z_tbm 924 (by decide +kernel) rfl
theorem se_mX10_left : Cond.selects RX10 yX10_left yX10_left ∈ z_tb := z_tbm 925 (by decide +kernel) rfl
abbrev mX5_atRest : zMt := (yX5_atRest, prog_7_method_9_code, 7, some .int)
theorem mb_mX5_atRest : z_MB mX5_atRest 2 := ⟨z_tbk4 210 rfl rfl, z_tbm 11 (by decide +kernel) rfl, ⟨by decide, by decide, by decide +kernel⟩, by decide⟩
theorem iv_mX5_atRest : Cond.instanceMethod yX5_atRest ∈ z_tb := z_tbm 928 (by decide +kernel) rfl
theorem se_mX5_atRest : Cond.selects RX5 yX5_atRest yX5_atRest ∈ z_tb := z_tbm 929 (by decide +kernel) rfl
abbrev mX10_least : zMt := (yX10_least, prog_1_method_27_code, 2, some .int)
theorem mb_mX10_least : z_MB mX10_least 1 := ⟨z_tbk4 216 rfl rfl, z_tbm 1 (by decide +kernel) rfl, ⟨by decide, by decide, by decide +kernel⟩, by decide⟩
theorem iv_mX10_least : Cond.instanceMethod yX10_least ∈ z_tb := z_tbm 934 (by decide +kernel) rfl
theorem se_mX10_least : Cond.selects RX10 yX10_least yX10_least ∈ z_tb := z_tbm 935 (by decide +kernel) rfl
abbrev mX5_greatestLay : zMt := (yX5_greatestLay, prog_7_method_10_code, 5, some .int)
theorem mb_mX5_greatestLay : z_MB mX5_greatestLay 2 := ⟨z_tbk4 220 rfl rfl, z_tbm 11 (by decide +kernel) rfl, ⟨by decide, by decide, by decide +kernel⟩, by decide⟩
theorem iv_mX5_greatestLay : Cond.instanceMethod yX5_greatestLay ∈ z_tb := z_tbm 938 (by decide +kernel) rfl
theorem se_mX5_greatestLay : Cond.selects RX5 yX5_greatestLay yX5_greatestLay ∈ z_tb := z_tbm 939 (by decide +kernel) rfl
abbrev mX10_crew : zMt := (yX10_crew, prog_1_method_28_code, 4, some .long)
theorem mb_mX10_crew : z_MB mX10_crew 3 := ⟨z_tbk4 224 rfl rfl, z_tbm 1 (by decide +kernel) rfl, ⟨by decide, by decide, by decide +kernel⟩, by decide⟩
theorem iv_mX10_crew : Cond.instanceMethod yX10_crew ∈ z_tb := z_tbm 942 (by decide +kernel) rfl
theorem se_mX10_crew : Cond.selects RX10 yX10_crew yX10_crew ∈ z_tb := z_tbm 943 (by decide +kernel) rfl
abbrev mX5_cheapestCrew : zMt := (yX5_cheapestCrew, prog_7_method_11_code, 13, some .long)
theorem mb_mX5_cheapestCrew : z_MB mX5_cheapestCrew 4 := ⟨z_tbk4 228 rfl rfl, z_tbm 11 (by decide +kernel) rfl, ⟨by decide, by decide, by decide +kernel⟩, by decide⟩
theorem iv_mX5_cheapestCrew : Cond.instanceMethod yX5_cheapestCrew ∈ z_tb := z_tbm 946 (by decide +kernel) rfl
theorem se_mX5_cheapestCrew : Cond.selects RX5 yX5_cheapestCrew yX5_cheapestCrew ∈ z_tb := z_tbm 947 (by decide +kernel) rfl
abbrev mX5_partsOfSet : zMt := (yX5_partsOfSet, prog_7_method_12_code, 5, some .long)
theorem mb_mX5_partsOfSet : z_MB mX5_partsOfSet 2 := ⟨z_tbk4 232 rfl rfl, z_tbm 11 (by decide +kernel) rfl, ⟨by decide, by decide, by decide +kernel⟩, by decide⟩
theorem is_mX5_partsOfSet : Cond.static yX5_partsOfSet ∈ z_tb := z_tbm 951 (by decide +kernel) rfl
abbrev mX10_word : zMt := (yX10_word, prog_1_method_29_code, 3, some .int)
theorem mb_mX10_word : z_MB mX10_word 2 := ⟨z_tbk4 237 rfl rfl, z_tbm 1 (by decide +kernel) rfl, ⟨by decide, by decide, by decide +kernel⟩, by decide⟩
theorem iv_mX10_word : Cond.instanceMethod yX10_word ∈ z_tb := z_tbm 955 (by decide +kernel) rfl
theorem se_mX10_word : Cond.selects RX10 yX10_word yX10_word ∈ z_tb := z_tbm 956 (by decide +kernel) rfl
abbrev mX7_addWord : zMt := (yX7_addWord, prog_9_method_11_code, 3, some .int)
theorem mb_mX7_addWord : z_MB mX7_addWord 2 := ⟨z_tbk5 2 rfl rfl, z_tbm 2 (by decide +kernel) rfl, ⟨by decide, by decide, by decide +kernel⟩, by decide⟩
theorem iv_mX7_addWord : Cond.instanceMethod yX7_addWord ∈ z_tb := z_tbm 960 (by decide +kernel) rfl
theorem se_mX7_addWord : Cond.selects RX7 yX7_addWord yX7_addWord ∈ z_tb := z_tbm 961 (by decide +kernel) rfl
abbrev mX10_forget : zMt := (yX10_forget, prog_1_method_30_code, 2, some .int)
theorem mb_mX10_forget : z_MB mX10_forget 0 := ⟨z_tbk5 6 rfl rfl, z_tbm 1 (by decide +kernel) rfl, ⟨by decide, by decide, by decide +kernel⟩, by decide⟩
theorem iv_mX10_forget : Cond.instanceMethod yX10_forget ∈ z_tb := z_tbm 964 (by decide +kernel) rfl
theorem se_mX10_forget : Cond.selects RX10 yX10_forget yX10_forget ∈ z_tb := z_tbm 965 (by decide +kernel) rfl
abbrev mX10_barrels : zMt := (yX10_barrels, prog_1_method_31_code, 3, some .int)
theorem mb_mX10_barrels : z_MB mX10_barrels 1 := ⟨z_tbk5 10 rfl rfl, z_tbm 1 (by decide +kernel) rfl, ⟨by decide, by decide, by decide +kernel⟩, by decide⟩
theorem iv_mX10_barrels : Cond.instanceMethod yX10_barrels ∈ z_tb := z_tbm 968 (by decide +kernel) rfl
theorem se_mX10_barrels : Cond.selects RX10 yX10_barrels yX10_barrels ∈ z_tb := z_tbm 969 (by decide +kernel) rfl
abbrev mX5_weigh : zMt := (yX5_weigh, prog_7_method_13_code, 7, none)
theorem mb_mX5_weigh : z_MB mX5_weigh 1 := ⟨z_tbk5 14 rfl rfl, z_tbm 11 (by decide +kernel) rfl, ⟨by decide, by decide, by decide +kernel⟩, by decide⟩
theorem iv_mX5_weigh : Cond.instanceMethod yX5_weigh ∈ z_tb := z_tbm 972 (by decide +kernel) rfl
theorem se_mX5_weigh : Cond.selects RX5 yX5_weigh yX5_weigh ∈ z_tb := z_tbm 973 (by decide +kernel) rfl
abbrev mJ9_floorDiv_7cf53 : zMt := (yJ9_floorDiv_7cf53, prog_15_method_47_code, 3, some .int)
theorem mb_mJ9_floorDiv_7cf53 : z_MB mJ9_floorDiv_7cf53 2 := ⟨z_tbk5 17 rfl rfl, z_tbm 14 (by decide +kernel) rfl, ⟨by decide, by decide, by decide +kernel⟩, by decide⟩
theorem is_mJ9_floorDiv_7cf53 : Cond.static yJ9_floorDiv_7cf53 ∈ z_tb := z_tbm 976 (by decide +kernel) rfl
abbrev mX10_ask : zMt := (yX10_ask, prog_1_method_32_code, 2, some .int)
theorem mb_mX10_ask : z_MB mX10_ask 1 := ⟨z_tbk5 21 rfl rfl, z_tbm 1 (by decide +kernel) rfl, ⟨by decide, by decide, by decide +kernel⟩, by decide⟩
theorem iv_mX10_ask : Cond.instanceMethod yX10_ask ∈ z_tb := z_tbm 979 (by decide +kernel) rfl
theorem se_mX10_ask : Cond.selects RX10 yX10_ask yX10_ask ∈ z_tb := z_tbm 980 (by decide +kernel) rfl
abbrev mX5_toAsk : zMt := (yX5_toAsk, prog_7_method_14_code, 7, some .int)
theorem mb_mX5_toAsk : z_MB mX5_toAsk 2 := ⟨z_tbk5 25 rfl rfl, z_tbm 11 (by decide +kernel) rfl, ⟨by decide, by decide, by decide +kernel⟩, by decide⟩
theorem iv_mX5_toAsk : Cond.instanceMethod yX5_toAsk ∈ z_tb := z_tbm 983 (by decide +kernel) rfl
theorem se_mX5_toAsk : Cond.selects RX5 yX5_toAsk yX5_toAsk ∈ z_tb := z_tbm 984 (by decide +kernel) rfl
abbrev mX5_mostAlike : zMt := (yX5_mostAlike, prog_7_method_15_code, 9, some .int)
theorem mb_mX5_mostAlike : z_MB mX5_mostAlike 2 := ⟨z_tbk5 30 rfl rfl, z_tbm 11 (by decide +kernel) rfl, ⟨by decide, by decide, by decide +kernel⟩, by decide⟩
theorem iv_mX5_mostAlike : Cond.instanceMethod yX5_mostAlike ∈ z_tb := z_tbm 989 (by decide +kernel) rfl
theorem se_mX5_mostAlike : Cond.selects RX5 yX5_mostAlike yX5_mostAlike ∈ z_tb := z_selm (q := (yX5_mostAlike, 7)) 38 (by decide +kernel)
abbrev mX10_years : zMt := (yX10_years, prog_1_method_33_code, 3, some .int)
theorem mb_mX10_years : z_MB mX10_years 2 := ⟨z_tbk5 35 rfl rfl, z_tbm 1 (by decide +kernel) rfl, ⟨by decide, by decide, by decide +kernel⟩, by decide⟩
theorem iv_mX10_years : Cond.instanceMethod yX10_years ∈ z_tb := z_tbm 993 (by decide +kernel) rfl
theorem se_mX10_years : Cond.selects RX10 yX10_years yX10_years ∈ z_tb := z_tbm 994 (by decide +kernel) rfl
abbrev mX4_drift : zMt := (yX4_drift, prog_6_method_8_code, 9, some .int)
theorem mb_mX4_drift : z_MB mX4_drift 3 := ⟨z_tbk5 40 rfl rfl, z_tbm 9 (by decide +kernel) rfl, ⟨by decide, by decide, by decide +kernel⟩, by decide⟩
theorem iv_mX4_drift : Cond.instanceMethod yX4_drift ∈ z_tb := z_tbm 998 (by decide +kernel) rfl
theorem se_mX4_drift : Cond.selects RX4 yX4_drift yX4_drift ∈ z_tb := z_tbm 999 (by decide +kernel) rfl
abbrev mX4_takenBy : zMt := (yX4_takenBy, prog_6_method_9_code, 5, some .int)
theorem mb_mX4_takenBy : z_MB mX4_takenBy 3 := ⟨z_tbk5 44 rfl rfl, z_tbm 9 (by decide +kernel) rfl, ⟨by decide, by decide, by decide +kernel⟩, by decide⟩
theorem is_mX4_takenBy : Cond.static yX4_takenBy ∈ z_tb := z_tbm 1003 (by decide +kernel) rfl
abbrev mX10_drawn : zMt := (yX10_drawn, prog_1_method_34_code, 3, some .int)
theorem mb_mX10_drawn : z_MB mX10_drawn 2 := ⟨z_tbk5 49 rfl rfl, z_tbm 1 (by decide +kernel) rfl, ⟨by decide, by decide, by decide +kernel⟩, by decide⟩
theorem iv_mX10_drawn : Cond.instanceMethod yX10_drawn ∈ z_tb := z_tbm 1007 (by decide +kernel) rfl
theorem se_mX10_drawn : Cond.selects RX10 yX10_drawn yX10_drawn ∈ z_tb := z_tbm 1008 (by decide +kernel) rfl
abbrev mX10_image : zMt := (yX10_image, prog_1_method_35_code, 2, some .int)
theorem mb_mX10_image : z_MB mX10_image 1 := ⟨z_tbk5 53 rfl rfl, z_tbm 1 (by decide +kernel) rfl, ⟨by decide, by decide, by decide +kernel⟩, by decide⟩
theorem iv_mX10_image : Cond.instanceMethod yX10_image ∈ z_tb := z_tbm 1011 (by decide +kernel) rfl
theorem se_mX10_image : Cond.selects RX10 yX10_image yX10_image ∈ z_tb := z_tbm 1012 (by decide +kernel) rfl
abbrev mX10_back : zMt := (yX10_back, prog_1_method_36_code, 2, some .int)
theorem mb_mX10_back : z_MB mX10_back 1 := ⟨z_tbk5 57 rfl rfl, z_tbm 1 (by decide +kernel) rfl, ⟨by decide, by decide, by decide +kernel⟩, by decide⟩
theorem iv_mX10_back : Cond.instanceMethod yX10_back ∈ z_tb := z_tbm 1015 (by decide +kernel) rfl
theorem se_mX10_back : Cond.selects RX10 yX10_back yX10_back ∈ z_tb := z_tbm 1016 (by decide +kernel) rfl
abbrev mX10_count : zMt := (yX10_count, prog_1_method_37_code, 2, some .int)
theorem mb_mX10_count : z_MB mX10_count 1 := ⟨z_tbk5 61 rfl rfl, z_tbm 1 (by decide +kernel) rfl, ⟨by decide, by decide, by decide +kernel⟩, by decide⟩
theorem iv_mX10_count : Cond.instanceMethod yX10_count ∈ z_tb := z_tbm 1019 (by decide +kernel) rfl
theorem se_mX10_count : Cond.selects RX10 yX10_count yX10_count ∈ z_tb := z_tbm 1020 (by decide +kernel) rfl
abbrev mX10_status : zMt := (yX10_status, prog_1_method_38_code, 1, some .int)
theorem mb_mX10_status : z_MB mX10_status 0 := ⟨z_tbk5 65 rfl rfl, z_tbm 1 (by decide +kernel) rfl, ⟨by decide, by decide, by decide +kernel⟩, by decide⟩
theorem iv_mX10_status : Cond.instanceMethod yX10_status ∈ z_tb := z_tbm 1023 (by decide +kernel) rfl
theorem se_mX10_status : Cond.selects RX10 yX10_status yX10_status ∈ z_tb := z_tbm 1024 (by decide +kernel) rfl
abbrev mX11_init : zMt := (yX11_init, prog_13_method_9_code, 2, none)
theorem mb_mX11_init : z_MB mX11_init 0 := ⟨z_tbk5 70 rfl rfl, z_tbm 12 (by decide +kernel) rfl, ⟨by decide, by decide, by decide +kernel⟩, by decide⟩
theorem iv_mX11_init : Cond.instanceMethod yX11_init ∈ z_tb := z_tbm 1029 (by decide +kernel) rfl
abbrev mX11_image : zMt := (yX11_image, prog_13_method_12_code, 3, some .int)
theorem mb_mX11_image : z_MB mX11_image 1 := ⟨z_tbk5 215 rfl rfl, z_tbm 12 (by decide +kernel) rfl, ⟨by decide, by decide, by decide +kernel⟩, by decide⟩
theorem iv_mX11_image : Cond.instanceMethod yX11_image ∈ z_tb := z_tbm 1173 (by decide +kernel) rfl
theorem se_mX11_image : Cond.selects RX11 yX11_image yX11_image ∈ z_tb := z_tbm 1174 (by decide +kernel) rfl
abbrev mX11_lies : zMt := (yX11_lies, prog_13_method_1_code, 3, some .boolean)
theorem mb_mX11_lies : z_MB mX11_lies 3 := ⟨z_tbk5 218 rfl rfl, z_tbm 12 (by decide +kernel) rfl, ⟨by decide, by decide, by decide +kernel⟩, by decide⟩
theorem is_mX11_lies : Cond.static yX11_lies ∈ z_tb := z_tbm 1177 (by decide +kernel) rfl
abbrev mX11_refuses : zMt := (yX11_refuses, prog_13_method_2_code, 2, some .int)
theorem mb_mX11_refuses : z_MB mX11_refuses 1 := ⟨z_tbk5 222 rfl rfl, z_tbm 12 (by decide +kernel) rfl, ⟨by decide, by decide, by decide +kernel⟩, by decide⟩
theorem iv_mX11_refuses : Cond.instanceMethod yX11_refuses ∈ z_tb := z_tbm 1181 (by decide +kernel) rfl
theorem se_mX11_refuses : Cond.selects RX11 yX11_refuses yX11_refuses ∈ z_tb := z_selm (q := (yX11_refuses, 46)) 39 (by decide +kernel)
abbrev mX11_good : zMt := (yX11_good, prog_13_method_3_code, 2, some .int)
theorem mb_mX11_good : z_MB mX11_good 1 := ⟨z_tbk5 226 rfl rfl, z_tbm 12 (by decide +kernel) rfl, ⟨by decide, by decide, by decide +kernel⟩, by decide⟩
theorem iv_mX11_good : Cond.instanceMethod yX11_good ∈ z_tb := z_tbm 1185 (by decide +kernel) rfl
theorem se_mX11_good : Cond.selects RX11 yX11_good yX11_good ∈ z_tb := z_selm (q := (yX11_good, 46)) 40 (by decide +kernel)
abbrev mX11_back : zMt := (yX11_back, prog_13_method_13_code, 3, some .int)
theorem mb_mX11_back : z_MB mX11_back 1 := ⟨z_tbk5 230 rfl rfl, z_tbm 12 (by decide +kernel) rfl, ⟨by decide, by decide, by decide +kernel⟩, by decide⟩
theorem iv_mX11_back : Cond.instanceMethod yX11_back ∈ z_tb := z_tbm 1188 (by decide +kernel) rfl
theorem se_mX11_back : Cond.selects RX11 yX11_back yX11_back ∈ z_tb := z_tbm 1189 (by decide +kernel) rfl
abbrev mX11_settled : zMt := (yX11_settled, prog_13_method_4_code, 2, some .int)
theorem mb_mX11_settled : z_MB mX11_settled 1 := ⟨z_tbk5 234 rfl rfl, z_tbm 12 (by decide +kernel) rfl, ⟨by decide, by decide, by decide +kernel⟩, by decide⟩
theorem iv_mX11_settled : Cond.instanceMethod yX11_settled ∈ z_tb := z_tbm 1193 (by decide +kernel) rfl
theorem se_mX11_settled : Cond.selects RX11 yX11_settled yX11_settled ∈ z_tb := z_selm (q := (yX11_settled, 46)) 41 (by decide +kernel)
abbrev mX11_sign : zMt := (yX11_sign, prog_13_method_19_code, 4, some .int)
theorem mb_mX11_sign : z_MB mX11_sign 2 := ⟨z_tbk5 238 rfl rfl, z_tbm 12 (by decide +kernel) rfl, ⟨by decide, by decide, by decide +kernel⟩, by decide⟩
theorem iv_mX11_sign : Cond.instanceMethod yX11_sign ∈ z_tb := z_tbm 1196 (by decide +kernel) rfl
theorem se_mX11_sign : Cond.selects RX11 yX11_sign yX11_sign ∈ z_tb := z_tbm 1197 (by decide +kernel) rfl
abbrev mX11_of : zMt := (yX11_of, prog_13_method_20_code, 3, some .int)
theorem mb_mX11_of : z_MB mX11_of 2 := ⟨z_tbk6 2 rfl rfl, z_tbm 12 (by decide +kernel) rfl, ⟨by decide, by decide, by decide +kernel⟩, by decide⟩
theorem iv_mX11_of : Cond.instanceMethod yX11_of ∈ z_tb := z_tbm 1200 (by decide +kernel) rfl
theorem se_mX11_of : Cond.selects RX11 yX11_of yX11_of ∈ z_tb := z_tbm 1201 (by decide +kernel) rfl
abbrev mX11_isHand : zMt := (yX11_isHand, prog_13_method_14_code, 2, some .boolean)
theorem mb_mX11_isHand : z_MB mX11_isHand 1 := ⟨z_tbk6 6 rfl rfl, z_tbm 12 (by decide +kernel) rfl, ⟨by decide, by decide, by decide +kernel⟩, by decide⟩
theorem iv_mX11_isHand : Cond.instanceMethod yX11_isHand ∈ z_tb := z_tbm 1205 (by decide +kernel) rfl
theorem se_mX11_isHand : Cond.selects RX11 yX11_isHand yX11_isHand ∈ z_tb := z_selm (q := (yX11_isHand, 46)) 42 (by decide +kernel)
abbrev mX11_eatsFor : zMt := (yX11_eatsFor, prog_13_method_73_code, 2, some .int)
theorem mb_mX11_eatsFor : z_MB mX11_eatsFor 1 := ⟨z_tbk6 11 rfl rfl, z_tbm 12 (by decide +kernel) rfl, ⟨by decide, by decide, by decide +kernel⟩, by decide⟩
theorem iv_mX11_eatsFor : Cond.instanceMethod yX11_eatsFor ∈ z_tb := z_tbm 1210 (by decide +kernel) rfl
theorem se_mX11_eatsFor : Cond.selects RX11 yX11_eatsFor yX11_eatsFor ∈ z_tb := z_selm (q := (yX11_eatsFor, 46)) 43 (by decide +kernel)
abbrev mX11_crewNow : zMt := (yX11_crewNow, prog_13_method_17_code, 3, some .int)
theorem mb_mX11_crewNow : z_MB mX11_crewNow 0 := ⟨z_tbk6 15 rfl rfl, z_tbm 12 (by decide +kernel) rfl, ⟨by decide, by decide, by decide +kernel⟩, by decide⟩
theorem iv_mX11_crewNow : Cond.instanceMethod yX11_crewNow ∈ z_tb := z_tbm 1214 (by decide +kernel) rfl
theorem se_mX11_crewNow : Cond.selects RX11 yX11_crewNow yX11_crewNow ∈ z_tb := z_selm (q := (yX11_crewNow, 46)) 44 (by decide +kernel)
abbrev mX11_setsHand : zMt := (yX11_setsHand, prog_13_method_70_code, 4, none)
theorem mb_mX11_setsHand : z_MB mX11_setsHand 3 := ⟨z_tbk6 19 rfl rfl, z_tbm 12 (by decide +kernel) rfl, ⟨by decide, by decide, by decide +kernel⟩, by decide⟩
theorem iv_mX11_setsHand : Cond.instanceMethod yX11_setsHand ∈ z_tb := z_tbm 1218 (by decide +kernel) rfl
theorem se_mX11_setsHand : Cond.selects RX11 yX11_setsHand yX11_setsHand ∈ z_tb := z_selm (q := (yX11_setsHand, 46)) 45 (by decide +kernel)
abbrev mX11_setsNone : zMt := (yX11_setsNone, prog_13_method_69_code, 3, none)
theorem mb_mX11_setsNone : z_MB mX11_setsNone 1 := ⟨z_tbk6 23 rfl rfl, z_tbm 12 (by decide +kernel) rfl, ⟨by decide, by decide, by decide +kernel⟩, by decide⟩
theorem iv_mX11_setsNone : Cond.instanceMethod yX11_setsNone ∈ z_tb := z_tbm 1222 (by decide +kernel) rfl
theorem se_mX11_setsNone : Cond.selects RX11 yX11_setsNone yX11_setsNone ∈ z_tb := z_selm (q := (yX11_setsNone, 46)) 46 (by decide +kernel)
abbrev mX11_tells : zMt := (yX11_tells, prog_13_method_71_code, 11, some .int)
theorem mb_mX11_tells : z_MB mX11_tells 3 := ⟨z_tbk6 27 rfl rfl, z_tbm 12 (by decide +kernel) rfl, ⟨by decide, by decide, by decide +kernel⟩, by decide⟩
theorem iv_mX11_tells : Cond.instanceMethod yX11_tells ∈ z_tb := z_tbm 1226 (by decide +kernel) rfl
theorem se_mX11_tells : Cond.selects RX11 yX11_tells yX11_tells ∈ z_tb := z_selm (q := (yX11_tells, 46)) 47 (by decide +kernel)
abbrev mX11_codeAt : zMt := (yX11_codeAt, prog_13_method_58_code, 2, some .int)
theorem mb_mX11_codeAt : z_MB mX11_codeAt 1 := ⟨z_tbk6 31 rfl rfl, z_tbm 12 (by decide +kernel) rfl, ⟨by decide, by decide, by decide +kernel⟩, by decide⟩
theorem iv_mX11_codeAt : Cond.instanceMethod yX11_codeAt ∈ z_tb := z_tbm 1230 (by decide +kernel) rfl
theorem se_mX11_codeAt : Cond.selects RX11 yX11_codeAt yX11_codeAt ∈ z_tb := z_selm (q := (yX11_codeAt, 46)) 48 (by decide +kernel)
abbrev mX11_sumOf : zMt := (yX11_sumOf, prog_13_method_61_code, 7, some .long)
theorem mb_mX11_sumOf : z_MB mX11_sumOf 1 := ⟨z_tbk6 35 rfl rfl, z_tbm 12 (by decide +kernel) rfl, ⟨by decide, by decide, by decide +kernel⟩, by decide⟩
theorem iv_mX11_sumOf : Cond.instanceMethod yX11_sumOf ∈ z_tb := z_tbm 1234 (by decide +kernel) rfl
theorem se_mX11_sumOf : Cond.selects RX11 yX11_sumOf yX11_sumOf ∈ z_tb := z_selm (q := (yX11_sumOf, 46)) 49 (by decide +kernel)
abbrev mX11_termOf : zMt := (yX11_termOf, prog_13_method_62_code, 7, some .long)
theorem mb_mX11_termOf : z_MB mX11_termOf 1 := ⟨z_tbk6 39 rfl rfl, z_tbm 12 (by decide +kernel) rfl, ⟨by decide, by decide, by decide +kernel⟩, by decide⟩
theorem iv_mX11_termOf : Cond.instanceMethod yX11_termOf ∈ z_tb := z_tbm 1238 (by decide +kernel) rfl
theorem se_mX11_termOf : Cond.selects RX11 yX11_termOf yX11_termOf ∈ z_tb := z_selm (q := (yX11_termOf, 46)) 50 (by decide +kernel)
abbrev mX11_partOf : zMt := (yX11_partOf, prog_13_method_63_code, 4, some .long)
theorem mb_mX11_partOf : z_MB mX11_partOf 1 := ⟨z_tbk6 43 rfl rfl, z_tbm 12 (by decide +kernel) rfl, ⟨by decide, by decide, by decide +kernel⟩, by decide⟩
theorem iv_mX11_partOf : Cond.instanceMethod yX11_partOf ∈ z_tb := z_tbm 1242 (by decide +kernel) rfl
theorem se_mX11_partOf : Cond.selects RX11 yX11_partOf yX11_partOf ∈ z_tb := z_selm (q := (yX11_partOf, 46)) 51 (by decide +kernel)
abbrev mX11_signOf : zMt := (yX11_signOf, prog_13_method_41_code, 1, some .int)
theorem mb_mX11_signOf : z_MB mX11_signOf 1 := ⟨z_tbk6 46 rfl rfl, z_tbm 12 (by decide +kernel) rfl, ⟨by decide, by decide, by decide +kernel⟩, by decide⟩
theorem is_mX11_signOf : Cond.static yX11_signOf ∈ z_tb := z_tbm 1245 (by decide +kernel) rfl
abbrev mX11_passes0 : zMt := (yX11_passes0, prog_13_method_59_code, 3, some .boolean)
theorem mb_mX11_passes0 : z_MB mX11_passes0 1 := ⟨z_tbk6 50 rfl rfl, z_tbm 12 (by decide +kernel) rfl, ⟨by decide, by decide, by decide +kernel⟩, by decide⟩
theorem iv_mX11_passes0 : Cond.instanceMethod yX11_passes0 ∈ z_tb := z_tbm 1249 (by decide +kernel) rfl
theorem se_mX11_passes0 : Cond.selects RX11 yX11_passes0 yX11_passes0 ∈ z_tb := z_selm (q := (yX11_passes0, 46)) 52 (by decide +kernel)
abbrev mX11_orderValue : zMt := (yX11_orderValue, prog_13_method_64_code, 3, some .int)
theorem mb_mX11_orderValue : z_MB mX11_orderValue 2 := ⟨z_tbk6 54 rfl rfl, z_tbm 12 (by decide +kernel) rfl, ⟨by decide, by decide, by decide +kernel⟩, by decide⟩
theorem iv_mX11_orderValue : Cond.instanceMethod yX11_orderValue ∈ z_tb := z_tbm 1253 (by decide +kernel) rfl
theorem se_mX11_orderValue : Cond.selects RX11 yX11_orderValue yX11_orderValue ∈ z_tb := z_selm (q := (yX11_orderValue, 46)) 53 (by decide +kernel)
abbrev mX11_isGround : zMt := (yX11_isGround, prog_13_method_15_code, 2, some .boolean)
theorem mb_mX11_isGround : z_MB mX11_isGround 1 := ⟨z_tbk6 58 rfl rfl, z_tbm 12 (by decide +kernel) rfl, ⟨by decide, by decide, by decide +kernel⟩, by decide⟩
theorem iv_mX11_isGround : Cond.instanceMethod yX11_isGround ∈ z_tb := z_tbm 1257 (by decide +kernel) rfl
theorem se_mX11_isGround : Cond.selects RX11 yX11_isGround yX11_isGround ∈ z_tb := z_selm (q := (yX11_isGround, 46)) 54 (by decide +kernel)
abbrev mX11_bounded : zMt := (yX11_bounded, prog_13_method_60_code, 4, some .long)
theorem mb_mX11_bounded : z_MB mX11_bounded 2 := ⟨z_tbk6 62 rfl rfl, z_tbm 12 (by decide +kernel) rfl, ⟨by decide, by decide, by decide +kernel⟩, by decide⟩
theorem iv_mX11_bounded : Cond.instanceMethod yX11_bounded ∈ z_tb := z_tbm 1261 (by decide +kernel) rfl
theorem se_mX11_bounded : Cond.selects RX11 yX11_bounded yX11_bounded ∈ z_tb := z_selm (q := (yX11_bounded, 46)) 55 (by decide +kernel)
abbrev mX11_testOf : zMt := (yX11_testOf, prog_13_method_65_code, 4, some .boolean)
theorem mb_mX11_testOf : z_MB mX11_testOf 1 := ⟨z_tbk6 68 rfl rfl, z_tbm 12 (by decide +kernel) rfl, ⟨by decide, by decide, by decide +kernel⟩, by decide⟩
theorem iv_mX11_testOf : Cond.instanceMethod yX11_testOf ∈ z_tb := z_tbm 1267 (by decide +kernel) rfl
theorem se_mX11_testOf : Cond.selects RX11 yX11_testOf yX11_testOf ∈ z_tb := z_selm (q := (yX11_testOf, 46)) 56 (by decide +kernel)
abbrev mX11_bothOf : zMt := (yX11_bothOf, prog_13_method_66_code, 4, some .boolean)
theorem mb_mX11_bothOf : z_MB mX11_bothOf 1 := ⟨z_tbk6 72 rfl rfl, z_tbm 12 (by decide +kernel) rfl, ⟨by decide, by decide, by decide +kernel⟩, by decide⟩
theorem iv_mX11_bothOf : Cond.instanceMethod yX11_bothOf ∈ z_tb := z_tbm 1271 (by decide +kernel) rfl
theorem se_mX11_bothOf : Cond.selects RX11 yX11_bothOf yX11_bothOf ∈ z_tb := z_selm (q := (yX11_bothOf, 46)) 57 (by decide +kernel)
abbrev mX11_plainOf : zMt := (yX11_plainOf, prog_13_method_67_code, 3, some .boolean)
theorem mb_mX11_plainOf : z_MB mX11_plainOf 1 := ⟨z_tbk6 76 rfl rfl, z_tbm 12 (by decide +kernel) rfl, ⟨by decide, by decide, by decide +kernel⟩, by decide⟩
theorem iv_mX11_plainOf : Cond.instanceMethod yX11_plainOf ∈ z_tb := z_tbm 1275 (by decide +kernel) rfl
theorem se_mX11_plainOf : Cond.selects RX11 yX11_plainOf yX11_plainOf ∈ z_tb := z_selm (q := (yX11_plainOf, 46)) 58 (by decide +kernel)
abbrev mX11_positiveOf : zMt := (yX11_positiveOf, prog_13_method_68_code, 7, some .boolean)
theorem mb_mX11_positiveOf : z_MB mX11_positiveOf 1 := ⟨z_tbk6 80 rfl rfl, z_tbm 12 (by decide +kernel) rfl, ⟨by decide, by decide, by decide +kernel⟩, by decide⟩
theorem iv_mX11_positiveOf : Cond.instanceMethod yX11_positiveOf ∈ z_tb := z_tbm 1279 (by decide +kernel) rfl
theorem se_mX11_positiveOf : Cond.selects RX11 yX11_positiveOf yX11_positiveOf ∈ z_tb := z_selm (q := (yX11_positiveOf, 46)) 59 (by decide +kernel)
abbrev mX11_deserts : zMt := (yX11_deserts, prog_13_method_74_code, 4, some .boolean)
theorem mb_mX11_deserts : z_MB mX11_deserts 3 := ⟨z_tbk6 85 rfl rfl, z_tbm 12 (by decide +kernel) rfl, ⟨by decide, by decide, by decide +kernel⟩, by decide⟩
theorem iv_mX11_deserts : Cond.instanceMethod yX11_deserts ∈ z_tb := z_tbm 1284 (by decide +kernel) rfl
theorem se_mX11_deserts : Cond.selects RX11 yX11_deserts yX11_deserts ∈ z_tb := z_selm (q := (yX11_deserts, 46)) 60 (by decide +kernel)
abbrev mX11_wholeNow : zMt := (yX11_wholeNow, prog_13_method_93_code, 2, some .int)
theorem mb_mX11_wholeNow : z_MB mX11_wholeNow 1 := ⟨z_tbk6 89 rfl rfl, z_tbm 12 (by decide +kernel) rfl, ⟨by decide, by decide, by decide +kernel⟩, by decide⟩
theorem iv_mX11_wholeNow : Cond.instanceMethod yX11_wholeNow ∈ z_tb := z_tbm 1288 (by decide +kernel) rfl
theorem se_mX11_wholeNow : Cond.selects RX11 yX11_wholeNow yX11_wholeNow ∈ z_tb := z_selm (q := (yX11_wholeNow, 46)) 61 (by decide +kernel)
abbrev mX11_isAboard : zMt := (yX11_isAboard, prog_13_method_16_code, 2, some .boolean)
theorem mb_mX11_isAboard : z_MB mX11_isAboard 1 := ⟨z_tbk6 93 rfl rfl, z_tbm 12 (by decide +kernel) rfl, ⟨by decide, by decide, by decide +kernel⟩, by decide⟩
theorem iv_mX11_isAboard : Cond.instanceMethod yX11_isAboard ∈ z_tb := z_tbm 1292 (by decide +kernel) rfl
theorem se_mX11_isAboard : Cond.selects RX11 yX11_isAboard yX11_isAboard ∈ z_tb := z_selm (q := (yX11_isAboard, 46)) 62 (by decide +kernel)
abbrev mX11_wholeOf : zMt := (yX11_wholeOf, prog_13_method_92_code, 3, some .int)
theorem mb_mX11_wholeOf : z_MB mX11_wholeOf 2 := ⟨z_tbk6 97 rfl rfl, z_tbm 12 (by decide +kernel) rfl, ⟨by decide, by decide, by decide +kernel⟩, by decide⟩
theorem iv_mX11_wholeOf : Cond.instanceMethod yX11_wholeOf ∈ z_tb := z_tbm 1296 (by decide +kernel) rfl
theorem se_mX11_wholeOf : Cond.selects RX11 yX11_wholeOf yX11_wholeOf ∈ z_tb := z_selm (q := (yX11_wholeOf, 46)) 63 (by decide +kernel)
abbrev mX11_moneyBy : zMt := (yX11_moneyBy, prog_13_method_91_code, 2, some .int)
theorem mb_mX11_moneyBy : z_MB mX11_moneyBy 1 := ⟨z_tbk6 101 rfl rfl, z_tbm 12 (by decide +kernel) rfl, ⟨by decide, by decide, by decide +kernel⟩, by decide⟩
theorem iv_mX11_moneyBy : Cond.instanceMethod yX11_moneyBy ∈ z_tb := z_tbm 1300 (by decide +kernel) rfl
theorem se_mX11_moneyBy : Cond.selects RX11 yX11_moneyBy yX11_moneyBy ∈ z_tb := z_selm (q := (yX11_moneyBy, 46)) 64 (by decide +kernel)
abbrev mX11_priceIn : zMt := (yX11_priceIn, prog_13_method_18_code, 2, some .int)
theorem mb_mX11_priceIn : z_MB mX11_priceIn 1 := ⟨z_tbk6 105 rfl rfl, z_tbm 12 (by decide +kernel) rfl, ⟨by decide, by decide, by decide +kernel⟩, by decide⟩
theorem iv_mX11_priceIn : Cond.instanceMethod yX11_priceIn ∈ z_tb := z_tbm 1304 (by decide +kernel) rfl
theorem se_mX11_priceIn : Cond.selects RX11 yX11_priceIn yX11_priceIn ∈ z_tb := z_selm (q := (yX11_priceIn, 46)) 65 (by decide +kernel)
abbrev mX11_ground : zMt := (yX11_ground, prog_13_method_23_code, 5, some .int)
theorem mb_mX11_ground : z_MB mX11_ground 4 := ⟨z_tbk6 109 rfl rfl, z_tbm 12 (by decide +kernel) rfl, ⟨by decide, by decide, by decide +kernel⟩, by decide⟩
theorem iv_mX11_ground : Cond.instanceMethod yX11_ground ∈ z_tb := z_tbm 1307 (by decide +kernel) rfl
theorem se_mX11_ground : Cond.selects RX11 yX11_ground yX11_ground ∈ z_tb := z_tbm 1308 (by decide +kernel) rfl
abbrev mX11_canGround : zMt := (yX11_canGround, prog_13_method_21_code, 4, some .boolean)
theorem mb_mX11_canGround : z_MB mX11_canGround 4 := ⟨z_tbk6 112 rfl rfl, z_tbm 12 (by decide +kernel) rfl, ⟨by decide, by decide, by decide +kernel⟩, by decide⟩
theorem is_mX11_canGround : Cond.static yX11_canGround ∈ z_tb := z_tbm 1311 (by decide +kernel) rfl
abbrev mX11_addsGround : zMt := (yX11_addsGround, prog_13_method_22_code, 6, none)
theorem mb_mX11_addsGround : z_MB mX11_addsGround 4 := ⟨z_tbk6 116 rfl rfl, z_tbm 12 (by decide +kernel) rfl, ⟨by decide, by decide, by decide +kernel⟩, by decide⟩
theorem iv_mX11_addsGround : Cond.instanceMethod yX11_addsGround ∈ z_tb := z_tbm 1315 (by decide +kernel) rfl
theorem se_mX11_addsGround : Cond.selects RX11 yX11_addsGround yX11_addsGround ∈ z_tb := z_selm (q := (yX11_addsGround, 46)) 66 (by decide +kernel)
abbrev mX11_at : zMt := (yX11_at, prog_13_method_24_code, 3, some .int)
theorem mb_mX11_at : z_MB mX11_at 2 := ⟨z_tbk6 120 rfl rfl, z_tbm 12 (by decide +kernel) rfl, ⟨by decide, by decide, by decide +kernel⟩, by decide⟩
theorem iv_mX11_at : Cond.instanceMethod yX11_at ∈ z_tb := z_tbm 1318 (by decide +kernel) rfl
theorem se_mX11_at : Cond.selects RX11 yX11_at yX11_at ∈ z_tb := z_tbm 1319 (by decide +kernel) rfl
abbrev mX11_casksIn : zMt := (yX11_casksIn, prog_13_method_72_code, 3, some .int)
theorem mb_mX11_casksIn : z_MB mX11_casksIn 2 := ⟨z_tbk6 124 rfl rfl, z_tbm 12 (by decide +kernel) rfl, ⟨by decide, by decide, by decide +kernel⟩, by decide⟩
theorem iv_mX11_casksIn : Cond.instanceMethod yX11_casksIn ∈ z_tb := z_tbm 1323 (by decide +kernel) rfl
theorem se_mX11_casksIn : Cond.selects RX11 yX11_casksIn yX11_casksIn ∈ z_tb := z_selm (q := (yX11_casksIn, 46)) 67 (by decide +kernel)
abbrev mX11_price : zMt := (yX11_price, prog_13_method_25_code, 4, some .int)
theorem mb_mX11_price : z_MB mX11_price 2 := ⟨z_tbk6 128 rfl rfl, z_tbm 12 (by decide +kernel) rfl, ⟨by decide, by decide, by decide +kernel⟩, by decide⟩
theorem iv_mX11_price : Cond.instanceMethod yX11_price ∈ z_tb := z_tbm 1326 (by decide +kernel) rfl
theorem se_mX11_price : Cond.selects RX11 yX11_price yX11_price ∈ z_tb := z_tbm 1327 (by decide +kernel) rfl
abbrev mX11_terms : zMt := (yX11_terms, prog_13_method_27_code, 5, some .int)
theorem mb_mX11_terms : z_MB mX11_terms 2 := ⟨z_tbk6 132 rfl rfl, z_tbm 12 (by decide +kernel) rfl, ⟨by decide, by decide, by decide +kernel⟩, by decide⟩
theorem iv_mX11_terms : Cond.instanceMethod yX11_terms ∈ z_tb := z_tbm 1330 (by decide +kernel) rfl
theorem se_mX11_terms : Cond.selects RX11 yX11_terms yX11_terms ∈ z_tb := z_tbm 1331 (by decide +kernel) rfl
abbrev mX11_isTerm : zMt := (yX11_isTerm, prog_13_method_26_code, 3, some .boolean)
theorem mb_mX11_isTerm : z_MB mX11_isTerm 2 := ⟨z_tbk6 136 rfl rfl, z_tbm 12 (by decide +kernel) rfl, ⟨by decide, by decide, by decide +kernel⟩, by decide⟩
theorem iv_mX11_isTerm : Cond.instanceMethod yX11_isTerm ∈ z_tb := z_tbm 1335 (by decide +kernel) rfl
theorem se_mX11_isTerm : Cond.selects RX11 yX11_isTerm yX11_isTerm ∈ z_tb := z_selm (q := (yX11_isTerm, 46)) 68 (by decide +kernel)
abbrev mX11_greater : zMt := (yX11_greater, prog_13_method_8_code, 2, some .int)
theorem mb_mX11_greater : z_MB mX11_greater 2 := ⟨z_tbk6 139 rfl rfl, z_tbm 12 (by decide +kernel) rfl, ⟨by decide, by decide, by decide +kernel⟩, by decide⟩
theorem is_mX11_greater : Cond.static yX11_greater ∈ z_tb := z_tbm 1338 (by decide +kernel) rfl
abbrev mX11_row : zMt := (yX11_row, prog_13_method_28_code, 5, some .int)
theorem mb_mX11_row : z_MB mX11_row 0 := ⟨z_tbk6 143 rfl rfl, z_tbm 12 (by decide +kernel) rfl, ⟨by decide, by decide, by decide +kernel⟩, by decide⟩
theorem iv_mX11_row : Cond.instanceMethod yX11_row ∈ z_tb := z_tbm 1341 (by decide +kernel) rfl
theorem se_mX11_row : Cond.selects RX11 yX11_row yX11_row ∈ z_tb := z_tbm 1342 (by decide +kernel) rfl
abbrev mX11_spray : zMt := (yX11_spray, prog_13_method_29_code, 1, some .int)
theorem mb_mX11_spray : z_MB mX11_spray 0 := ⟨z_tbk6 147 rfl rfl, z_tbm 12 (by decide +kernel) rfl, ⟨by decide, by decide, by decide +kernel⟩, by decide⟩
theorem iv_mX11_spray : Cond.instanceMethod yX11_spray ∈ z_tb := z_tbm 1345 (by decide +kernel) rfl
theorem se_mX11_spray : Cond.selects RX11 yX11_spray yX11_spray ∈ z_tb := z_tbm 1346 (by decide +kernel) rfl
abbrev mX11_feed : zMt := (yX11_feed, prog_13_method_30_code, 7, some .int)
theorem mb_mX11_feed : z_MB mX11_feed 5 := ⟨z_tbk6 151 rfl rfl, z_tbm 12 (by decide +kernel) rfl, ⟨by decide, by decide, by decide +kernel⟩, by decide⟩
theorem iv_mX11_feed : Cond.instanceMethod yX11_feed ∈ z_tb := z_tbm 1349 (by decide +kernel) rfl
theorem se_mX11_feed : Cond.selects RX11 yX11_feed yX11_feed ∈ z_tb := z_tbm 1350 (by decide +kernel) rfl
abbrev mX11_end : zMt := (yX11_end, prog_13_method_31_code, 2, some .int)
theorem mb_mX11_end : z_MB mX11_end 1 := ⟨z_tbk6 155 rfl rfl, z_tbm 12 (by decide +kernel) rfl, ⟨by decide, by decide, by decide +kernel⟩, by decide⟩
theorem iv_mX11_end : Cond.instanceMethod yX11_end ∈ z_tb := z_tbm 1353 (by decide +kernel) rfl
theorem se_mX11_end : Cond.selects RX11 yX11_end yX11_end ∈ z_tb := z_tbm 1354 (by decide +kernel) rfl
abbrev mX11_law : zMt := (yX11_law, prog_13_method_55_code, 1, some .int)
theorem mb_mX11_law : z_MB mX11_law 0 := ⟨z_tbk6 159 rfl rfl, z_tbm 12 (by decide +kernel) rfl, ⟨by decide, by decide, by decide +kernel⟩, by decide⟩
theorem iv_mX11_law : Cond.instanceMethod yX11_law ∈ z_tb := z_tbm 1357 (by decide +kernel) rfl
theorem se_mX11_law : Cond.selects RX11 yX11_law yX11_law ∈ z_tb := z_tbm 1358 (by decide +kernel) rfl
abbrev mX11_readsAs : zMt := (yX11_readsAs, prog_13_method_53_code, 2, some .boolean)
theorem mb_mX11_readsAs : z_MB mX11_readsAs 1 := ⟨z_tbk6 163 rfl rfl, z_tbm 12 (by decide +kernel) rfl, ⟨by decide, by decide, by decide +kernel⟩, by decide⟩
theorem iv_mX11_readsAs : Cond.instanceMethod yX11_readsAs ∈ z_tb := z_tbm 1362 (by decide +kernel) rfl
theorem se_mX11_readsAs : Cond.selects RX11 yX11_readsAs yX11_readsAs ∈ z_tb := z_selm (q := (yX11_readsAs, 46)) 69 (by decide +kernel)
abbrev mX11_reads : zMt := (yX11_reads, prog_13_method_52_code, 2, some .boolean)
theorem mb_mX11_reads : z_MB mX11_reads 0 := ⟨z_tbk6 167 rfl rfl, z_tbm 12 (by decide +kernel) rfl, ⟨by decide, by decide, by decide +kernel⟩, by decide⟩
theorem iv_mX11_reads : Cond.instanceMethod yX11_reads ∈ z_tb := z_tbm 1366 (by decide +kernel) rfl
theorem se_mX11_reads : Cond.selects RX11 yX11_reads yX11_reads ∈ z_tb := z_selm (q := (yX11_reads, 46)) 70 (by decide +kernel)
abbrev mX11_splits : zMt := (yX11_splits, prog_13_method_35_code, 6, none)
theorem mb_mX11_splits : z_MB mX11_splits 1 := ⟨z_tbk6 171 rfl rfl, z_tbm 12 (by decide +kernel) rfl, ⟨by decide, by decide, by decide +kernel⟩, by decide⟩
theorem iv_mX11_splits : Cond.instanceMethod yX11_splits ∈ z_tb := z_tbm 1370 (by decide +kernel) rfl
theorem se_mX11_splits : Cond.selects RX11 yX11_splits yX11_splits ∈ z_tb := z_selm (q := (yX11_splits, 46)) 71 (by decide +kernel)
abbrev mX11_isSmall : zMt := (yX11_isSmall, prog_13_method_32_code, 1, some .boolean)
theorem mb_mX11_isSmall : z_MB mX11_isSmall 1 := ⟨z_tbk6 174 rfl rfl, z_tbm 12 (by decide +kernel) rfl, ⟨by decide, by decide, by decide +kernel⟩, by decide⟩
theorem is_mX11_isSmall : Cond.static yX11_isSmall ∈ z_tb := z_tbm 1373 (by decide +kernel) rfl
abbrev mX11_isDigit : zMt := (yX11_isDigit, prog_13_method_33_code, 1, some .boolean)
theorem mb_mX11_isDigit : z_MB mX11_isDigit 1 := ⟨z_tbk6 177 rfl rfl, z_tbm 12 (by decide +kernel) rfl, ⟨by decide, by decide, by decide +kernel⟩, by decide⟩
theorem is_mX11_isDigit : Cond.static yX11_isDigit ∈ z_tb := z_tbm 1376 (by decide +kernel) rfl
abbrev mX11_wordOf : zMt := (yX11_wordOf, prog_13_method_34_code, 8, some .int)
theorem mb_mX11_wordOf : z_MB mX11_wordOf 2 := ⟨z_tbk6 181 rfl rfl, z_tbm 12 (by decide +kernel) rfl, ⟨by decide, by decide, by decide +kernel⟩, by decide⟩
theorem iv_mX11_wordOf : Cond.instanceMethod yX11_wordOf ∈ z_tb := z_tbm 1380 (by decide +kernel) rfl
theorem se_mX11_wordOf : Cond.selects RX11 yX11_wordOf yX11_wordOf ∈ z_tb := z_selm (q := (yX11_wordOf, 46)) 72 (by decide +kernel)
abbrev mX11_readOne : zMt := (yX11_readOne, prog_13_method_45_code, 1, none)
theorem mb_mX11_readOne : z_MB mX11_readOne 0 := ⟨z_tbk6 186 rfl rfl, z_tbm 12 (by decide +kernel) rfl, ⟨by decide, by decide, by decide +kernel⟩, by decide⟩
theorem iv_mX11_readOne : Cond.instanceMethod yX11_readOne ∈ z_tb := z_tbm 1385 (by decide +kernel) rfl
theorem se_mX11_readOne : Cond.selects RX11 yX11_readOne yX11_readOne ∈ z_tb := z_selm (q := (yX11_readOne, 46)) 73 (by decide +kernel)
abbrev mX11_readOrder : zMt := (yX11_readOrder, prog_13_method_44_code, 1, none)
theorem mb_mX11_readOrder : z_MB mX11_readOrder 0 := ⟨z_tbk6 190 rfl rfl, z_tbm 12 (by decide +kernel) rfl, ⟨by decide, by decide, by decide +kernel⟩, by decide⟩
theorem iv_mX11_readOrder : Cond.instanceMethod yX11_readOrder ∈ z_tb := z_tbm 1389 (by decide +kernel) rfl
theorem se_mX11_readOrder : Cond.selects RX11 yX11_readOrder yX11_readOrder ∈ z_tb := z_selm (q := (yX11_readOrder, 46)) 74 (by decide +kernel)
abbrev mX11_takes0 : zMt := (yX11_takes0, prog_13_method_38_code, 3, some .boolean)
theorem mb_mX11_takes0 : z_MB mX11_takes0 1 := ⟨z_tbk6 194 rfl rfl, z_tbm 12 (by decide +kernel) rfl, ⟨by decide, by decide, by decide +kernel⟩, by decide⟩
theorem iv_mX11_takes0 : Cond.instanceMethod yX11_takes0 ∈ z_tb := z_tbm 1393 (by decide +kernel) rfl
theorem se_mX11_takes0 : Cond.selects RX11 yX11_takes0 yX11_takes0 ∈ z_tb := z_selm (q := (yX11_takes0, 46)) 75 (by decide +kernel)
abbrev mX11_fine : zMt := (yX11_fine, prog_13_method_36_code, 1, some .boolean)
theorem mb_mX11_fine : z_MB mX11_fine 0 := ⟨z_tbk6 198 rfl rfl, z_tbm 12 (by decide +kernel) rfl, ⟨by decide, by decide, by decide +kernel⟩, by decide⟩
theorem iv_mX11_fine : Cond.instanceMethod yX11_fine ∈ z_tb := z_tbm 1397 (by decide +kernel) rfl
theorem se_mX11_fine : Cond.selects RX11 yX11_fine yX11_fine ∈ z_tb := z_selm (q := (yX11_fine, 46)) 76 (by decide +kernel)
abbrev mX11_readSum : zMt := (yX11_readSum, prog_13_method_49_code, 2, none)
theorem mb_mX11_readSum : z_MB mX11_readSum 1 := ⟨z_tbk6 202 rfl rfl, z_tbm 12 (by decide +kernel) rfl, ⟨by decide, by decide, by decide +kernel⟩, by decide⟩
theorem iv_mX11_readSum : Cond.instanceMethod yX11_readSum ∈ z_tb := z_tbm 1401 (by decide +kernel) rfl
theorem se_mX11_readSum : Cond.selects RX11 yX11_readSum yX11_readSum ∈ z_tb := z_selm (q := (yX11_readSum, 46)) 77 (by decide +kernel)
abbrev mX11_readTerm : zMt := (yX11_readTerm, prog_13_method_50_code, 2, none)
theorem mb_mX11_readTerm : z_MB mX11_readTerm 1 := ⟨z_tbk6 206 rfl rfl, z_tbm 12 (by decide +kernel) rfl, ⟨by decide, by decide, by decide +kernel⟩, by decide⟩
theorem iv_mX11_readTerm : Cond.instanceMethod yX11_readTerm ∈ z_tb := z_tbm 1405 (by decide +kernel) rfl
theorem se_mX11_readTerm : Cond.selects RX11 yX11_readTerm yX11_readTerm ∈ z_tb := z_selm (q := (yX11_readTerm, 46)) 78 (by decide +kernel)
abbrev mX11_readPart : zMt := (yX11_readPart, prog_13_method_51_code, 3, none)
theorem mb_mX11_readPart : z_MB mX11_readPart 1 := ⟨z_tbk6 210 rfl rfl, z_tbm 12 (by decide +kernel) rfl, ⟨by decide, by decide, by decide +kernel⟩, by decide⟩
theorem iv_mX11_readPart : Cond.instanceMethod yX11_readPart ∈ z_tb := z_tbm 1409 (by decide +kernel) rfl
theorem se_mX11_readPart : Cond.selects RX11 yX11_readPart yX11_readPart ∈ z_tb := z_selm (q := (yX11_readPart, 46)) 79 (by decide +kernel)
abbrev mX11_faults : zMt := (yX11_faults, prog_13_method_37_code, 1, none)
theorem mb_mX11_faults : z_MB mX11_faults 0 := ⟨z_tbk6 214 rfl rfl, z_tbm 12 (by decide +kernel) rfl, ⟨by decide, by decide, by decide +kernel⟩, by decide⟩
theorem iv_mX11_faults : Cond.instanceMethod yX11_faults ∈ z_tb := z_tbm 1413 (by decide +kernel) rfl
theorem se_mX11_faults : Cond.selects RX11 yX11_faults yX11_faults ∈ z_tb := z_selm (q := (yX11_faults, 46)) 80 (by decide +kernel)
abbrev mX11_must : zMt := (yX11_must, prog_13_method_39_code, 2, none)
theorem mb_mX11_must : z_MB mX11_must 1 := ⟨z_tbk6 218 rfl rfl, z_tbm 12 (by decide +kernel) rfl, ⟨by decide, by decide, by decide +kernel⟩, by decide⟩
theorem iv_mX11_must : Cond.instanceMethod yX11_must ∈ z_tb := z_tbm 1417 (by decide +kernel) rfl
theorem se_mX11_must : Cond.selects RX11 yX11_must yX11_must ∈ z_tb := z_selm (q := (yX11_must, 46)) 81 (by decide +kernel)
abbrev mX11_leaf : zMt := (yX11_leaf, prog_13_method_40_code, 1, none)
theorem mb_mX11_leaf : z_MB mX11_leaf 0 := ⟨z_tbk6 222 rfl rfl, z_tbm 12 (by decide +kernel) rfl, ⟨by decide, by decide, by decide +kernel⟩, by decide⟩
theorem iv_mX11_leaf : Cond.instanceMethod yX11_leaf ∈ z_tb := z_tbm 1421 (by decide +kernel) rfl
theorem se_mX11_leaf : Cond.selects RX11 yX11_leaf yX11_leaf ∈ z_tb := z_selm (q := (yX11_leaf, 46)) 82 (by decide +kernel)
abbrev mX11_mustNumber : zMt := (yX11_mustNumber, prog_13_method_42_code, 3, none)
theorem mb_mX11_mustNumber : z_MB mX11_mustNumber 2 := ⟨z_tbk6 226 rfl rfl, z_tbm 12 (by decide +kernel) rfl, ⟨by decide, by decide, by decide +kernel⟩, by decide⟩
theorem iv_mX11_mustNumber : Cond.instanceMethod yX11_mustNumber ∈ z_tb := z_tbm 1425 (by decide +kernel) rfl
theorem se_mX11_mustNumber : Cond.selects RX11 yX11_mustNumber yX11_mustNumber ∈ z_tb := z_selm (q := (yX11_mustNumber, 46)) 83 (by decide +kernel)
abbrev mX11_readTest : zMt := (yX11_readTest, prog_13_method_46_code, 2, none)
theorem mb_mX11_readTest : z_MB mX11_readTest 1 := ⟨z_tbk6 230 rfl rfl, z_tbm 12 (by decide +kernel) rfl, ⟨by decide, by decide, by decide +kernel⟩, by decide⟩
theorem iv_mX11_readTest : Cond.instanceMethod yX11_readTest ∈ z_tb := z_tbm 1429 (by decide +kernel) rfl
theorem se_mX11_readTest : Cond.selects RX11 yX11_readTest yX11_readTest ∈ z_tb := z_selm (q := (yX11_readTest, 46)) 84 (by decide +kernel)
abbrev mX11_readBoth : zMt := (yX11_readBoth, prog_13_method_47_code, 2, none)
theorem mb_mX11_readBoth : z_MB mX11_readBoth 1 := ⟨z_tbk6 234 rfl rfl, z_tbm 12 (by decide +kernel) rfl, ⟨by decide, by decide, by decide +kernel⟩, by decide⟩
theorem iv_mX11_readBoth : Cond.instanceMethod yX11_readBoth ∈ z_tb := z_tbm 1433 (by decide +kernel) rfl
theorem se_mX11_readBoth : Cond.selects RX11 yX11_readBoth yX11_readBoth ∈ z_tb := z_selm (q := (yX11_readBoth, 46)) 85 (by decide +kernel)
abbrev mX11_readPlain : zMt := (yX11_readPlain, prog_13_method_48_code, 4, none)
theorem mb_mX11_readPlain : z_MB mX11_readPlain 1 := ⟨z_tbk6 238 rfl rfl, z_tbm 12 (by decide +kernel) rfl, ⟨by decide, by decide, by decide +kernel⟩, by decide⟩
theorem iv_mX11_readPlain : Cond.instanceMethod yX11_readPlain ∈ z_tb := z_tbm 1437 (by decide +kernel) rfl
theorem se_mX11_readPlain : Cond.selects RX11 yX11_readPlain yX11_readPlain ∈ z_tb := z_selm (q := (yX11_readPlain, 46)) 86 (by decide +kernel)
abbrev mX11_readClause : zMt := (yX11_readClause, prog_13_method_43_code, 1, none)
theorem mb_mX11_readClause : z_MB mX11_readClause 0 := ⟨z_tbk7 2 rfl rfl, z_tbm 12 (by decide +kernel) rfl, ⟨by decide, by decide, by decide +kernel⟩, by decide⟩
theorem iv_mX11_readClause : Cond.instanceMethod yX11_readClause ∈ z_tb := z_tbm 1441 (by decide +kernel) rfl
theorem se_mX11_readClause : Cond.selects RX11 yX11_readClause yX11_readClause ∈ z_tb := z_selm (q := (yX11_readClause, 46)) 87 (by decide +kernel)
abbrev mX11_lays : zMt := (yX11_lays, prog_13_method_54_code, 3, none)
theorem mb_mX11_lays : z_MB mX11_lays 1 := ⟨z_tbk7 6 rfl rfl, z_tbm 12 (by decide +kernel) rfl, ⟨by decide, by decide, by decide +kernel⟩, by decide⟩
theorem iv_mX11_lays : Cond.instanceMethod yX11_lays ∈ z_tb := z_tbm 1445 (by decide +kernel) rfl
theorem se_mX11_lays : Cond.selects RX11 yX11_lays yX11_lays ∈ z_tb := z_selm (q := (yX11_lays, 46)) 88 (by decide +kernel)
abbrev mX11_fault : zMt := (yX11_fault, prog_13_method_56_code, 1, some .int)
theorem mb_mX11_fault : z_MB mX11_fault 0 := ⟨z_tbk7 10 rfl rfl, z_tbm 12 (by decide +kernel) rfl, ⟨by decide, by decide, by decide +kernel⟩, by decide⟩
theorem iv_mX11_fault : Cond.instanceMethod yX11_fault ∈ z_tb := z_tbm 1448 (by decide +kernel) rfl
theorem se_mX11_fault : Cond.selects RX11 yX11_fault yX11_fault ∈ z_tb := z_tbm 1449 (by decide +kernel) rfl
abbrev mX11_force : zMt := (yX11_force, prog_13_method_57_code, 3, some .int)
theorem mb_mX11_force : z_MB mX11_force 1 := ⟨z_tbk7 14 rfl rfl, z_tbm 12 (by decide +kernel) rfl, ⟨by decide, by decide, by decide +kernel⟩, by decide⟩
theorem iv_mX11_force : Cond.instanceMethod yX11_force ∈ z_tb := z_tbm 1452 (by decide +kernel) rfl
theorem se_mX11_force : Cond.selects RX11 yX11_force yX11_force ∈ z_tb := z_tbm 1453 (by decide +kernel) rfl
abbrev mX11_undo : zMt := (yX11_undo, prog_13_method_80_code, 3, some .int)
theorem mb_mX11_undo : z_MB mX11_undo 0 := ⟨z_tbk7 18 rfl rfl, z_tbm 12 (by decide +kernel) rfl, ⟨by decide, by decide, by decide +kernel⟩, by decide⟩
theorem iv_mX11_undo : Cond.instanceMethod yX11_undo ∈ z_tb := z_tbm 1456 (by decide +kernel) rfl
theorem se_mX11_undo : Cond.selects RX11 yX11_undo yX11_undo ∈ z_tb := z_tbm 1457 (by decide +kernel) rfl
abbrev mX11_hunt : zMt := (yX11_hunt, prog_13_method_87_code, 3, some .int)
theorem mb_mX11_hunt : z_MB mX11_hunt 2 := ⟨z_tbk7 22 rfl rfl, z_tbm 12 (by decide +kernel) rfl, ⟨by decide, by decide, by decide +kernel⟩, by decide⟩
theorem iv_mX11_hunt : Cond.instanceMethod yX11_hunt ∈ z_tb := z_tbm 1460 (by decide +kernel) rfl
theorem se_mX11_hunt : Cond.selects RX11 yX11_hunt yX11_hunt ∈ z_tb := z_tbm 1461 (by decide +kernel) rfl
abbrev mX11_huntsKept : zMt := (yX11_huntsKept, prog_13_method_83_code, 3, some .int)
theorem mb_mX11_huntsKept : z_MB mX11_huntsKept 2 := ⟨z_tbk7 26 rfl rfl, z_tbm 12 (by decide +kernel) rfl, ⟨by decide, by decide, by decide +kernel⟩, by decide⟩
theorem iv_mX11_huntsKept : Cond.instanceMethod yX11_huntsKept ∈ z_tb := z_tbm 1465 (by decide +kernel) rfl
theorem se_mX11_huntsKept : Cond.selects RX11 yX11_huntsKept yX11_huntsKept ∈ z_tb := z_selm (q := (yX11_huntsKept, 46)) 89 (by decide +kernel)
abbrev mX11_canSail : zMt := (yX11_canSail, prog_13_method_82_code, 1, some .boolean)
theorem mb_mX11_canSail : z_MB mX11_canSail 0 := ⟨z_tbk7 30 rfl rfl, z_tbm 12 (by decide +kernel) rfl, ⟨by decide, by decide, by decide +kernel⟩, by decide⟩
theorem iv_mX11_canSail : Cond.instanceMethod yX11_canSail ∈ z_tb := z_tbm 1469 (by decide +kernel) rfl
theorem se_mX11_canSail : Cond.selects RX11 yX11_canSail yX11_canSail ∈ z_tb := z_selm (q := (yX11_canSail, 46)) 90 (by decide +kernel)
abbrev mX11_keeps : zMt := (yX11_keeps, prog_13_method_79_code, 4, none)
theorem mb_mX11_keeps : z_MB mX11_keeps 1 := ⟨z_tbk7 34 rfl rfl, z_tbm 12 (by decide +kernel) rfl, ⟨by decide, by decide, by decide +kernel⟩, by decide⟩
theorem iv_mX11_keeps : Cond.instanceMethod yX11_keeps ∈ z_tb := z_tbm 1473 (by decide +kernel) rfl
theorem se_mX11_keeps : Cond.selects RX11 yX11_keeps yX11_keeps ∈ z_tb := z_selm (q := (yX11_keeps, 46)) 91 (by decide +kernel)
abbrev mX11_hunts : zMt := (yX11_hunts, prog_13_method_78_code, 5, some .int)
theorem mb_mX11_hunts : z_MB mX11_hunts 2 := ⟨z_tbk7 38 rfl rfl, z_tbm 12 (by decide +kernel) rfl, ⟨by decide, by decide, by decide +kernel⟩, by decide⟩
theorem iv_mX11_hunts : Cond.instanceMethod yX11_hunts ∈ z_tb := z_tbm 1477 (by decide +kernel) rfl
theorem se_mX11_hunts : Cond.selects RX11 yX11_hunts yX11_hunts ∈ z_tb := z_selm (q := (yX11_hunts, 46)) 92 (by decide +kernel)
abbrev mX11_allEat : zMt := (yX11_allEat, prog_13_method_75_code, 2, none)
theorem mb_mX11_allEat : z_MB mX11_allEat 0 := ⟨z_tbk7 42 rfl rfl, z_tbm 12 (by decide +kernel) rfl, ⟨by decide, by decide, by decide +kernel⟩, by decide⟩
theorem iv_mX11_allEat : Cond.instanceMethod yX11_allEat ∈ z_tb := z_tbm 1481 (by decide +kernel) rfl
theorem se_mX11_allEat : Cond.selects RX11 yX11_allEat yX11_allEat ∈ z_tb := z_selm (q := (yX11_allEat, 46)) 93 (by decide +kernel)
abbrev mX11_lesser : zMt := (yX11_lesser, prog_13_method_7_code, 2, some .int)
theorem mb_mX11_lesser : z_MB mX11_lesser 2 := ⟨z_tbk7 45 rfl rfl, z_tbm 12 (by decide +kernel) rfl, ⟨by decide, by decide, by decide +kernel⟩, by decide⟩
theorem is_mX11_lesser : Cond.static yX11_lesser ∈ z_tb := z_tbm 1484 (by decide +kernel) rfl
abbrev mX11_offNow : zMt := (yX11_offNow, prog_13_method_76_code, 4, some .int)
theorem mb_mX11_offNow : z_MB mX11_offNow 0 := ⟨z_tbk7 49 rfl rfl, z_tbm 12 (by decide +kernel) rfl, ⟨by decide, by decide, by decide +kernel⟩, by decide⟩
theorem iv_mX11_offNow : Cond.instanceMethod yX11_offNow ∈ z_tb := z_tbm 1488 (by decide +kernel) rfl
theorem se_mX11_offNow : Cond.selects RX11 yX11_offNow yX11_offNow ∈ z_tb := z_selm (q := (yX11_offNow, 46)) 94 (by decide +kernel)
abbrev mX11_goesOff : zMt := (yX11_goesOff, prog_13_method_77_code, 3, some .int)
theorem mb_mX11_goesOff : z_MB mX11_goesOff 1 := ⟨z_tbk7 53 rfl rfl, z_tbm 12 (by decide +kernel) rfl, ⟨by decide, by decide, by decide +kernel⟩, by decide⟩
theorem iv_mX11_goesOff : Cond.instanceMethod yX11_goesOff ∈ z_tb := z_tbm 1492 (by decide +kernel) rfl
theorem se_mX11_goesOff : Cond.selects RX11 yX11_goesOff yX11_goesOff ∈ z_tb := z_selm (q := (yX11_goesOff, 46)) 95 (by decide +kernel)
abbrev mX11_isIn : zMt := (yX11_isIn, prog_13_method_5_code, 2, some .boolean)
theorem mb_mX11_isIn : z_MB mX11_isIn 2 := ⟨z_tbk7 56 rfl rfl, z_tbm 12 (by decide +kernel) rfl, ⟨by decide, by decide, by decide +kernel⟩, by decide⟩
theorem is_mX11_isIn : Cond.static yX11_isIn ∈ z_tb := z_tbm 1495 (by decide +kernel) rfl
abbrev mX11_ones : zMt := (yX11_ones, prog_13_method_6_code, 3, some .int)
theorem mb_mX11_ones : z_MB mX11_ones 1 := ⟨z_tbk7 59 rfl rfl, z_tbm 12 (by decide +kernel) rfl, ⟨by decide, by decide, by decide +kernel⟩, by decide⟩
theorem is_mX11_ones : Cond.static yX11_ones ∈ z_tb := z_tbm 1498 (by decide +kernel) rfl
abbrev mX11_goodOr : zMt := (yX11_goodOr, prog_13_method_81_code, 2, some .int)
theorem mb_mX11_goodOr : z_MB mX11_goodOr 1 := ⟨z_tbk7 63 rfl rfl, z_tbm 12 (by decide +kernel) rfl, ⟨by decide, by decide, by decide +kernel⟩, by decide⟩
theorem iv_mX11_goodOr : Cond.instanceMethod yX11_goodOr ∈ z_tb := z_tbm 1502 (by decide +kernel) rfl
theorem se_mX11_goodOr : Cond.selects RX11 yX11_goodOr yX11_goodOr ∈ z_tb := z_selm (q := (yX11_goodOr, 46)) 96 (by decide +kernel)
abbrev mX11_sell : zMt := (yX11_sell, prog_13_method_88_code, 2, some .int)
theorem mb_mX11_sell : z_MB mX11_sell 1 := ⟨z_tbk7 67 rfl rfl, z_tbm 12 (by decide +kernel) rfl, ⟨by decide, by decide, by decide +kernel⟩, by decide⟩
theorem iv_mX11_sell : Cond.instanceMethod yX11_sell ∈ z_tb := z_tbm 1505 (by decide +kernel) rfl
theorem se_mX11_sell : Cond.selects RX11 yX11_sell yX11_sell ∈ z_tb := z_tbm 1506 (by decide +kernel) rfl
abbrev mX11_sellsKept : zMt := (yX11_sellsKept, prog_13_method_84_code, 2, some .int)
theorem mb_mX11_sellsKept : z_MB mX11_sellsKept 1 := ⟨z_tbk7 71 rfl rfl, z_tbm 12 (by decide +kernel) rfl, ⟨by decide, by decide, by decide +kernel⟩, by decide⟩
theorem iv_mX11_sellsKept : Cond.instanceMethod yX11_sellsKept ∈ z_tb := z_tbm 1510 (by decide +kernel) rfl
theorem se_mX11_sellsKept : Cond.selects RX11 yX11_sellsKept yX11_sellsKept ∈ z_tb := z_selm (q := (yX11_sellsKept, 46)) 97 (by decide +kernel)
abbrev mX11_advance : zMt := (yX11_advance, prog_13_method_89_code, 3, some .int)
theorem mb_mX11_advance : z_MB mX11_advance 2 := ⟨z_tbk7 76 rfl rfl, z_tbm 12 (by decide +kernel) rfl, ⟨by decide, by decide, by decide +kernel⟩, by decide⟩
theorem iv_mX11_advance : Cond.instanceMethod yX11_advance ∈ z_tb := z_tbm 1514 (by decide +kernel) rfl
theorem se_mX11_advance : Cond.selects RX11 yX11_advance yX11_advance ∈ z_tb := z_tbm 1515 (by decide +kernel) rfl
abbrev mX11_advancesKept : zMt := (yX11_advancesKept, prog_13_method_85_code, 3, some .int)
theorem mb_mX11_advancesKept : z_MB mX11_advancesKept 2 := ⟨z_tbk7 80 rfl rfl, z_tbm 12 (by decide +kernel) rfl, ⟨by decide, by decide, by decide +kernel⟩, by decide⟩
theorem iv_mX11_advancesKept : Cond.instanceMethod yX11_advancesKept ∈ z_tb := z_tbm 1519 (by decide +kernel) rfl
theorem se_mX11_advancesKept : Cond.selects RX11 yX11_advancesKept yX11_advancesKept ∈ z_tb := z_selm (q := (yX11_advancesKept, 46)) 98 (by decide +kernel)
abbrev mX11_leave : zMt := (yX11_leave, prog_13_method_90_code, 2, some .int)
theorem mb_mX11_leave : z_MB mX11_leave 1 := ⟨z_tbk7 84 rfl rfl, z_tbm 12 (by decide +kernel) rfl, ⟨by decide, by decide, by decide +kernel⟩, by decide⟩
theorem iv_mX11_leave : Cond.instanceMethod yX11_leave ∈ z_tb := z_tbm 1522 (by decide +kernel) rfl
theorem se_mX11_leave : Cond.selects RX11 yX11_leave yX11_leave ∈ z_tb := z_tbm 1523 (by decide +kernel) rfl
abbrev mX11_leavesKept : zMt := (yX11_leavesKept, prog_13_method_86_code, 2, some .int)
theorem mb_mX11_leavesKept : z_MB mX11_leavesKept 1 := ⟨z_tbk7 88 rfl rfl, z_tbm 12 (by decide +kernel) rfl, ⟨by decide, by decide, by decide +kernel⟩, by decide⟩
theorem iv_mX11_leavesKept : Cond.instanceMethod yX11_leavesKept ∈ z_tb := z_tbm 1527 (by decide +kernel) rfl
theorem se_mX11_leavesKept : Cond.selects RX11 yX11_leavesKept yX11_leavesKept ∈ z_tb := z_selm (q := (yX11_leavesKept, 46)) 99 (by decide +kernel)
abbrev mX11_money : zMt := (yX11_money, prog_13_method_94_code, 4, some .int)
theorem mb_mX11_money : z_MB mX11_money 1 := ⟨z_tbk7 92 rfl rfl, z_tbm 12 (by decide +kernel) rfl, ⟨by decide, by decide, by decide +kernel⟩, by decide⟩
theorem iv_mX11_money : Cond.instanceMethod yX11_money ∈ z_tb := z_tbm 1530 (by decide +kernel) rfl
theorem se_mX11_money : Cond.selects RX11 yX11_money yX11_money ∈ z_tb := z_tbm 1531 (by decide +kernel) rfl
abbrev mX11_parts : zMt := (yX11_parts, prog_13_method_97_code, 1, some .long)
theorem mb_mX11_parts : z_MB mX11_parts 0 := ⟨z_tbk7 96 rfl rfl, z_tbm 12 (by decide +kernel) rfl, ⟨by decide, by decide, by decide +kernel⟩, by decide⟩
theorem iv_mX11_parts : Cond.instanceMethod yX11_parts ∈ z_tb := z_tbm 1534 (by decide +kernel) rfl
theorem se_mX11_parts : Cond.selects RX11 yX11_parts yX11_parts ∈ z_tb := z_tbm 1535 (by decide +kernel) rfl
abbrev mX11_aboardNow : zMt := (yX11_aboardNow, prog_13_method_95_code, 3, some .int)
theorem mb_mX11_aboardNow : z_MB mX11_aboardNow 0 := ⟨z_tbk7 100 rfl rfl, z_tbm 12 (by decide +kernel) rfl, ⟨by decide, by decide, by decide +kernel⟩, by decide⟩
theorem iv_mX11_aboardNow : Cond.instanceMethod yX11_aboardNow ∈ z_tb := z_tbm 1539 (by decide +kernel) rfl
theorem se_mX11_aboardNow : Cond.selects RX11 yX11_aboardNow yX11_aboardNow ∈ z_tb := z_selm (q := (yX11_aboardNow, 46)) 100 (by decide +kernel)
abbrev mX11_laysOf : zMt := (yX11_laysOf, prog_13_method_96_code, 5, some .long)
theorem mb_mX11_laysOf : z_MB mX11_laysOf 1 := ⟨z_tbk7 104 rfl rfl, z_tbm 12 (by decide +kernel) rfl, ⟨by decide, by decide, by decide +kernel⟩, by decide⟩
theorem iv_mX11_laysOf : Cond.instanceMethod yX11_laysOf ∈ z_tb := z_tbm 1543 (by decide +kernel) rfl
theorem se_mX11_laysOf : Cond.selects RX11 yX11_laysOf yX11_laysOf ∈ z_tb := z_selm (q := (yX11_laysOf, 46)) 101 (by decide +kernel)
abbrev mX11_best : zMt := (yX11_best, prog_13_method_103_code, 8, some .long)
theorem mb_mX11_best : z_MB mX11_best 2 := ⟨z_tbk7 109 rfl rfl, z_tbm 12 (by decide +kernel) rfl, ⟨by decide, by decide, by decide +kernel⟩, by decide⟩
theorem iv_mX11_best : Cond.instanceMethod yX11_best ∈ z_tb := z_tbm 1547 (by decide +kernel) rfl
theorem se_mX11_best : Cond.selects RX11 yX11_best yX11_best ∈ z_tb := z_tbm 1548 (by decide +kernel) rfl
abbrev mX11_laysCasks : zMt := (yX11_laysCasks, prog_13_method_102_code, 3, none)
theorem mb_mX11_laysCasks : z_MB mX11_laysCasks 0 := ⟨z_tbk7 114 rfl rfl, z_tbm 12 (by decide +kernel) rfl, ⟨by decide, by decide, by decide +kernel⟩, by decide⟩
theorem iv_mX11_laysCasks : Cond.instanceMethod yX11_laysCasks ∈ z_tb := z_tbm 1553 (by decide +kernel) rfl
theorem se_mX11_laysCasks : Cond.selects RX11 yX11_laysCasks yX11_laysCasks ∈ z_tb := z_selm (q := (yX11_laysCasks, 46)) 102 (by decide +kernel)
abbrev mX11_homeWorth : zMt := (yX11_homeWorth, prog_13_method_98_code, 3, some .long)
theorem mb_mX11_homeWorth : z_MB mX11_homeWorth 2 := ⟨z_tbk7 118 rfl rfl, z_tbm 12 (by decide +kernel) rfl, ⟨by decide, by decide, by decide +kernel⟩, by decide⟩
theorem iv_mX11_homeWorth : Cond.instanceMethod yX11_homeWorth ∈ z_tb := z_tbm 1557 (by decide +kernel) rfl
theorem se_mX11_homeWorth : Cond.selects RX11 yX11_homeWorth yX11_homeWorth ∈ z_tb := z_selm (q := (yX11_homeWorth, 46)) 103 (by decide +kernel)
abbrev mX11_choice : zMt := (yX11_choice, prog_13_method_100_code, 10, some .int)
theorem mb_mX11_choice : z_MB mX11_choice 3 := ⟨z_tbk7 123 rfl rfl, z_tbm 12 (by decide +kernel) rfl, ⟨by decide, by decide, by decide +kernel⟩, by decide⟩
theorem iv_mX11_choice : Cond.instanceMethod yX11_choice ∈ z_tb := z_tbm 1562 (by decide +kernel) rfl
theorem se_mX11_choice : Cond.selects RX11 yX11_choice yX11_choice ∈ z_tb := z_selm (q := (yX11_choice, 46)) 104 (by decide +kernel)
abbrev mX11_huntWorth : zMt := (yX11_huntWorth, prog_13_method_99_code, 9, some .long)
theorem mb_mX11_huntWorth : z_MB mX11_huntWorth 3 := ⟨z_tbk7 127 rfl rfl, z_tbm 12 (by decide +kernel) rfl, ⟨by decide, by decide, by decide +kernel⟩, by decide⟩
theorem iv_mX11_huntWorth : Cond.instanceMethod yX11_huntWorth ∈ z_tb := z_tbm 1566 (by decide +kernel) rfl
theorem se_mX11_huntWorth : Cond.selects RX11 yX11_huntWorth yX11_huntWorth ∈ z_tb := z_selm (q := (yX11_huntWorth, 46)) 105 (by decide +kernel)
abbrev mX11_bestWorth : zMt := (yX11_bestWorth, prog_13_method_101_code, 5, some .long)
theorem mb_mX11_bestWorth : z_MB mX11_bestWorth 3 := ⟨z_tbk7 132 rfl rfl, z_tbm 12 (by decide +kernel) rfl, ⟨by decide, by decide, by decide +kernel⟩, by decide⟩
theorem iv_mX11_bestWorth : Cond.instanceMethod yX11_bestWorth ∈ z_tb := z_tbm 1571 (by decide +kernel) rfl
theorem se_mX11_bestWorth : Cond.selects RX11 yX11_bestWorth yX11_bestWorth ∈ z_tb := z_selm (q := (yX11_bestWorth, 46)) 106 (by decide +kernel)
abbrev mX11_odds : zMt := (yX11_odds, prog_13_method_106_code, 8, some .long)
theorem mb_mX11_odds : z_MB mX11_odds 3 := ⟨z_tbk7 136 rfl rfl, z_tbm 12 (by decide +kernel) rfl, ⟨by decide, by decide, by decide +kernel⟩, by decide⟩
theorem iv_mX11_odds : Cond.instanceMethod yX11_odds ∈ z_tb := z_tbm 1574 (by decide +kernel) rfl
theorem se_mX11_odds : Cond.selects RX11 yX11_odds yX11_odds ∈ z_tb := z_tbm 1575 (by decide +kernel) rfl
abbrev mX11_spreadsPart : zMt := (yX11_spreadsPart, prog_13_method_104_code, 11, none)
theorem mb_mX11_spreadsPart : z_MB mX11_spreadsPart 4 := ⟨z_tbk7 140 rfl rfl, z_tbm 12 (by decide +kernel) rfl, ⟨by decide, by decide, by decide +kernel⟩, by decide⟩
theorem iv_mX11_spreadsPart : Cond.instanceMethod yX11_spreadsPart ∈ z_tb := z_tbm 1579 (by decide +kernel) rfl
theorem se_mX11_spreadsPart : Cond.selects RX11 yX11_spreadsPart yX11_spreadsPart ∈ z_tb := z_selm (q := (yX11_spreadsPart, 46)) 107 (by decide +kernel)
abbrev mX11_partsFrom : zMt := (yX11_partsFrom, prog_13_method_105_code, 6, some .long)
theorem mb_mX11_partsFrom : z_MB mX11_partsFrom 2 := ⟨z_tbk7 144 rfl rfl, z_tbm 12 (by decide +kernel) rfl, ⟨by decide, by decide, by decide +kernel⟩, by decide⟩
theorem iv_mX11_partsFrom : Cond.instanceMethod yX11_partsFrom ∈ z_tb := z_tbm 1583 (by decide +kernel) rfl
theorem se_mX11_partsFrom : Cond.selects RX11 yX11_partsFrom yX11_partsFrom ∈ z_tb := z_selm (q := (yX11_partsFrom, 46)) 108 (by decide +kernel)
abbrev mX11_left : zMt := (yX11_left, prog_13_method_107_code, 6, some .int)
theorem mb_mX11_left : z_MB mX11_left 1 := ⟨z_tbk7 148 rfl rfl, z_tbm 12 (by decide +kernel) rfl, ⟨by decide, by decide, by decide +kernel⟩, by decide⟩
theorem iv_mX11_left : Cond.instanceMethod yX11_left ∈ z_tb := z_tbm 1586 (by decide +kernel) rfl
theorem se_mX11_left : Cond.selects RX11 yX11_left yX11_left ∈ z_tb := z_tbm 1587 (by decide +kernel) rfl
abbrev mX11_least : zMt := (yX11_least, prog_13_method_108_code, 3, some .int)
theorem mb_mX11_least : z_MB mX11_least 1 := ⟨z_tbk7 152 rfl rfl, z_tbm 12 (by decide +kernel) rfl, ⟨by decide, by decide, by decide +kernel⟩, by decide⟩
theorem iv_mX11_least : Cond.instanceMethod yX11_least ∈ z_tb := z_tbm 1590 (by decide +kernel) rfl
theorem se_mX11_least : Cond.selects RX11 yX11_least yX11_least ∈ z_tb := z_tbm 1591 (by decide +kernel) rfl
abbrev mX11_crew : zMt := (yX11_crew, prog_13_method_109_code, 10, some .long)
theorem mb_mX11_crew : z_MB mX11_crew 3 := ⟨z_tbk7 156 rfl rfl, z_tbm 12 (by decide +kernel) rfl, ⟨by decide, by decide, by decide +kernel⟩, by decide⟩
theorem iv_mX11_crew : Cond.instanceMethod yX11_crew ∈ z_tb := z_tbm 1594 (by decide +kernel) rfl
theorem se_mX11_crew : Cond.selects RX11 yX11_crew yX11_crew ∈ z_tb := z_tbm 1595 (by decide +kernel) rfl
abbrev mX11_word : zMt := (yX11_word, prog_13_method_110_code, 4, some .int)
theorem mb_mX11_word : z_MB mX11_word 2 := ⟨z_tbk7 160 rfl rfl, z_tbm 12 (by decide +kernel) rfl, ⟨by decide, by decide, by decide +kernel⟩, by decide⟩
theorem iv_mX11_word : Cond.instanceMethod yX11_word ∈ z_tb := z_tbm 1598 (by decide +kernel) rfl
theorem se_mX11_word : Cond.selects RX11 yX11_word yX11_word ∈ z_tb := z_tbm 1599 (by decide +kernel) rfl
abbrev mX11_forget : zMt := (yX11_forget, prog_13_method_111_code, 2, some .int)
theorem mb_mX11_forget : z_MB mX11_forget 0 := ⟨z_tbk7 164 rfl rfl, z_tbm 12 (by decide +kernel) rfl, ⟨by decide, by decide, by decide +kernel⟩, by decide⟩
theorem iv_mX11_forget : Cond.instanceMethod yX11_forget ∈ z_tb := z_tbm 1602 (by decide +kernel) rfl
theorem se_mX11_forget : Cond.selects RX11 yX11_forget yX11_forget ∈ z_tb := z_tbm 1603 (by decide +kernel) rfl
abbrev mX11_barrels : zMt := (yX11_barrels, prog_13_method_113_code, 6, some .int)
theorem mb_mX11_barrels : z_MB mX11_barrels 1 := ⟨z_tbk7 168 rfl rfl, z_tbm 12 (by decide +kernel) rfl, ⟨by decide, by decide, by decide +kernel⟩, by decide⟩
theorem iv_mX11_barrels : Cond.instanceMethod yX11_barrels ∈ z_tb := z_tbm 1606 (by decide +kernel) rfl
theorem se_mX11_barrels : Cond.selects RX11 yX11_barrels yX11_barrels ∈ z_tb := z_tbm 1607 (by decide +kernel) rfl
abbrev mX11_canBe : zMt := (yX11_canBe, prog_13_method_112_code, 4, some .boolean)
theorem mb_mX11_canBe : z_MB mX11_canBe 1 := ⟨z_tbk7 172 rfl rfl, z_tbm 12 (by decide +kernel) rfl, ⟨by decide, by decide, by decide +kernel⟩, by decide⟩
theorem iv_mX11_canBe : Cond.instanceMethod yX11_canBe ∈ z_tb := z_tbm 1611 (by decide +kernel) rfl
theorem se_mX11_canBe : Cond.selects RX11 yX11_canBe yX11_canBe ∈ z_tb := z_selm (q := (yX11_canBe, 46)) 109 (by decide +kernel)
abbrev mX11_ask : zMt := (yX11_ask, prog_13_method_115_code, 6, some .int)
theorem mb_mX11_ask : z_MB mX11_ask 1 := ⟨z_tbk7 176 rfl rfl, z_tbm 12 (by decide +kernel) rfl, ⟨by decide, by decide, by decide +kernel⟩, by decide⟩
theorem iv_mX11_ask : Cond.instanceMethod yX11_ask ∈ z_tb := z_tbm 1614 (by decide +kernel) rfl
theorem se_mX11_ask : Cond.selects RX11 yX11_ask yX11_ask ∈ z_tb := z_tbm 1615 (by decide +kernel) rfl
abbrev mX11_mostAlike : zMt := (yX11_mostAlike, prog_13_method_114_code, 6, some .int)
theorem mb_mX11_mostAlike : z_MB mX11_mostAlike 1 := ⟨z_tbk7 182 rfl rfl, z_tbm 12 (by decide +kernel) rfl, ⟨by decide, by decide, by decide +kernel⟩, by decide⟩
theorem iv_mX11_mostAlike : Cond.instanceMethod yX11_mostAlike ∈ z_tb := z_tbm 1621 (by decide +kernel) rfl
theorem se_mX11_mostAlike : Cond.selects RX11 yX11_mostAlike yX11_mostAlike ∈ z_tb := z_selm (q := (yX11_mostAlike, 46)) 110 (by decide +kernel)
abbrev mX11_stopped : zMt := (yX11_stopped, prog_13_method_116_code, 1, some .int)
theorem mb_mX11_stopped : z_MB mX11_stopped 0 := ⟨z_tbk7 186 rfl rfl, z_tbm 12 (by decide +kernel) rfl, ⟨by decide, by decide, by decide +kernel⟩, by decide⟩
theorem iv_mX11_stopped : Cond.instanceMethod yX11_stopped ∈ z_tb := z_tbm 1624 (by decide +kernel) rfl
theorem se_mX11_stopped : Cond.selects RX11 yX11_stopped yX11_stopped ∈ z_tb := z_tbm 1625 (by decide +kernel) rfl
abbrev mX11_orders : zMt := (yX11_orders, prog_13_method_117_code, 5, some .int)
theorem mb_mX11_orders : z_MB mX11_orders 0 := ⟨z_tbk7 190 rfl rfl, z_tbm 12 (by decide +kernel) rfl, ⟨by decide, by decide, by decide +kernel⟩, by decide⟩
theorem iv_mX11_orders : Cond.instanceMethod yX11_orders ∈ z_tb := z_tbm 1628 (by decide +kernel) rfl
theorem se_mX11_orders : Cond.selects RX11 yX11_orders yX11_orders ∈ z_tb := z_tbm 1629 (by decide +kernel) rfl
abbrev mX11_laysAside : zMt := (yX11_laysAside, prog_13_method_10_code, 3, none)
theorem mb_mX11_laysAside : z_MB mX11_laysAside 1 := ⟨z_tbk7 194 rfl rfl, z_tbm 12 (by decide +kernel) rfl, ⟨by decide, by decide, by decide +kernel⟩, by decide⟩
theorem iv_mX11_laysAside : Cond.instanceMethod yX11_laysAside ∈ z_tb := z_tbm 1633 (by decide +kernel) rfl
theorem se_mX11_laysAside : Cond.selects RX11 yX11_laysAside yX11_laysAside ∈ z_tb := z_selm (q := (yX11_laysAside, 46)) 111 (by decide +kernel)
abbrev mX11_runs : zMt := (yX11_runs, prog_13_method_121_code, 5, some .boolean)
theorem mb_mX11_runs : z_MB mX11_runs 1 := ⟨z_tbk7 198 rfl rfl, z_tbm 12 (by decide +kernel) rfl, ⟨by decide, by decide, by decide +kernel⟩, by decide⟩
theorem iv_mX11_runs : Cond.instanceMethod yX11_runs ∈ z_tb := z_tbm 1637 (by decide +kernel) rfl
theorem se_mX11_runs : Cond.selects RX11 yX11_runs yX11_runs ∈ z_tb := z_selm (q := (yX11_runs, 46)) 112 (by decide +kernel)
abbrev mX11_goesAlong : zMt := (yX11_goesAlong, prog_13_method_118_code, 5, none)
theorem mb_mX11_goesAlong : z_MB mX11_goesAlong 2 := ⟨z_tbk7 202 rfl rfl, z_tbm 12 (by decide +kernel) rfl, ⟨by decide, by decide, by decide +kernel⟩, by decide⟩
theorem iv_mX11_goesAlong : Cond.instanceMethod yX11_goesAlong ∈ z_tb := z_tbm 1641 (by decide +kernel) rfl
theorem se_mX11_goesAlong : Cond.selects RX11 yX11_goesAlong yX11_goesAlong ∈ z_tb := z_selm (q := (yX11_goesAlong, 46)) 113 (by decide +kernel)
abbrev mX11_obeys : zMt := (yX11_obeys, prog_13_method_120_code, 4, some .int)
theorem mb_mX11_obeys : z_MB mX11_obeys 0 := ⟨z_tbk7 206 rfl rfl, z_tbm 12 (by decide +kernel) rfl, ⟨by decide, by decide, by decide +kernel⟩, by decide⟩
theorem iv_mX11_obeys : Cond.instanceMethod yX11_obeys ∈ z_tb := z_tbm 1645 (by decide +kernel) rfl
theorem se_mX11_obeys : Cond.selects RX11 yX11_obeys yX11_obeys ∈ z_tb := z_selm (q := (yX11_obeys, 46)) 114 (by decide +kernel)
abbrev mX11_small : zMt := (yX11_small, prog_13_method_119_code, 2, some .int)
theorem mb_mX11_small : z_MB mX11_small 1 := ⟨z_tbk7 209 rfl rfl, z_tbm 12 (by decide +kernel) rfl, ⟨by decide, by decide, by decide +kernel⟩, by decide⟩
theorem is_mX11_small : Cond.static yX11_small ∈ z_tb := z_tbm 1648 (by decide +kernel) rfl
abbrev mX11_takesBack : zMt := (yX11_takesBack, prog_13_method_11_code, 3, none)
theorem mb_mX11_takesBack : z_MB mX11_takesBack 1 := ⟨z_tbk7 213 rfl rfl, z_tbm 12 (by decide +kernel) rfl, ⟨by decide, by decide, by decide +kernel⟩, by decide⟩
theorem iv_mX11_takesBack : Cond.instanceMethod yX11_takesBack ∈ z_tb := z_tbm 1652 (by decide +kernel) rfl
theorem se_mX11_takesBack : Cond.selects RX11 yX11_takesBack yX11_takesBack ∈ z_tb := z_selm (q := (yX11_takesBack, 46)) 115 (by decide +kernel)
abbrev mX11_years : zMt := (yX11_years, prog_13_method_124_code, 6, some .int)
theorem mb_mX11_years : z_MB mX11_years 2 := ⟨z_tbk7 217 rfl rfl, z_tbm 12 (by decide +kernel) rfl, ⟨by decide, by decide, by decide +kernel⟩, by decide⟩
theorem iv_mX11_years : Cond.instanceMethod yX11_years ∈ z_tb := z_tbm 1655 (by decide +kernel) rfl
theorem se_mX11_years : Cond.selects RX11 yX11_years yX11_years ∈ z_tb := z_tbm 1656 (by decide +kernel) rfl
abbrev mX11_draws : zMt := (yX11_draws, prog_13_method_122_code, 2, some .int)
theorem mb_mX11_draws : z_MB mX11_draws 1 := ⟨z_tbk7 221 rfl rfl, z_tbm 12 (by decide +kernel) rfl, ⟨by decide, by decide, by decide +kernel⟩, by decide⟩
theorem iv_mX11_draws : Cond.instanceMethod yX11_draws ∈ z_tb := z_tbm 1660 (by decide +kernel) rfl
theorem se_mX11_draws : Cond.selects RX11 yX11_draws yX11_draws ∈ z_tb := z_selm (q := (yX11_draws, 46)) 116 (by decide +kernel)
abbrev mX11_whalesBy : zMt := (yX11_whalesBy, prog_13_method_123_code, 6, some .int)
theorem mb_mX11_whalesBy : z_MB mX11_whalesBy 2 := ⟨z_tbk7 228 rfl rfl, z_tbm 12 (by decide +kernel) rfl, ⟨by decide, by decide, by decide +kernel⟩, by decide⟩
theorem iv_mX11_whalesBy : Cond.instanceMethod yX11_whalesBy ∈ z_tb := z_tbm 1667 (by decide +kernel) rfl
theorem se_mX11_whalesBy : Cond.selects RX11 yX11_whalesBy yX11_whalesBy ∈ z_tb := z_selm (q := (yX11_whalesBy, 46)) 117 (by decide +kernel)
abbrev mX11_drawn : zMt := (yX11_drawn, prog_13_method_125_code, 3, some .int)
theorem mb_mX11_drawn : z_MB mX11_drawn 2 := ⟨z_tbk7 232 rfl rfl, z_tbm 12 (by decide +kernel) rfl, ⟨by decide, by decide, by decide +kernel⟩, by decide⟩
theorem iv_mX11_drawn : Cond.instanceMethod yX11_drawn ∈ z_tb := z_tbm 1670 (by decide +kernel) rfl
theorem se_mX11_drawn : Cond.selects RX11 yX11_drawn yX11_drawn ∈ z_tb := z_tbm 1671 (by decide +kernel) rfl
abbrev mX11_count : zMt := (yX11_count, prog_13_method_126_code, 2, some .int)
theorem mb_mX11_count : z_MB mX11_count 1 := ⟨z_tbk7 236 rfl rfl, z_tbm 12 (by decide +kernel) rfl, ⟨by decide, by decide, by decide +kernel⟩, by decide⟩
theorem iv_mX11_count : Cond.instanceMethod yX11_count ∈ z_tb := z_tbm 1674 (by decide +kernel) rfl
theorem se_mX11_count : Cond.selects RX11 yX11_count yX11_count ∈ z_tb := z_tbm 1675 (by decide +kernel) rfl
abbrev mX11_status : zMt := (yX11_status, prog_13_method_127_code, 1, some .int)
theorem mb_mX11_status : z_MB mX11_status 0 := ⟨z_tbk8 0 rfl rfl, z_tbm 12 (by decide +kernel) rfl, ⟨by decide, by decide, by decide +kernel⟩, by decide⟩
theorem iv_mX11_status : Cond.instanceMethod yX11_status ∈ z_tb := z_tbm 1678 (by decide +kernel) rfl
theorem se_mX11_status : Cond.selects RX11 yX11_status yX11_status ∈ z_tb := z_tbm 1679 (by decide +kernel) rfl
theorem lL_9 : z_MI RL 9 mX10_init 0 := ⟨mb_mX10_init, Or.inl (z_tbm 22 (by decide +kernel) rfl), iv_mX10_init, rfl, rfl⟩
theorem lX10_1 : Cond.methodLink RX10 1 Lib.objectInit ∈ z_tb := z_tbm 25 (by decide +kernel) rfl
theorem lX7_3 : Cond.methodLink RX7 3 Lib.objectInit ∈ z_tb := z_tbm 33 (by decide +kernel) rfl
theorem lX2_3 : Cond.methodLink RX2 3 Lib.objectInit ∈ z_tb := z_tbm 149 (by decide +kernel) rfl
theorem lX8_3 : Cond.methodLink RX8 3 Lib.objectInit ∈ z_tb := z_tbm 169 (by decide +kernel) rfl
theorem lX6_3 : Cond.methodLink RX6 3 Lib.objectInit ∈ z_tb := z_tbm 183 (by decide +kernel) rfl
theorem lX6_23 : z_MI RX6 23 mX9_init 2 := ⟨mb_mX9_init, Or.inl (z_tbm 186 (by decide +kernel) rfl), iv_mX9_init, rfl, rfl⟩
theorem lX9_3 : Cond.methodLink RX9 3 Lib.objectInit ∈ z_tb := z_tbm 189 (by decide +kernel) rfl
theorem lX1_3 : Cond.methodLink RX1 3 Lib.objectInit ∈ z_tb := z_tbm 245 (by decide +kernel) rfl
theorem lX3_3 : Cond.methodLink RX3 3 Lib.objectInit ∈ z_tb := z_tbm 251 (by decide +kernel) rfl
theorem lX10_56 : z_MI RX10 56 mX4_init 1 := ⟨mb_mX4_init, Or.inl (z_tbm 265 (by decide +kernel) rfl), iv_mX4_init, rfl, rfl⟩
theorem lX4_3 : Cond.methodLink RX4 3 Lib.objectInit ∈ z_tb := z_tbm 268 (by decide +kernel) rfl
theorem lX10_65 : z_MI RX10 65 mX0_init 1 := ⟨mb_mX0_init, Or.inl (z_tbm 278 (by decide +kernel) rfl), iv_mX0_init, rfl, rfl⟩
theorem lX0_3 : Cond.methodLink RX0 3 Lib.objectInit ∈ z_tb := z_tbm 281 (by decide +kernel) rfl
theorem lX10_74 : z_MI RX10 74 mX5_init 1 := ⟨mb_mX5_init, Or.inl (z_tbm 300 (by decide +kernel) rfl), iv_mX5_init, rfl, rfl⟩
theorem lX5_3 : Cond.methodLink RX5 3 Lib.objectInit ∈ z_tb := z_tbm 303 (by decide +kernel) rfl
theorem lL_13 : z_MV RL 13 mX10_sign 10 2 := ⟨mb_mX10_sign, RX10, TX10, 17, rfl, by decide, z_tbm 381 (by decide +kernel) rfl, iv_mX10_sign, se_mX10_sign⟩
theorem lX10_90 : z_MV RX10 90 mX10_refuse 10 1 := ⟨mb_mX10_refuse, RX10, TX10, 17, rfl, by decide, z_tbm 385 (by decide +kernel) rfl, iv_mX10_refuse, se_mX10_refuse⟩
theorem lX10_97 : z_MV RX10 97 mX2_clear 2 0 := ⟨mb_mX2_clear, RX2, TX2, 4, rfl, by decide, z_tbm 389 (by decide +kernel) rfl, iv_mX2_clear, se_mX2_clear⟩
theorem lX10_100 : z_MV RX10 100 mX7_enlist 7 2 := ⟨mb_mX7_enlist, RX7, TX7, 18, rfl, by decide, z_tbm 393 (by decide +kernel) rfl, iv_mX7_enlist, se_mX7_enlist⟩
theorem lX10_104 : z_MV RX10 104 mX10_accept 10 1 := ⟨mb_mX10_accept, RX10, TX10, 17, rfl, by decide, z_tbm 397 (by decide +kernel) rfl, iv_mX10_accept, se_mX10_accept⟩
theorem lL_18 : z_MV RL 18 mX10_of 10 2 := ⟨mb_mX10_of, RX10, TX10, 17, rfl, by decide, z_tbm 401 (by decide +kernel) rfl, iv_mX10_of, se_mX10_of⟩
theorem lX10_107 : z_MV RX10 107 mX7_hasHand 7 1 := ⟨mb_mX7_hasHand, RX7, TX7, 18, rfl, by decide, z_tbm 405 (by decide +kernel) rfl, iv_mX7_hasHand, se_mX7_hasHand⟩
theorem lX10_121 : z_MV RX10 121 mX7_isAboard 7 1 := ⟨mb_mX7_isAboard, RX7, TX7, 18, rfl, by decide, z_tbm 410 (by decide +kernel) rfl, iv_mX7_isAboard, se_mX7_isAboard⟩
theorem lX10_124 : z_MV RX10 124 mX1_eatenBy 1 2 := ⟨mb_mX1_eatenBy, RX1, TX1, 2, rfl, by decide, z_tbm 414 (by decide +kernel) rfl, iv_mX1_eatenBy, se_mX1_eatenBy⟩
theorem lX1_22 : z_MV RX1 22 mX7_lawInForce 7 0 := ⟨mb_mX7_lawInForce, RX7, TX7, 18, rfl, by decide, z_tbm 418 (by decide +kernel) rfl, iv_mX7_lawInForce, se_mX7_lawInForce⟩
theorem lX1_52 : z_MV RX1 52 mX1_askAboutHand 1 3 := ⟨mb_mX1_askAboutHand, RX1, TX1, 2, rfl, by decide, z_tbm 422 (by decide +kernel) rfl, iv_mX1_askAboutHand, se_mX1_askAboutHand⟩
theorem lX1_56 : z_MV RX1 56 mX7_crewSize 7 0 := ⟨mb_mX7_crewSize, RX7, TX7, 18, rfl, by decide, z_tbm 426 (by decide +kernel) rfl, iv_mX7_crewSize, se_mX7_crewSize⟩
theorem lX7_76 : z_MS RX7 76 mJ6_bitCount_0f7a4 1 := ⟨mb_mJ6_bitCount_0f7a4, z_tbm 430 (by decide +kernel) rfl, is_mJ6_bitCount_0f7a4⟩
theorem lX1_31 : z_MV RX1 31 mX1_askAboutShip 1 2 := ⟨mb_mX1_askAboutShip, RX1, TX1, 2, rfl, by decide, z_tbm 436 (by decide +kernel) rfl, iv_mX1_askAboutShip, se_mX1_askAboutShip⟩
theorem lX1_35 : z_MV RX1 35 mX1_lastTold 1 2 := ⟨mb_mX1_lastTold, RX1, TX1, 2, rfl, by decide, z_tbm 440 (by decide +kernel) rfl, iv_mX1_lastTold, se_mX1_lastTold⟩
theorem lX1_78 : z_MV RX1 78 mX9_get 9 2 := ⟨mb_mX9_get, RX9, TX9, 4, rfl, by decide, z_tbm 444 (by decide +kernel) rfl, iv_mX9_get, se_mX9_get⟩
theorem lX1_84 : z_MV RX1 84 mX3_value 3 3 := ⟨mb_mX3_value, RX3, TX3, 1, rfl, by decide, z_tbm 448 (by decide +kernel) rfl, iv_mX3_value, se_mX3_value⟩
theorem lX3_16 : z_MS RX3 16 mX3_joined 3 := ⟨mb_mX3_joined, z_tbm 453 (by decide +kernel) rfl, is_mX3_joined⟩
theorem lX1_40 : z_MS RX1 40 mJ9_min_7cf53 2 := ⟨mb_mJ9_min_7cf53, z_tbm 459 (by decide +kernel) rfl, is_mJ9_min_7cf53⟩
theorem lX1_46 : z_MS RX1 46 mJ9_max_7cf53 2 := ⟨mb_mJ9_max_7cf53, z_tbm 462 (by decide +kernel) rfl, is_mJ9_max_7cf53⟩
theorem lX10_128 : z_MV RX10 128 mX7_crewSize 7 0 := ⟨mb_mX7_crewSize, RX7, TX7, 18, rfl, by decide, z_tbm 465 (by decide +kernel) rfl, iv_mX7_crewSize, se_mX7_crewSize⟩
theorem lX10_132 : z_MV RX10 132 mX1_runsOff 1 4 := ⟨mb_mX1_runsOff, RX1, TX1, 2, rfl, by decide, z_tbm 466 (by decide +kernel) rfl, iv_mX1_runsOff, se_mX1_runsOff⟩
theorem lX10_136 : z_MV RX10 136 mX7_wholeOf 7 1 := ⟨mb_mX7_wholeOf, RX7, TX7, 18, rfl, by decide, z_tbm 470 (by decide +kernel) rfl, iv_mX7_wholeOf, se_mX7_wholeOf⟩
theorem lX7_85 : z_MV RX7 85 mX7_isAboard 7 1 := ⟨mb_mX7_isAboard, RX7, TX7, 18, rfl, by decide, z_tbm 474 (by decide +kernel) rfl, iv_mX7_isAboard, se_mX7_isAboard⟩
theorem lX7_89 : z_MV RX7 89 mX7_moneyNow 7 0 := ⟨mb_mX7_moneyNow, RX7, TX7, 18, rfl, by decide, z_tbm 475 (by decide +kernel) rfl, iv_mX7_moneyNow, se_mX7_moneyNow⟩
theorem lX7_82 : z_MV RX7 82 mX7_priceIn 7 1 := ⟨mb_mX7_priceIn, RX7, TX7, 18, rfl, by decide, z_tbm 479 (by decide +kernel) rfl, iv_mX7_priceIn, se_mX7_priceIn⟩
theorem lX7_93 : z_MV RX7 93 mX7_wholeBy 7 2 := ⟨mb_mX7_wholeBy, RX7, TX7, 18, rfl, by decide, z_tbm 483 (by decide +kernel) rfl, iv_mX7_wholeBy, se_mX7_wholeBy⟩
theorem lL_22 : z_MV RL 22 mX10_ground 10 4 := ⟨mb_mX10_ground, RX10, TX10, 17, rfl, by decide, z_tbm 487 (by decide +kernel) rfl, iv_mX10_ground, se_mX10_ground⟩
theorem lX10_139 : z_MS RX10 139 mX7_groundCanBe 4 := ⟨mb_mX7_groundCanBe, z_tbm 491 (by decide +kernel) rfl, is_mX7_groundCanBe⟩
theorem lX10_146 : z_MV RX10 146 mX7_addGround 7 4 := ⟨mb_mX7_addGround, RX7, TX7, 18, rfl, by decide, z_tbm 494 (by decide +kernel) rfl, iv_mX7_addGround, se_mX7_addGround⟩
theorem lL_27 : z_MV RL 27 mX10_at 10 2 := ⟨mb_mX10_at, RX10, TX10, 17, rfl, by decide, z_tbm 498 (by decide +kernel) rfl, iv_mX10_at, se_mX10_at⟩
theorem lX10_150 : z_MV RX10 150 mX7_hasGround 7 1 := ⟨mb_mX7_hasGround, RX7, TX7, 18, rfl, by decide, z_tbm 502 (by decide +kernel) rfl, iv_mX7_hasGround, se_mX7_hasGround⟩
theorem lX10_156 : z_MV RX10 156 mX7_chanceOf 7 2 := ⟨mb_mX7_chanceOf, RX7, TX7, 18, rfl, by decide, z_tbm 506 (by decide +kernel) rfl, iv_mX7_chanceOf, se_mX7_chanceOf⟩
theorem lX10_159 : z_MV RX10 159 mX1_casksOf 1 3 := ⟨mb_mX1_casksOf, RX1, TX1, 2, rfl, by decide, z_tbm 510 (by decide +kernel) rfl, iv_mX1_casksOf, se_mX1_casksOf⟩
theorem lL_31 : z_MV RL 31 mX10_price 10 2 := ⟨mb_mX10_price, RX10, TX10, 17, rfl, by decide, z_tbm 514 (by decide +kernel) rfl, iv_mX10_price, se_mX10_price⟩
theorem lL_35 : z_MV RL 35 mX10_terms 10 2 := ⟨mb_mX10_terms, RX10, TX10, 17, rfl, by decide, z_tbm 518 (by decide +kernel) rfl, iv_mX10_terms, se_mX10_terms⟩
theorem lX10_166 : z_MV RX10 166 mX10_termCanBe 10 2 := ⟨mb_mX10_termCanBe, RX10, TX10, 17, rfl, by decide, z_tbm 522 (by decide +kernel) rfl, iv_mX10_termCanBe, se_mX10_termCanBe⟩
theorem lL_39 : z_MV RL 39 mX10_feed 10 5 := ⟨mb_mX10_feed, RX10, TX10, 17, rfl, by decide, z_tbm 526 (by decide +kernel) rfl, iv_mX10_feed, se_mX10_feed⟩
theorem lX10_176 : z_MV RX10 176 mX8_put 8 1 := ⟨mb_mX8_put, RX8, TX8, 2, rfl, by decide, z_tbm 530 (by decide +kernel) rfl, iv_mX8_put, se_mX8_put⟩
theorem lL_44 : z_MV RL 44 mX10_end 10 1 := ⟨mb_mX10_end, RX10, TX10, 17, rfl, by decide, z_tbm 534 (by decide +kernel) rfl, iv_mX10_end, se_mX10_end⟩
theorem lL_49 : z_MV RL 49 mX10_row 10 0 := ⟨mb_mX10_row, RX10, TX10, 17, rfl, by decide, z_tbm 538 (by decide +kernel) rfl, iv_mX10_row, se_mX10_row⟩
theorem lX10_180 : z_MV RX10 180 mX8_taken 8 0 := ⟨mb_mX8_taken, RX8, TX8, 2, rfl, by decide, z_tbm 542 (by decide +kernel) rfl, iv_mX8_taken, se_mX8_taken⟩
theorem lX10_186 : z_MV RX10 186 mX10_groundCame 10 1 := ⟨mb_mX10_groundCame, RX10, TX10, 17, rfl, by decide, z_tbm 546 (by decide +kernel) rfl, iv_mX10_groundCame, se_mX10_groundCame⟩
theorem lX10_303 : z_MV RX10 303 mX8_byteAt 8 1 := ⟨mb_mX8_byteAt, RX8, TX8, 2, rfl, by decide, z_tbm 550 (by decide +kernel) rfl, iv_mX8_byteAt, se_mX8_byteAt⟩
theorem lL_54 : z_MV RL 54 mX10_spray 10 0 := ⟨mb_mX10_spray, RX10, TX10, 17, rfl, by decide, z_tbm 554 (by decide +kernel) rfl, iv_mX10_spray, se_mX10_spray⟩
theorem lL_58 : z_MV RL 58 mX10_law 10 0 := ⟨mb_mX10_law, RX10, TX10, 17, rfl, by decide, z_tbm 558 (by decide +kernel) rfl, iv_mX10_law, se_mX10_law⟩
theorem lX10_192 : z_MV RX10 192 mX6_read 6 3 := ⟨mb_mX6_read, RX6, TX6, 10, rfl, by decide, z_tbm 562 (by decide +kernel) rfl, iv_mX6_read, se_mX6_read⟩
theorem lX6_30 : z_MS RX6 30 mJ9_min_7cf53 2 := ⟨mb_mJ9_min_7cf53, z_tbm 566 (by decide +kernel) rfl, is_mJ9_min_7cf53⟩
theorem lX6_36 : z_MV RX6 36 mX6_cut 6 2 := ⟨mb_mX6_cut, RX6, TX6, 10, rfl, by decide, z_tbm 567 (by decide +kernel) rfl, iv_mX6_cut, se_mX6_cut⟩
theorem lX6_73 : z_MV RX6 73 mX8_byteAt 8 1 := ⟨mb_mX8_byteAt, RX8, TX8, 2, rfl, by decide, z_tbm 571 (by decide +kernel) rfl, iv_mX8_byteAt, se_mX8_byteAt⟩
theorem lX6_79 : z_MS RX6 79 mX6_isLetter 1 := ⟨mb_mX6_isLetter, z_tbm 572 (by decide +kernel) rfl, is_mX6_isLetter⟩
theorem lX6_82 : z_MS RX6 82 mX6_wordAt 3 := ⟨mb_mX6_wordAt, z_tbm 575 (by decide +kernel) rfl, is_mX6_wordAt⟩
theorem lX6_95 : Cond.methodLink RX6 95 ⟨"java/lang/String", "length", "()I"⟩ ∈ z_tb := z_tbm 579 (by decide +kernel) rfl
theorem lX6_101 : Cond.methodLink RX6 101 ⟨"java/lang/String", "charAt", "(I)C"⟩ ∈ z_tb := z_tbm 589 (by decide +kernel) rfl
theorem lX6_86 : z_MV RX6 86 mX6_note 6 3 := ⟨mb_mX6_note, RX6, TX6, 10, rfl, by decide, z_tbm 627 (by decide +kernel) rfl, iv_mX6_note, se_mX6_note⟩
theorem lX6_90 : z_MS RX6 90 mX6_isDigit 1 := ⟨mb_mX6_isDigit, z_tbm 631 (by decide +kernel) rfl, is_mX6_isDigit⟩
theorem lX6_40 : z_MV RX6 40 mX9_clear 9 0 := ⟨mb_mX9_clear, RX9, TX9, 4, rfl, by decide, z_tbm 634 (by decide +kernel) rfl, iv_mX9_clear, se_mX9_clear⟩
theorem lX6_60 : z_MV RX6 60 mX6_fail 6 0 := ⟨mb_mX6_fail, RX6, TX6, 10, rfl, by decide, z_tbm 638 (by decide +kernel) rfl, iv_mX6_fail, se_mX6_fail⟩
theorem lX6_63 : z_MV RX6 63 mX6_clause 6 0 := ⟨mb_mX6_clause, RX6, TX6, 10, rfl, by decide, z_tbm 642 (by decide +kernel) rfl, iv_mX6_clause, se_mX6_clause⟩
theorem lX6_105 : z_MV RX6 105 mX9_open 9 1 := ⟨mb_mX9_open, RX9, TX9, 4, rfl, by decide, z_tbm 646 (by decide +kernel) rfl, iv_mX9_open, se_mX9_open⟩
theorem lX9_34 : z_MV RX9 34 mX9_set 9 2 := ⟨mb_mX9_set, RX9, TX9, 4, rfl, by decide, z_tbm 650 (by decide +kernel) rfl, iv_mX9_set, se_mX9_set⟩
theorem lX6_109 : z_MV RX6 109 mX6_sumOf 6 1 := ⟨mb_mX6_sumOf, RX6, TX6, 10, rfl, by decide, z_tbm 654 (by decide +kernel) rfl, iv_mX6_sumOf, se_mX6_sumOf⟩
theorem lX6_121 : z_MV RX6 121 mX9_set 9 2 := ⟨mb_mX9_set, RX9, TX9, 4, rfl, by decide, z_tbm 658 (by decide +kernel) rfl, iv_mX9_set, se_mX9_set⟩
theorem lX6_130 : z_MV RX6 130 mX6_sum 6 0 := ⟨mb_mX6_sum, RX6, TX6, 10, rfl, by decide, z_tbm 659 (by decide +kernel) rfl, iv_mX6_sum, se_mX6_sum⟩
theorem lX6_153 : z_MV RX6 153 mX6_term 6 0 := ⟨mb_mX6_term, RX6, TX6, 10, rfl, by decide, z_tbm 663 (by decide +kernel) rfl, iv_mX6_term, se_mX6_term⟩
theorem lX6_156 : z_MV RX6 156 mX6_part 6 0 := ⟨mb_mX6_part, RX6, TX6, 10, rfl, by decide, z_tbm 667 (by decide +kernel) rfl, iv_mX6_part, se_mX6_part⟩
theorem lX6_66 : z_MV RX6 66 mX6_stands 6 1 := ⟨mb_mX6_stands, RX6, TX6, 10, rfl, by decide, z_tbm 671 (by decide +kernel) rfl, iv_mX6_stands, se_mX6_stands⟩
theorem lX6_142 : z_MV RX6 142 mX6_opened 6 0 := ⟨mb_mX6_opened, RX6, TX6, 10, rfl, by decide, z_tbm 675 (by decide +kernel) rfl, iv_mX6_opened, se_mX6_opened⟩
theorem lX6_146 : z_MV RX6 146 mX6_closed 6 1 := ⟨mb_mX6_closed, RX6, TX6, 10, rfl, by decide, z_tbm 679 (by decide +kernel) rfl, iv_mX6_closed, se_mX6_closed⟩
theorem lX6_112 : z_MV RX6 112 mX6_take 6 1 := ⟨mb_mX6_take, RX6, TX6, 10, rfl, by decide, z_tbm 683 (by decide +kernel) rfl, iv_mX6_take, se_mX6_take⟩
theorem lX6_127 : z_MV RX6 127 mX9_emit 9 2 := ⟨mb_mX9_emit, RX9, TX9, 4, rfl, by decide, z_tbm 687 (by decide +kernel) rfl, iv_mX9_emit, se_mX9_emit⟩
theorem lX6_162 : z_MV RX6 162 mX6_named 6 0 := ⟨mb_mX6_named, RX6, TX6, 10, rfl, by decide, z_tbm 691 (by decide +kernel) rfl, iv_mX6_named, se_mX6_named⟩
theorem lX6_165 : z_MS RX6 165 mX6_isLawWord 1 := ⟨mb_mX6_isLawWord, z_tbm 695 (by decide +kernel) rfl, is_mX6_isLawWord⟩
theorem lX6_168 : z_MS RX6 168 mX6_isOrderWord 1 := ⟨mb_mX6_isOrderWord, z_tbm 698 (by decide +kernel) rfl, is_mX6_isOrderWord⟩
theorem lX6_159 : z_MV RX6 159 mX6_multiplies 6 0 := ⟨mb_mX6_multiplies, RX6, TX6, 10, rfl, by decide, z_tbm 701 (by decide +kernel) rfl, iv_mX6_multiplies, se_mX6_multiplies⟩
theorem lX6_115 : z_MV RX6 115 mX6_times 6 0 := ⟨mb_mX6_times, RX6, TX6, 10, rfl, by decide, z_tbm 705 (by decide +kernel) rfl, iv_mX6_times, se_mX6_times⟩
theorem lX6_124 : z_MV RX6 124 mX6_test 6 0 := ⟨mb_mX6_test, RX6, TX6, 10, rfl, by decide, z_tbm 709 (by decide +kernel) rfl, iv_mX6_test, se_mX6_test⟩
theorem lX6_133 : z_MV RX6 133 mX6_both 6 0 := ⟨mb_mX6_both, RX6, TX6, 10, rfl, by decide, z_tbm 713 (by decide +kernel) rfl, iv_mX6_both, se_mX6_both⟩
theorem lX6_139 : z_MV RX6 139 mX6_plain 6 0 := ⟨mb_mX6_plain, RX6, TX6, 10, rfl, by decide, z_tbm 717 (by decide +kernel) rfl, iv_mX6_plain, se_mX6_plain⟩
theorem lX6_150 : z_MV RX6 150 mX6_compares 6 0 := ⟨mb_mX6_compares, RX6, TX6, 10, rfl, by decide, z_tbm 721 (by decide +kernel) rfl, iv_mX6_compares, se_mX6_compares⟩
theorem lX6_136 : z_MV RX6 136 mX9_aim 9 2 := ⟨mb_mX9_aim, RX9, TX9, 4, rfl, by decide, z_tbm 725 (by decide +kernel) rfl, iv_mX9_aim, se_mX9_aim⟩
theorem lX10_200 : z_MV RX10 200 mX9_packed 9 0 := ⟨mb_mX9_packed, RX9, TX9, 4, rfl, by decide, z_tbm 729 (by decide +kernel) rfl, iv_mX9_packed, se_mX9_packed⟩
theorem lX9_25 : z_MI RX9 25 mX9_init 2 := ⟨mb_mX9_init, Or.inl (z_tbm 734 (by decide +kernel) rfl), iv_mX9_init, rfl, rfl⟩
theorem lX9_28 : Cond.methodLink RX9 28 arraycopyName ∈ z_tb := z_tbm 735 (by decide +kernel) rfl
theorem lX10_206 : z_MV RX10 206 mX7_addLaw 7 1 := ⟨mb_mX7_addLaw, RX7, TX7, 18, rfl, by decide, z_tbm 738 (by decide +kernel) rfl, iv_mX7_addLaw, se_mX7_addLaw⟩
theorem lL_62 : z_MV RL 62 mX10_orders 10 0 := ⟨mb_mX10_orders, RX10, TX10, 17, rfl, by decide, z_tbm 743 (by decide +kernel) rfl, iv_mX10_orders, se_mX10_orders⟩
theorem lX10_210 : z_MV RX10 210 mX7_become 7 1 := ⟨mb_mX7_become, RX7, TX7, 18, rfl, by decide, z_tbm 747 (by decide +kernel) rfl, iv_mX7_become, se_mX7_become⟩
theorem lX7_52 : Cond.methodLink RX7 52 arraycopyName ∈ z_tb := z_tbm 751 (by decide +kernel) rfl
theorem lX10_214 : z_MV RX10 214 mX2_become 2 1 := ⟨mb_mX2_become, RX2, TX2, 4, rfl, by decide, z_tbm 752 (by decide +kernel) rfl, iv_mX2_become, se_mX2_become⟩
theorem lX2_22 : Cond.methodLink RX2 22 arraycopyName ∈ z_tb := z_tbm 756 (by decide +kernel) rfl
theorem lX10_217 : z_MV RX10 217 mX0_run 0 3 := ⟨mb_mX0_run, RX0, TX0, 4, rfl, by decide, z_tbm 757 (by decide +kernel) rfl, iv_mX0_run, se_mX0_run⟩
theorem lX0_35 : z_MV RX0 35 mX9_get 9 2 := ⟨mb_mX9_get, RX9, TX9, 4, rfl, by decide, z_tbm 761 (by decide +kernel) rfl, iv_mX9_get, se_mX9_get⟩
theorem lX0_39 : z_MV RX0 39 mX0_look 0 1 := ⟨mb_mX0_look, RX0, TX0, 4, rfl, by decide, z_tbm 762 (by decide +kernel) rfl, iv_mX0_look, se_mX0_look⟩
theorem lX0_46 : z_MV RX0 46 mX3_value 3 3 := ⟨mb_mX3_value, RX3, TX3, 1, rfl, by decide, z_tbm 766 (by decide +kernel) rfl, iv_mX3_value, se_mX3_value⟩
theorem lX0_50 : z_MV RX0 50 mX0_valueOf 0 3 := ⟨mb_mX0_valueOf, RX0, TX0, 4, rfl, by decide, z_tbm 767 (by decide +kernel) rfl, iv_mX0_valueOf, se_mX0_valueOf⟩
theorem lX0_55 : z_MV RX0 55 mX4_act 4 5 := ⟨mb_mX4_act, RX4, TX4, 2, rfl, by decide, z_tbm 772 (by decide +kernel) rfl, iv_mX4_act, se_mX4_act⟩
theorem lX4_19 : z_MV RX4 19 mX2_note 2 1 := ⟨mb_mX2_note, RX2, TX2, 4, rfl, by decide, z_tbm 776 (by decide +kernel) rfl, iv_mX2_note, se_mX2_note⟩
theorem lX4_25 : z_MV RX4 25 mX4_takeWhales 4 3 := ⟨mb_mX4_takeWhales, RX4, TX4, 2, rfl, by decide, z_tbm 780 (by decide +kernel) rfl, iv_mX4_takeWhales, se_mX4_takeWhales⟩
theorem lX4_47 : z_MV RX4 47 mX7_hasGround 7 1 := ⟨mb_mX7_hasGround, RX7, TX7, 18, rfl, by decide, z_tbm 784 (by decide +kernel) rfl, iv_mX7_hasGround, se_mX7_hasGround⟩
theorem lX4_63 : z_MV RX4 63 mX7_crewSize 7 0 := ⟨mb_mX7_crewSize, RX7, TX7, 18, rfl, by decide, z_tbm 785 (by decide +kernel) rfl, iv_mX7_crewSize, se_mX7_crewSize⟩
theorem lX4_67 : z_MV RX4 67 mX1_casksOf 1 3 := ⟨mb_mX1_casksOf, RX1, TX1, 2, rfl, by decide, z_tbm 786 (by decide +kernel) rfl, iv_mX1_casksOf, se_mX1_casksOf⟩
theorem lX4_75 : z_MV RX4 75 mX7_isAboard 7 1 := ⟨mb_mX7_isAboard, RX7, TX7, 18, rfl, by decide, z_tbm 787 (by decide +kernel) rfl, iv_mX7_isAboard, se_mX7_isAboard⟩
theorem lX4_78 : z_MV RX4 78 mX1_eatenBy 1 2 := ⟨mb_mX1_eatenBy, RX1, TX1, 2, rfl, by decide, z_tbm 788 (by decide +kernel) rfl, iv_mX1_eatenBy, se_mX1_eatenBy⟩
theorem lX4_84 : z_MS RX4 84 mJ9_min_7cf53 2 := ⟨mb_mJ9_min_7cf53, z_tbm 789 (by decide +kernel) rfl, is_mJ9_min_7cf53⟩
theorem lX4_29 : z_MV RX4 29 mX4_runAway 4 1 := ⟨mb_mX4_runAway, RX4, TX4, 2, rfl, by decide, z_tbm 790 (by decide +kernel) rfl, iv_mX4_runAway, se_mX4_runAway⟩
theorem lX4_96 : z_MV RX4 96 mX1_runsOff 1 4 := ⟨mb_mX1_runsOff, RX1, TX1, 2, rfl, by decide, z_tbm 794 (by decide +kernel) rfl, iv_mX1_runsOff, se_mX1_runsOff⟩
theorem lX4_100 : z_MS RX4 100 mJ6_bitCount_0f7a4 1 := ⟨mb_mJ6_bitCount_0f7a4, z_tbm 795 (by decide +kernel) rfl, is_mJ6_bitCount_0f7a4⟩
theorem lX4_33 : z_MV RX4 33 mX4_sellOff 4 2 := ⟨mb_mX4_sellOff, RX4, TX4, 2, rfl, by decide, z_tbm 796 (by decide +kernel) rfl, iv_mX4_sellOff, se_mX4_sellOff⟩
theorem lX4_110 : z_MV RX4 110 mX7_priceIn 7 1 := ⟨mb_mX7_priceIn, RX7, TX7, 18, rfl, by decide, z_tbm 801 (by decide +kernel) rfl, iv_mX7_priceIn, se_mX7_priceIn⟩
theorem lX4_37 : z_MV RX4 37 mX4_payOut 4 3 := ⟨mb_mX4_payOut, RX4, TX4, 2, rfl, by decide, z_tbm 802 (by decide +kernel) rfl, iv_mX4_payOut, se_mX4_payOut⟩
theorem lX4_113 : z_MV RX4 113 mX7_hasHand 7 1 := ⟨mb_mX7_hasHand, RX7, TX7, 18, rfl, by decide, z_tbm 806 (by decide +kernel) rfl, iv_mX7_hasHand, se_mX7_hasHand⟩
theorem lX4_40 : z_MV RX4 40 mX4_putAshore 4 2 := ⟨mb_mX4_putAshore, RX4, TX4, 2, rfl, by decide, z_tbm 807 (by decide +kernel) rfl, iv_mX4_putAshore, se_mX4_putAshore⟩
theorem lX4_43 : z_MV RX4 43 mX2_keepNoted 2 1 := ⟨mb_mX2_keepNoted, RX2, TX2, 4, rfl, by decide, z_tbm 811 (by decide +kernel) rfl, iv_mX2_keepNoted, se_mX2_keepNoted⟩
theorem lL_66 : z_MV RL 66 mX10_fault 10 0 := ⟨mb_mX10_fault, RX10, TX10, 17, rfl, by decide, z_tbm 815 (by decide +kernel) rfl, iv_mX10_fault, se_mX10_fault⟩
theorem lL_70 : z_MV RL 70 mX10_stopped 10 0 := ⟨mb_mX10_stopped, RX10, TX10, 17, rfl, by decide, z_tbm 819 (by decide +kernel) rfl, iv_mX10_stopped, se_mX10_stopped⟩
theorem lL_74 : z_MV RL 74 mX10_force 10 1 := ⟨mb_mX10_force, RX10, TX10, 17, rfl, by decide, z_tbm 823 (by decide +kernel) rfl, iv_mX10_force, se_mX10_force⟩
theorem lL_78 : z_MV RL 78 mX10_hunt 10 2 := ⟨mb_mX10_hunt, RX10, TX10, 17, rfl, by decide, z_tbm 827 (by decide +kernel) rfl, iv_mX10_hunt, se_mX10_hunt⟩
theorem lX10_225 : z_MV RX10 225 mX4_act 4 5 := ⟨mb_mX4_act, RX4, TX4, 2, rfl, by decide, z_tbm 831 (by decide +kernel) rfl, iv_mX4_act, se_mX4_act⟩
theorem lX10_229 : z_MV RX10 229 mX10_answer 10 1 := ⟨mb_mX10_answer, RX10, TX10, 17, rfl, by decide, z_tbm 832 (by decide +kernel) rfl, iv_mX10_answer, se_mX10_answer⟩
theorem lL_82 : z_MV RL 82 mX10_sell 10 1 := ⟨mb_mX10_sell, RX10, TX10, 17, rfl, by decide, z_tbm 836 (by decide +kernel) rfl, iv_mX10_sell, se_mX10_sell⟩
theorem lL_86 : z_MV RL 86 mX10_advance 10 2 := ⟨mb_mX10_advance, RX10, TX10, 17, rfl, by decide, z_tbm 840 (by decide +kernel) rfl, iv_mX10_advance, se_mX10_advance⟩
theorem lL_90 : z_MV RL 90 mX10_leave 10 1 := ⟨mb_mX10_leave, RX10, TX10, 17, rfl, by decide, z_tbm 844 (by decide +kernel) rfl, iv_mX10_leave, se_mX10_leave⟩
theorem lL_94 : z_MV RL 94 mX10_undo 10 0 := ⟨mb_mX10_undo, RX10, TX10, 17, rfl, by decide, z_tbm 848 (by decide +kernel) rfl, iv_mX10_undo, se_mX10_undo⟩
theorem lX10_232 : z_MV RX10 232 mX2_takeBack 2 1 := ⟨mb_mX2_takeBack, RX2, TX2, 4, rfl, by decide, z_tbm 852 (by decide +kernel) rfl, iv_mX2_takeBack, se_mX2_takeBack⟩
theorem lL_98 : z_MV RL 98 mX10_money 10 1 := ⟨mb_mX10_money, RX10, TX10, 17, rfl, by decide, z_tbm 856 (by decide +kernel) rfl, iv_mX10_money, se_mX10_money⟩
theorem lX10_236 : z_MV RX10 236 mX7_moneyNow 7 0 := ⟨mb_mX7_moneyNow, RX7, TX7, 18, rfl, by decide, z_tbm 860 (by decide +kernel) rfl, iv_mX7_moneyNow, se_mX7_moneyNow⟩
theorem lX10_239 : z_MV RX10 239 mX7_ownersNow 7 0 := ⟨mb_mX7_ownersNow, RX7, TX7, 18, rfl, by decide, z_tbm 861 (by decide +kernel) rfl, iv_mX7_ownersNow, se_mX7_ownersNow⟩
theorem lX7_97 : z_MV RX7 97 mX7_wholeOf 7 1 := ⟨mb_mX7_wholeOf, RX7, TX7, 18, rfl, by decide, z_tbm 865 (by decide +kernel) rfl, iv_mX7_wholeOf, se_mX7_wholeOf⟩
theorem lL_102 : z_MV RL 102 mX10_parts 10 0 := ⟨mb_mX10_parts, RX10, TX10, 17, rfl, by decide, z_tbm 866 (by decide +kernel) rfl, iv_mX10_parts, se_mX10_parts⟩
theorem lX10_242 : z_MV RX10 242 mX7_partsOf 7 1 := ⟨mb_mX7_partsOf, RX7, TX7, 18, rfl, by decide, z_tbm 870 (by decide +kernel) rfl, iv_mX7_partsOf, se_mX7_partsOf⟩
theorem lL_107 : z_MV RL 107 mX10_best 10 2 := ⟨mb_mX10_best, RX10, TX10, 17, rfl, by decide, z_tbm 875 (by decide +kernel) rfl, iv_mX10_best, se_mX10_best⟩
theorem lX10_248 : z_MV RX10 248 mX5_bestOf 5 3 := ⟨mb_mX5_bestOf, RX5, TX5, 7, rfl, by decide, z_tbm 880 (by decide +kernel) rfl, iv_mX5_bestOf, se_mX5_bestOf⟩
theorem lX5_34 : z_MS RX5 34 mJ9_min_7cf53 2 := ⟨mb_mJ9_min_7cf53, z_tbm 884 (by decide +kernel) rfl, is_mJ9_min_7cf53⟩
theorem lX5_44 : z_MV RX5 44 mX7_crewSize 7 0 := ⟨mb_mX7_crewSize, RX7, TX7, 18, rfl, by decide, z_tbm 885 (by decide +kernel) rfl, iv_mX7_crewSize, se_mX7_crewSize⟩
theorem lX5_48 : z_MV RX5 48 mX1_casksOf 1 3 := ⟨mb_mX1_casksOf, RX1, TX1, 2, rfl, by decide, z_tbm 886 (by decide +kernel) rfl, iv_mX1_casksOf, se_mX1_casksOf⟩
theorem lX5_54 : z_MV RX5 54 mX5_reach 5 1 := ⟨mb_mX5_reach, RX5, TX5, 7, rfl, by decide, z_tbm 887 (by decide +kernel) rfl, iv_mX5_reach, se_mX5_reach⟩
theorem lX5_58 : z_MV RX5 58 mX5_fillMonth 5 3 := ⟨mb_mX5_fillMonth, RX5, TX5, 7, rfl, by decide, z_tbm 891 (by decide +kernel) rfl, iv_mX5_fillMonth, se_mX5_fillMonth⟩
theorem lX5_65 : z_MS RX5 65 mX5_homeFor 3 := ⟨mb_mX5_homeFor, z_tbm 895 (by decide +kernel) rfl, is_mX5_homeFor⟩
theorem lX5_78 : z_MV RX5 78 mX7_priceIn 7 1 := ⟨mb_mX7_priceIn, RX7, TX7, 18, rfl, by decide, z_tbm 899 (by decide +kernel) rfl, iv_mX7_priceIn, se_mX7_priceIn⟩
theorem lX5_69 : z_MV RX5 69 mX5_averageOf 5 3 := ⟨mb_mX5_averageOf, RX5, TX5, 7, rfl, by decide, z_tbm 900 (by decide +kernel) rfl, iv_mX5_averageOf, se_mX5_averageOf⟩
theorem lX5_82 : z_MV RX5 82 mX7_chanceOf 7 2 := ⟨mb_mX7_chanceOf, RX7, TX7, 18, rfl, by decide, z_tbm 904 (by decide +kernel) rfl, iv_mX7_chanceOf, se_mX7_chanceOf⟩
theorem lX5_72 : z_MS RX5 72 mJ9_max_f86c9 2 := ⟨mb_mJ9_max_f86c9, z_tbm 906 (by decide +kernel) rfl, is_mJ9_max_f86c9⟩
theorem lL_112 : z_MV RL 112 mX10_odds 10 3 := ⟨mb_mX10_odds, RX10, TX10, 17, rfl, by decide, z_tbm 909 (by decide +kernel) rfl, iv_mX10_odds, se_mX10_odds⟩
theorem lX10_252 : z_MV RX10 252 mX5_chanceOfOil 5 4 := ⟨mb_mX5_chanceOfOil, RX5, TX5, 7, rfl, by decide, z_tbm 913 (by decide +kernel) rfl, iv_mX5_chanceOfOil, se_mX5_chanceOfOil⟩
theorem lX5_87 : z_MS RX5 87 mJ9_max_7cf53 2 := ⟨mb_mJ9_max_7cf53, z_tbm 917 (by decide +kernel) rfl, is_mJ9_max_7cf53⟩
theorem lX5_91 : z_MV RX5 91 mX5_spread 5 3 := ⟨mb_mX5_spread, RX5, TX5, 7, rfl, by decide, z_tbm 919 (by decide +kernel) rfl, iv_mX5_spread, se_mX5_spread⟩
theorem lL_117 : z_MV RL 117 mX10_left 10 1 := ⟨mb_mX10_left, RX10, TX10, 17, rfl, by decide, z_tbm 923 (by decide +kernel) rfl, iv_mX10_left, se_mX10_left⟩
theorem lX10_256 : z_MV RX10 256 mX5_atRest 5 2 := ⟨mb_mX5_atRest, RX5, TX5, 7, rfl, by decide, z_tbm 927 (by decide +kernel) rfl, iv_mX5_atRest, se_mX5_atRest⟩
theorem lX5_104 : z_MS RX5 104 mJ6_bitCount_0f7a4 1 := ⟨mb_mJ6_bitCount_0f7a4, z_tbm 931 (by decide +kernel) rfl, is_mJ6_bitCount_0f7a4⟩
theorem lX5_109 : z_MV RX5 109 mX1_runsOff 1 4 := ⟨mb_mX1_runsOff, RX1, TX1, 2, rfl, by decide, z_tbm 932 (by decide +kernel) rfl, iv_mX1_runsOff, se_mX1_runsOff⟩
theorem lL_121 : z_MV RL 121 mX10_least 10 1 := ⟨mb_mX10_least, RX10, TX10, 17, rfl, by decide, z_tbm 933 (by decide +kernel) rfl, iv_mX10_least, se_mX10_least⟩
theorem lX10_260 : z_MV RX10 260 mX5_greatestLay 5 2 := ⟨mb_mX5_greatestLay, RX5, TX5, 7, rfl, by decide, z_tbm 937 (by decide +kernel) rfl, iv_mX5_greatestLay, se_mX5_greatestLay⟩
theorem lL_125 : z_MV RL 125 mX10_crew 10 3 := ⟨mb_mX10_crew, RX10, TX10, 17, rfl, by decide, z_tbm 941 (by decide +kernel) rfl, iv_mX10_crew, se_mX10_crew⟩
theorem lX10_263 : z_MV RX10 263 mX5_cheapestCrew 5 4 := ⟨mb_mX5_cheapestCrew, RX5, TX5, 7, rfl, by decide, z_tbm 945 (by decide +kernel) rfl, iv_mX5_cheapestCrew, se_mX5_cheapestCrew⟩
theorem lX5_115 : z_MS RX5 115 mX5_partsOfSet 2 := ⟨mb_mX5_partsOfSet, z_tbm 950 (by decide +kernel) rfl, is_mX5_partsOfSet⟩
theorem lX5_119 : z_MV RX5 119 mX7_partsOf 7 1 := ⟨mb_mX7_partsOf, RX7, TX7, 18, rfl, by decide, z_tbm 953 (by decide +kernel) rfl, iv_mX7_partsOf, se_mX7_partsOf⟩
theorem lL_129 : z_MV RL 129 mX10_word 10 2 := ⟨mb_mX10_word, RX10, TX10, 17, rfl, by decide, z_tbm 954 (by decide +kernel) rfl, iv_mX10_word, se_mX10_word⟩
theorem lX10_271 : z_MV RX10 271 mX7_addWord 7 2 := ⟨mb_mX7_addWord, RX7, TX7, 18, rfl, by decide, z_tbm 959 (by decide +kernel) rfl, iv_mX7_addWord, se_mX7_addWord⟩
theorem lL_133 : z_MV RL 133 mX10_forget 10 0 := ⟨mb_mX10_forget, RX10, TX10, 17, rfl, by decide, z_tbm 963 (by decide +kernel) rfl, iv_mX10_forget, se_mX10_forget⟩
theorem lL_137 : z_MV RL 137 mX10_barrels 10 1 := ⟨mb_mX10_barrels, RX10, TX10, 17, rfl, by decide, z_tbm 967 (by decide +kernel) rfl, iv_mX10_barrels, se_mX10_barrels⟩
theorem lX10_274 : z_MV RX10 274 mX5_weigh 5 1 := ⟨mb_mX5_weigh, RX5, TX5, 7, rfl, by decide, z_tbm 971 (by decide +kernel) rfl, iv_mX5_weigh, se_mX5_weigh⟩
theorem lX5_141 : z_MS RX5 141 mJ9_floorDiv_7cf53 2 := ⟨mb_mJ9_floorDiv_7cf53, z_tbm 975 (by decide +kernel) rfl, is_mJ9_floorDiv_7cf53⟩
theorem lL_141 : z_MV RL 141 mX10_ask 10 1 := ⟨mb_mX10_ask, RX10, TX10, 17, rfl, by decide, z_tbm 978 (by decide +kernel) rfl, iv_mX10_ask, se_mX10_ask⟩
theorem lX10_283 : z_MV RX10 283 mX5_toAsk 5 2 := ⟨mb_mX5_toAsk, RX5, TX5, 7, rfl, by decide, z_tbm 982 (by decide +kernel) rfl, iv_mX5_toAsk, se_mX5_toAsk⟩
theorem lX5_144 : z_MV RX5 144 mX5_weigh 5 1 := ⟨mb_mX5_weigh, RX5, TX5, 7, rfl, by decide, z_tbm 986 (by decide +kernel) rfl, iv_mX5_weigh, se_mX5_weigh⟩
theorem lX5_147 : z_MV RX5 147 mX5_mostAlike 5 2 := ⟨mb_mX5_mostAlike, RX5, TX5, 7, rfl, by decide, z_tbm 987 (by decide +kernel) rfl, iv_mX5_mostAlike, se_mX5_mostAlike⟩
theorem lX5_151 : z_MV RX5 151 mX7_wholeBy 7 2 := ⟨mb_mX7_wholeBy, RX7, TX7, 18, rfl, by decide, z_tbm 991 (by decide +kernel) rfl, iv_mX7_wholeBy, se_mX7_wholeBy⟩
theorem lL_145 : z_MV RL 145 mX10_years 10 2 := ⟨mb_mX10_years, RX10, TX10, 17, rfl, by decide, z_tbm 992 (by decide +kernel) rfl, iv_mX10_years, se_mX10_years⟩
theorem lX10_290 : z_MV RX10 290 mX4_drift 4 3 := ⟨mb_mX4_drift, RX4, TX4, 2, rfl, by decide, z_tbm 997 (by decide +kernel) rfl, iv_mX4_drift, se_mX4_drift⟩
theorem lX4_120 : z_MS RX4 120 mX4_takenBy 3 := ⟨mb_mX4_takenBy, z_tbm 1002 (by decide +kernel) rfl, is_mX4_takenBy⟩
theorem lX4_123 : z_MV RX4 123 mX7_chanceOf 7 2 := ⟨mb_mX7_chanceOf, RX7, TX7, 18, rfl, by decide, z_tbm 1005 (by decide +kernel) rfl, iv_mX7_chanceOf, se_mX7_chanceOf⟩
theorem lL_149 : z_MV RL 149 mX10_drawn 10 2 := ⟨mb_mX10_drawn, RX10, TX10, 17, rfl, by decide, z_tbm 1006 (by decide +kernel) rfl, iv_mX10_drawn, se_mX10_drawn⟩
theorem lL_153 : z_MV RL 153 mX10_image 10 1 := ⟨mb_mX10_image, RX10, TX10, 17, rfl, by decide, z_tbm 1010 (by decide +kernel) rfl, iv_mX10_image, se_mX10_image⟩
theorem lL_157 : z_MV RL 157 mX10_back 10 1 := ⟨mb_mX10_back, RX10, TX10, 17, rfl, by decide, z_tbm 1014 (by decide +kernel) rfl, iv_mX10_back, se_mX10_back⟩
theorem lL_161 : z_MV RL 161 mX10_count 10 1 := ⟨mb_mX10_count, RX10, TX10, 17, rfl, by decide, z_tbm 1018 (by decide +kernel) rfl, iv_mX10_count, se_mX10_count⟩
theorem lL_165 : z_MV RL 165 mX10_status 10 0 := ⟨mb_mX10_status, RX10, TX10, 17, rfl, by decide, z_tbm 1022 (by decide +kernel) rfl, iv_mX10_status, se_mX10_status⟩
theorem lL_12 : z_MI RL 12 mX11_init 0 := ⟨mb_mX11_init, Or.inl (z_tbm 1028 (by decide +kernel) rfl), iv_mX11_init, rfl, rfl⟩
theorem lX11_18 : Cond.methodLink RX11 18 Lib.objectInit ∈ z_tb := z_tbm 1031 (by decide +kernel) rfl
theorem lL_156 : z_MV RL 156 mX11_image 11 1 := ⟨mb_mX11_image, RX11, TX11, 46, rfl, by decide, z_tbm 1172 (by decide +kernel) rfl, iv_mX11_image, se_mX11_image⟩
theorem lX11_90 : z_MS RX11 90 mX11_lies 3 := ⟨mb_mX11_lies, z_tbm 1176 (by decide +kernel) rfl, is_mX11_lies⟩
theorem lX11_94 : z_MV RX11 94 mX11_refuses 11 1 := ⟨mb_mX11_refuses, RX11, TX11, 46, rfl, by decide, z_tbm 1179 (by decide +kernel) rfl, iv_mX11_refuses, se_mX11_refuses⟩
theorem lX11_14 : z_MV RX11 14 mX11_good 11 1 := ⟨mb_mX11_good, RX11, TX11, 46, rfl, by decide, z_tbm 1183 (by decide +kernel) rfl, iv_mX11_good, se_mX11_good⟩
theorem lL_160 : z_MV RL 160 mX11_back 11 1 := ⟨mb_mX11_back, RX11, TX11, 46, rfl, by decide, z_tbm 1187 (by decide +kernel) rfl, iv_mX11_back, se_mX11_back⟩
theorem lX11_97 : z_MV RX11 97 mX11_settled 11 1 := ⟨mb_mX11_settled, RX11, TX11, 46, rfl, by decide, z_tbm 1191 (by decide +kernel) rfl, iv_mX11_settled, se_mX11_settled⟩
theorem lL_17 : z_MV RL 17 mX11_sign 11 2 := ⟨mb_mX11_sign, RX11, TX11, 46, rfl, by decide, z_tbm 1195 (by decide +kernel) rfl, iv_mX11_sign, se_mX11_sign⟩
theorem lL_21 : z_MV RL 21 mX11_of 11 2 := ⟨mb_mX11_of, RX11, TX11, 46, rfl, by decide, z_tbm 1199 (by decide +kernel) rfl, iv_mX11_of, se_mX11_of⟩
theorem lX11_100 : z_MV RX11 100 mX11_isHand 11 1 := ⟨mb_mX11_isHand, RX11, TX11, 46, rfl, by decide, z_tbm 1203 (by decide +kernel) rfl, iv_mX11_isHand, se_mX11_isHand⟩
theorem lX11_105 : z_MV RX11 105 mX11_eatsFor 11 1 := ⟨mb_mX11_eatsFor, RX11, TX11, 46, rfl, by decide, z_tbm 1208 (by decide +kernel) rfl, iv_mX11_eatsFor, se_mX11_eatsFor⟩
theorem lX11_108 : z_MV RX11 108 mX11_crewNow 11 0 := ⟨mb_mX11_crewNow, RX11, TX11, 46, rfl, by decide, z_tbm 1212 (by decide +kernel) rfl, iv_mX11_crewNow, se_mX11_crewNow⟩
theorem lX11_312 : z_MV RX11 312 mX11_setsHand 11 3 := ⟨mb_mX11_setsHand, RX11, TX11, 46, rfl, by decide, z_tbm 1216 (by decide +kernel) rfl, iv_mX11_setsHand, se_mX11_setsHand⟩
theorem lX11_303 : z_MV RX11 303 mX11_setsNone 11 1 := ⟨mb_mX11_setsNone, RX11, TX11, 46, rfl, by decide, z_tbm 1220 (by decide +kernel) rfl, iv_mX11_setsNone, se_mX11_setsNone⟩
theorem lX11_308 : z_MV RX11 308 mX11_tells 11 3 := ⟨mb_mX11_tells, RX11, TX11, 46, rfl, by decide, z_tbm 1224 (by decide +kernel) rfl, iv_mX11_tells, se_mX11_tells⟩
theorem lX11_252 : z_MV RX11 252 mX11_codeAt 11 1 := ⟨mb_mX11_codeAt, RX11, TX11, 46, rfl, by decide, z_tbm 1228 (by decide +kernel) rfl, iv_mX11_codeAt, se_mX11_codeAt⟩
theorem lX11_276 : z_MV RX11 276 mX11_sumOf 11 1 := ⟨mb_mX11_sumOf, RX11, TX11, 46, rfl, by decide, z_tbm 1232 (by decide +kernel) rfl, iv_mX11_sumOf, se_mX11_sumOf⟩
theorem lX11_262 : z_MV RX11 262 mX11_termOf 11 1 := ⟨mb_mX11_termOf, RX11, TX11, 46, rfl, by decide, z_tbm 1236 (by decide +kernel) rfl, iv_mX11_termOf, se_mX11_termOf⟩
theorem lX11_270 : z_MV RX11 270 mX11_partOf 11 1 := ⟨mb_mX11_partOf, RX11, TX11, 46, rfl, by decide, z_tbm 1240 (by decide +kernel) rfl, iv_mX11_partOf, se_mX11_partOf⟩
theorem lX11_211 : z_MS RX11 211 mX11_signOf 1 := ⟨mb_mX11_signOf, z_tbm 1244 (by decide +kernel) rfl, is_mX11_signOf⟩
theorem lX11_273 : z_MV RX11 273 mX11_passes0 11 1 := ⟨mb_mX11_passes0, RX11, TX11, 46, rfl, by decide, z_tbm 1247 (by decide +kernel) rfl, iv_mX11_passes0, se_mX11_passes0⟩
theorem lX11_282 : z_MV RX11 282 mX11_orderValue 11 2 := ⟨mb_mX11_orderValue, RX11, TX11, 46, rfl, by decide, z_tbm 1251 (by decide +kernel) rfl, iv_mX11_orderValue, se_mX11_orderValue⟩
theorem lX11_129 : z_MV RX11 129 mX11_isGround 11 1 := ⟨mb_mX11_isGround, RX11, TX11, 46, rfl, by decide, z_tbm 1255 (by decide +kernel) rfl, iv_mX11_isGround, se_mX11_isGround⟩
theorem lX11_266 : z_MV RX11 266 mX11_bounded 11 2 := ⟨mb_mX11_bounded, RX11, TX11, 46, rfl, by decide, z_tbm 1259 (by decide +kernel) rfl, iv_mX11_bounded, se_mX11_bounded⟩
theorem lX11_300 : z_MV RX11 300 mX11_testOf 11 1 := ⟨mb_mX11_testOf, RX11, TX11, 46, rfl, by decide, z_tbm 1265 (by decide +kernel) rfl, iv_mX11_testOf, se_mX11_testOf⟩
theorem lX11_291 : z_MV RX11 291 mX11_bothOf 11 1 := ⟨mb_mX11_bothOf, RX11, TX11, 46, rfl, by decide, z_tbm 1269 (by decide +kernel) rfl, iv_mX11_bothOf, se_mX11_bothOf⟩
theorem lX11_294 : z_MV RX11 294 mX11_plainOf 11 1 := ⟨mb_mX11_plainOf, RX11, TX11, 46, rfl, by decide, z_tbm 1273 (by decide +kernel) rfl, iv_mX11_plainOf, se_mX11_plainOf⟩
theorem lX11_297 : z_MV RX11 297 mX11_positiveOf 11 1 := ⟨mb_mX11_positiveOf, RX11, TX11, 46, rfl, by decide, z_tbm 1277 (by decide +kernel) rfl, iv_mX11_positiveOf, se_mX11_positiveOf⟩
theorem lX11_112 : z_MV RX11 112 mX11_deserts 11 3 := ⟨mb_mX11_deserts, RX11, TX11, 46, rfl, by decide, z_tbm 1282 (by decide +kernel) rfl, iv_mX11_deserts, se_mX11_deserts⟩
theorem lX11_115 : z_MV RX11 115 mX11_wholeNow 11 1 := ⟨mb_mX11_wholeNow, RX11, TX11, 46, rfl, by decide, z_tbm 1286 (by decide +kernel) rfl, iv_mX11_wholeNow, se_mX11_wholeNow⟩
theorem lX11_118 : z_MV RX11 118 mX11_isAboard 11 1 := ⟨mb_mX11_isAboard, RX11, TX11, 46, rfl, by decide, z_tbm 1290 (by decide +kernel) rfl, iv_mX11_isAboard, se_mX11_isAboard⟩
theorem lX11_365 : z_MV RX11 365 mX11_wholeOf 11 2 := ⟨mb_mX11_wholeOf, RX11, TX11, 46, rfl, by decide, z_tbm 1294 (by decide +kernel) rfl, iv_mX11_wholeOf, se_mX11_wholeOf⟩
theorem lX11_362 : z_MV RX11 362 mX11_moneyBy 11 1 := ⟨mb_mX11_moneyBy, RX11, TX11, 46, rfl, by decide, z_tbm 1298 (by decide +kernel) rfl, iv_mX11_moneyBy, se_mX11_moneyBy⟩
theorem lX11_344 : z_MV RX11 344 mX11_priceIn 11 1 := ⟨mb_mX11_priceIn, RX11, TX11, 46, rfl, by decide, z_tbm 1302 (by decide +kernel) rfl, iv_mX11_priceIn, se_mX11_priceIn⟩
theorem lL_26 : z_MV RL 26 mX11_ground 11 4 := ⟨mb_mX11_ground, RX11, TX11, 46, rfl, by decide, z_tbm 1306 (by decide +kernel) rfl, iv_mX11_ground, se_mX11_ground⟩
theorem lX11_121 : z_MS RX11 121 mX11_canGround 4 := ⟨mb_mX11_canGround, z_tbm 1310 (by decide +kernel) rfl, is_mX11_canGround⟩
theorem lX11_125 : z_MV RX11 125 mX11_addsGround 11 4 := ⟨mb_mX11_addsGround, RX11, TX11, 46, rfl, by decide, z_tbm 1313 (by decide +kernel) rfl, iv_mX11_addsGround, se_mX11_addsGround⟩
theorem lL_30 : z_MV RL 30 mX11_at 11 2 := ⟨mb_mX11_at, RX11, TX11, 46, rfl, by decide, z_tbm 1317 (by decide +kernel) rfl, iv_mX11_at, se_mX11_at⟩
theorem lX11_132 : z_MV RX11 132 mX11_casksIn 11 2 := ⟨mb_mX11_casksIn, RX11, TX11, 46, rfl, by decide, z_tbm 1321 (by decide +kernel) rfl, iv_mX11_casksIn, se_mX11_casksIn⟩
theorem lL_34 : z_MV RL 34 mX11_price 11 2 := ⟨mb_mX11_price, RX11, TX11, 46, rfl, by decide, z_tbm 1325 (by decide +kernel) rfl, iv_mX11_price, se_mX11_price⟩
theorem lL_38 : z_MV RL 38 mX11_terms 11 2 := ⟨mb_mX11_terms, RX11, TX11, 46, rfl, by decide, z_tbm 1329 (by decide +kernel) rfl, iv_mX11_terms, se_mX11_terms⟩
theorem lX11_139 : z_MV RX11 139 mX11_isTerm 11 2 := ⟨mb_mX11_isTerm, RX11, TX11, 46, rfl, by decide, z_tbm 1333 (by decide +kernel) rfl, iv_mX11_isTerm, se_mX11_isTerm⟩
theorem lX11_136 : z_MS RX11 136 mX11_greater 2 := ⟨mb_mX11_greater, z_tbm 1337 (by decide +kernel) rfl, is_mX11_greater⟩
theorem lL_53 : z_MV RL 53 mX11_row 11 0 := ⟨mb_mX11_row, RX11, TX11, 46, rfl, by decide, z_tbm 1340 (by decide +kernel) rfl, iv_mX11_row, se_mX11_row⟩
theorem lL_57 : z_MV RL 57 mX11_spray 11 0 := ⟨mb_mX11_spray, RX11, TX11, 46, rfl, by decide, z_tbm 1344 (by decide +kernel) rfl, iv_mX11_spray, se_mX11_spray⟩
theorem lL_43 : z_MV RL 43 mX11_feed 11 5 := ⟨mb_mX11_feed, RX11, TX11, 46, rfl, by decide, z_tbm 1348 (by decide +kernel) rfl, iv_mX11_feed, se_mX11_feed⟩
theorem lL_48 : z_MV RL 48 mX11_end 11 1 := ⟨mb_mX11_end, RX11, TX11, 46, rfl, by decide, z_tbm 1352 (by decide +kernel) rfl, iv_mX11_end, se_mX11_end⟩
theorem lL_61 : z_MV RL 61 mX11_law 11 0 := ⟨mb_mX11_law, RX11, TX11, 46, rfl, by decide, z_tbm 1356 (by decide +kernel) rfl, iv_mX11_law, se_mX11_law⟩
theorem lX11_239 : z_MV RX11 239 mX11_readsAs 11 1 := ⟨mb_mX11_readsAs, RX11, TX11, 46, rfl, by decide, z_tbm 1360 (by decide +kernel) rfl, iv_mX11_readsAs, se_mX11_readsAs⟩
theorem lX11_236 : z_MV RX11 236 mX11_reads 11 0 := ⟨mb_mX11_reads, RX11, TX11, 46, rfl, by decide, z_tbm 1364 (by decide +kernel) rfl, iv_mX11_reads, se_mX11_reads⟩
theorem lX11_230 : z_MV RX11 230 mX11_splits 11 1 := ⟨mb_mX11_splits, RX11, TX11, 46, rfl, by decide, z_tbm 1368 (by decide +kernel) rfl, iv_mX11_splits, se_mX11_splits⟩
theorem lX11_152 : z_MS RX11 152 mX11_isSmall 1 := ⟨mb_mX11_isSmall, z_tbm 1372 (by decide +kernel) rfl, is_mX11_isSmall⟩
theorem lX11_155 : z_MS RX11 155 mX11_isDigit 1 := ⟨mb_mX11_isDigit, z_tbm 1375 (by decide +kernel) rfl, is_mX11_isDigit⟩
theorem lX11_158 : z_MV RX11 158 mX11_wordOf 11 2 := ⟨mb_mX11_wordOf, RX11, TX11, 46, rfl, by decide, z_tbm 1378 (by decide +kernel) rfl, iv_mX11_wordOf, se_mX11_wordOf⟩
theorem lX11_233 : z_MV RX11 233 mX11_readOne 11 0 := ⟨mb_mX11_readOne, RX11, TX11, 46, rfl, by decide, z_tbm 1383 (by decide +kernel) rfl, iv_mX11_readOne, se_mX11_readOne⟩
theorem lX11_199 : z_MV RX11 199 mX11_readOrder 11 0 := ⟨mb_mX11_readOrder, RX11, TX11, 46, rfl, by decide, z_tbm 1387 (by decide +kernel) rfl, iv_mX11_readOrder, se_mX11_readOrder⟩
theorem lX11_172 : z_MV RX11 172 mX11_takes0 11 1 := ⟨mb_mX11_takes0, RX11, TX11, 46, rfl, by decide, z_tbm 1391 (by decide +kernel) rfl, iv_mX11_takes0, se_mX11_takes0⟩
theorem lX11_165 : z_MV RX11 165 mX11_fine 11 0 := ⟨mb_mX11_fine, RX11, TX11, 46, rfl, by decide, z_tbm 1395 (by decide +kernel) rfl, iv_mX11_fine, se_mX11_fine⟩
theorem lX11_181 : z_MV RX11 181 mX11_readSum 11 1 := ⟨mb_mX11_readSum, RX11, TX11, 46, rfl, by decide, z_tbm 1399 (by decide +kernel) rfl, iv_mX11_readSum, se_mX11_readSum⟩
theorem lX11_215 : z_MV RX11 215 mX11_readTerm 11 1 := ⟨mb_mX11_readTerm, RX11, TX11, 46, rfl, by decide, z_tbm 1403 (by decide +kernel) rfl, iv_mX11_readTerm, se_mX11_readTerm⟩
theorem lX11_218 : z_MV RX11 218 mX11_readPart 11 1 := ⟨mb_mX11_readPart, RX11, TX11, 46, rfl, by decide, z_tbm 1407 (by decide +kernel) rfl, iv_mX11_readPart, se_mX11_readPart⟩
theorem lX11_175 : z_MV RX11 175 mX11_faults 11 0 := ⟨mb_mX11_faults, RX11, TX11, 46, rfl, by decide, z_tbm 1411 (by decide +kernel) rfl, iv_mX11_faults, se_mX11_faults⟩
theorem lX11_185 : z_MV RX11 185 mX11_must 11 1 := ⟨mb_mX11_must, RX11, TX11, 46, rfl, by decide, z_tbm 1415 (by decide +kernel) rfl, iv_mX11_must, se_mX11_must⟩
theorem lX11_227 : z_MV RX11 227 mX11_leaf 11 0 := ⟨mb_mX11_leaf, RX11, TX11, 46, rfl, by decide, z_tbm 1419 (by decide +kernel) rfl, iv_mX11_leaf, se_mX11_leaf⟩
theorem lX11_191 : z_MV RX11 191 mX11_mustNumber 11 2 := ⟨mb_mX11_mustNumber, RX11, TX11, 46, rfl, by decide, z_tbm 1423 (by decide +kernel) rfl, iv_mX11_mustNumber, se_mX11_mustNumber⟩
theorem lX11_188 : z_MV RX11 188 mX11_readTest 11 1 := ⟨mb_mX11_readTest, RX11, TX11, 46, rfl, by decide, z_tbm 1427 (by decide +kernel) rfl, iv_mX11_readTest, se_mX11_readTest⟩
theorem lX11_205 : z_MV RX11 205 mX11_readBoth 11 1 := ⟨mb_mX11_readBoth, RX11, TX11, 46, rfl, by decide, z_tbm 1431 (by decide +kernel) rfl, iv_mX11_readBoth, se_mX11_readBoth⟩
theorem lX11_208 : z_MV RX11 208 mX11_readPlain 11 1 := ⟨mb_mX11_readPlain, RX11, TX11, 46, rfl, by decide, z_tbm 1435 (by decide +kernel) rfl, iv_mX11_readPlain, se_mX11_readPlain⟩
theorem lX11_202 : z_MV RX11 202 mX11_readClause 11 0 := ⟨mb_mX11_readClause, RX11, TX11, 46, rfl, by decide, z_tbm 1439 (by decide +kernel) rfl, iv_mX11_readClause, se_mX11_readClause⟩
theorem lX11_243 : z_MV RX11 243 mX11_lays 11 1 := ⟨mb_mX11_lays, RX11, TX11, 46, rfl, by decide, z_tbm 1443 (by decide +kernel) rfl, iv_mX11_lays, se_mX11_lays⟩
theorem lL_69 : z_MV RL 69 mX11_fault 11 0 := ⟨mb_mX11_fault, RX11, TX11, 46, rfl, by decide, z_tbm 1447 (by decide +kernel) rfl, iv_mX11_fault, se_mX11_fault⟩
theorem lL_77 : z_MV RL 77 mX11_force 11 1 := ⟨mb_mX11_force, RX11, TX11, 46, rfl, by decide, z_tbm 1451 (by decide +kernel) rfl, iv_mX11_force, se_mX11_force⟩
theorem lL_97 : z_MV RL 97 mX11_undo 11 0 := ⟨mb_mX11_undo, RX11, TX11, 46, rfl, by decide, z_tbm 1455 (by decide +kernel) rfl, iv_mX11_undo, se_mX11_undo⟩
theorem lL_81 : z_MV RL 81 mX11_hunt 11 2 := ⟨mb_mX11_hunt, RX11, TX11, 46, rfl, by decide, z_tbm 1459 (by decide +kernel) rfl, iv_mX11_hunt, se_mX11_hunt⟩
theorem lX11_347 : z_MV RX11 347 mX11_huntsKept 11 2 := ⟨mb_mX11_huntsKept, RX11, TX11, 46, rfl, by decide, z_tbm 1463 (by decide +kernel) rfl, iv_mX11_huntsKept, se_mX11_huntsKept⟩
theorem lX11_334 : z_MV RX11 334 mX11_canSail 11 0 := ⟨mb_mX11_canSail, RX11, TX11, 46, rfl, by decide, z_tbm 1467 (by decide +kernel) rfl, iv_mX11_canSail, se_mX11_canSail⟩
theorem lX11_337 : z_MV RX11 337 mX11_keeps 11 1 := ⟨mb_mX11_keeps, RX11, TX11, 46, rfl, by decide, z_tbm 1471 (by decide +kernel) rfl, iv_mX11_keeps, se_mX11_keeps⟩
theorem lX11_340 : z_MV RX11 340 mX11_hunts 11 2 := ⟨mb_mX11_hunts, RX11, TX11, 46, rfl, by decide, z_tbm 1475 (by decide +kernel) rfl, iv_mX11_hunts, se_mX11_hunts⟩
theorem lX11_322 : z_MV RX11 322 mX11_allEat 11 0 := ⟨mb_mX11_allEat, RX11, TX11, 46, rfl, by decide, z_tbm 1479 (by decide +kernel) rfl, iv_mX11_allEat, se_mX11_allEat⟩
theorem lX11_325 : z_MS RX11 325 mX11_lesser 2 := ⟨mb_mX11_lesser, z_tbm 1483 (by decide +kernel) rfl, is_mX11_lesser⟩
theorem lX11_328 : z_MV RX11 328 mX11_offNow 11 0 := ⟨mb_mX11_offNow, RX11, TX11, 46, rfl, by decide, z_tbm 1486 (by decide +kernel) rfl, iv_mX11_offNow, se_mX11_offNow⟩
theorem lX11_331 : z_MV RX11 331 mX11_goesOff 11 1 := ⟨mb_mX11_goesOff, RX11, TX11, 46, rfl, by decide, z_tbm 1490 (by decide +kernel) rfl, iv_mX11_goesOff, se_mX11_goesOff⟩
theorem lX11_316 : z_MS RX11 316 mX11_isIn 2 := ⟨mb_mX11_isIn, z_tbm 1494 (by decide +kernel) rfl, is_mX11_isIn⟩
theorem lX11_319 : z_MS RX11 319 mX11_ones 1 := ⟨mb_mX11_ones, z_tbm 1497 (by decide +kernel) rfl, is_mX11_ones⟩
theorem lX11_350 : z_MV RX11 350 mX11_goodOr 11 1 := ⟨mb_mX11_goodOr, RX11, TX11, 46, rfl, by decide, z_tbm 1500 (by decide +kernel) rfl, iv_mX11_goodOr, se_mX11_goodOr⟩
theorem lL_85 : z_MV RL 85 mX11_sell 11 1 := ⟨mb_mX11_sell, RX11, TX11, 46, rfl, by decide, z_tbm 1504 (by decide +kernel) rfl, iv_mX11_sell, se_mX11_sell⟩
theorem lX11_353 : z_MV RX11 353 mX11_sellsKept 11 1 := ⟨mb_mX11_sellsKept, RX11, TX11, 46, rfl, by decide, z_tbm 1508 (by decide +kernel) rfl, iv_mX11_sellsKept, se_mX11_sellsKept⟩
theorem lL_89 : z_MV RL 89 mX11_advance 11 2 := ⟨mb_mX11_advance, RX11, TX11, 46, rfl, by decide, z_tbm 1513 (by decide +kernel) rfl, iv_mX11_advance, se_mX11_advance⟩
theorem lX11_356 : z_MV RX11 356 mX11_advancesKept 11 2 := ⟨mb_mX11_advancesKept, RX11, TX11, 46, rfl, by decide, z_tbm 1517 (by decide +kernel) rfl, iv_mX11_advancesKept, se_mX11_advancesKept⟩
theorem lL_93 : z_MV RL 93 mX11_leave 11 1 := ⟨mb_mX11_leave, RX11, TX11, 46, rfl, by decide, z_tbm 1521 (by decide +kernel) rfl, iv_mX11_leave, se_mX11_leave⟩
theorem lX11_359 : z_MV RX11 359 mX11_leavesKept 11 1 := ⟨mb_mX11_leavesKept, RX11, TX11, 46, rfl, by decide, z_tbm 1525 (by decide +kernel) rfl, iv_mX11_leavesKept, se_mX11_leavesKept⟩
theorem lL_101 : z_MV RL 101 mX11_money 11 1 := ⟨mb_mX11_money, RX11, TX11, 46, rfl, by decide, z_tbm 1529 (by decide +kernel) rfl, iv_mX11_money, se_mX11_money⟩
theorem lL_106 : z_MV RL 106 mX11_parts 11 0 := ⟨mb_mX11_parts, RX11, TX11, 46, rfl, by decide, z_tbm 1533 (by decide +kernel) rfl, iv_mX11_parts, se_mX11_parts⟩
theorem lX11_370 : z_MV RX11 370 mX11_aboardNow 11 0 := ⟨mb_mX11_aboardNow, RX11, TX11, 46, rfl, by decide, z_tbm 1537 (by decide +kernel) rfl, iv_mX11_aboardNow, se_mX11_aboardNow⟩
theorem lX11_373 : z_MV RX11 373 mX11_laysOf 11 1 := ⟨mb_mX11_laysOf, RX11, TX11, 46, rfl, by decide, z_tbm 1541 (by decide +kernel) rfl, iv_mX11_laysOf, se_mX11_laysOf⟩
theorem lL_111 : z_MV RL 111 mX11_best 11 2 := ⟨mb_mX11_best, RX11, TX11, 46, rfl, by decide, z_tbm 1546 (by decide +kernel) rfl, iv_mX11_best, se_mX11_best⟩
theorem lX11_394 : z_MV RX11 394 mX11_laysCasks 11 0 := ⟨mb_mX11_laysCasks, RX11, TX11, 46, rfl, by decide, z_tbm 1551 (by decide +kernel) rfl, iv_mX11_laysCasks, se_mX11_laysCasks⟩
theorem lX11_381 : z_MV RX11 381 mX11_homeWorth 11 2 := ⟨mb_mX11_homeWorth, RX11, TX11, 46, rfl, by decide, z_tbm 1555 (by decide +kernel) rfl, iv_mX11_homeWorth, se_mX11_homeWorth⟩
theorem lX11_389 : z_MV RX11 389 mX11_choice 11 3 := ⟨mb_mX11_choice, RX11, TX11, 46, rfl, by decide, z_tbm 1560 (by decide +kernel) rfl, iv_mX11_choice, se_mX11_choice⟩
theorem lX11_385 : z_MV RX11 385 mX11_huntWorth 11 3 := ⟨mb_mX11_huntWorth, RX11, TX11, 46, rfl, by decide, z_tbm 1564 (by decide +kernel) rfl, iv_mX11_huntWorth, se_mX11_huntWorth⟩
theorem lX11_397 : z_MV RX11 397 mX11_bestWorth 11 3 := ⟨mb_mX11_bestWorth, RX11, TX11, 46, rfl, by decide, z_tbm 1569 (by decide +kernel) rfl, iv_mX11_bestWorth, se_mX11_bestWorth⟩
theorem lL_116 : z_MV RL 116 mX11_odds 11 3 := ⟨mb_mX11_odds, RX11, TX11, 46, rfl, by decide, z_tbm 1573 (by decide +kernel) rfl, iv_mX11_odds, se_mX11_odds⟩
theorem lX11_400 : z_MV RX11 400 mX11_spreadsPart 11 4 := ⟨mb_mX11_spreadsPart, RX11, TX11, 46, rfl, by decide, z_tbm 1577 (by decide +kernel) rfl, iv_mX11_spreadsPart, se_mX11_spreadsPart⟩
theorem lX11_403 : z_MV RX11 403 mX11_partsFrom 11 2 := ⟨mb_mX11_partsFrom, RX11, TX11, 46, rfl, by decide, z_tbm 1581 (by decide +kernel) rfl, iv_mX11_partsFrom, se_mX11_partsFrom⟩
theorem lL_120 : z_MV RL 120 mX11_left 11 1 := ⟨mb_mX11_left, RX11, TX11, 46, rfl, by decide, z_tbm 1585 (by decide +kernel) rfl, iv_mX11_left, se_mX11_left⟩
theorem lL_124 : z_MV RL 124 mX11_least 11 1 := ⟨mb_mX11_least, RX11, TX11, 46, rfl, by decide, z_tbm 1589 (by decide +kernel) rfl, iv_mX11_least, se_mX11_least⟩
theorem lL_128 : z_MV RL 128 mX11_crew 11 3 := ⟨mb_mX11_crew, RX11, TX11, 46, rfl, by decide, z_tbm 1593 (by decide +kernel) rfl, iv_mX11_crew, se_mX11_crew⟩
theorem lL_132 : z_MV RL 132 mX11_word 11 2 := ⟨mb_mX11_word, RX11, TX11, 46, rfl, by decide, z_tbm 1597 (by decide +kernel) rfl, iv_mX11_word, se_mX11_word⟩
theorem lL_136 : z_MV RL 136 mX11_forget 11 0 := ⟨mb_mX11_forget, RX11, TX11, 46, rfl, by decide, z_tbm 1601 (by decide +kernel) rfl, iv_mX11_forget, se_mX11_forget⟩
theorem lL_140 : z_MV RL 140 mX11_barrels 11 1 := ⟨mb_mX11_barrels, RX11, TX11, 46, rfl, by decide, z_tbm 1605 (by decide +kernel) rfl, iv_mX11_barrels, se_mX11_barrels⟩
theorem lX11_406 : z_MV RX11 406 mX11_canBe 11 1 := ⟨mb_mX11_canBe, RX11, TX11, 46, rfl, by decide, z_tbm 1609 (by decide +kernel) rfl, iv_mX11_canBe, se_mX11_canBe⟩
theorem lL_144 : z_MV RL 144 mX11_ask 11 1 := ⟨mb_mX11_ask, RX11, TX11, 46, rfl, by decide, z_tbm 1613 (by decide +kernel) rfl, iv_mX11_ask, se_mX11_ask⟩
theorem lX11_409 : z_MV RX11 409 mX11_barrels 11 1 := ⟨mb_mX11_barrels, RX11, TX11, 46, rfl, by decide, z_tbm 1617 (by decide +kernel) rfl, iv_mX11_barrels, se_mX11_barrels⟩
theorem lX11_413 : z_MV RX11 413 mX11_mostAlike 11 1 := ⟨mb_mX11_mostAlike, RX11, TX11, 46, rfl, by decide, z_tbm 1619 (by decide +kernel) rfl, iv_mX11_mostAlike, se_mX11_mostAlike⟩
theorem lL_73 : z_MV RL 73 mX11_stopped 11 0 := ⟨mb_mX11_stopped, RX11, TX11, 46, rfl, by decide, z_tbm 1623 (by decide +kernel) rfl, iv_mX11_stopped, se_mX11_stopped⟩
theorem lL_65 : z_MV RL 65 mX11_orders 11 0 := ⟨mb_mX11_orders, RX11, TX11, 46, rfl, by decide, z_tbm 1627 (by decide +kernel) rfl, iv_mX11_orders, se_mX11_orders⟩
theorem lX11_416 : z_MV RX11 416 mX11_laysAside 11 1 := ⟨mb_mX11_laysAside, RX11, TX11, 46, rfl, by decide, z_tbm 1631 (by decide +kernel) rfl, iv_mX11_laysAside, se_mX11_laysAside⟩
theorem lX11_422 : z_MV RX11 422 mX11_runs 11 1 := ⟨mb_mX11_runs, RX11, TX11, 46, rfl, by decide, z_tbm 1635 (by decide +kernel) rfl, iv_mX11_runs, se_mX11_runs⟩
theorem lX11_444 : z_MV RX11 444 mX11_goesAlong 11 2 := ⟨mb_mX11_goesAlong, RX11, TX11, 46, rfl, by decide, z_tbm 1639 (by decide +kernel) rfl, iv_mX11_goesAlong, se_mX11_goesAlong⟩
theorem lX11_448 : z_MV RX11 448 mX11_obeys 11 0 := ⟨mb_mX11_obeys, RX11, TX11, 46, rfl, by decide, z_tbm 1643 (by decide +kernel) rfl, iv_mX11_obeys, se_mX11_obeys⟩
theorem lX11_440 : z_MS RX11 440 mX11_small 1 := ⟨mb_mX11_small, z_tbm 1647 (by decide +kernel) rfl, is_mX11_small⟩
theorem lX11_425 : z_MV RX11 425 mX11_takesBack 11 1 := ⟨mb_mX11_takesBack, RX11, TX11, 46, rfl, by decide, z_tbm 1650 (by decide +kernel) rfl, iv_mX11_takesBack, se_mX11_takesBack⟩
theorem lL_148 : z_MV RL 148 mX11_years 11 2 := ⟨mb_mX11_years, RX11, TX11, 46, rfl, by decide, z_tbm 1654 (by decide +kernel) rfl, iv_mX11_years, se_mX11_years⟩
theorem lX11_463 : z_MV RX11 463 mX11_draws 11 1 := ⟨mb_mX11_draws, RX11, TX11, 46, rfl, by decide, z_tbm 1658 (by decide +kernel) rfl, iv_mX11_draws, se_mX11_draws⟩
theorem lX11_466 : z_MV RX11 466 mX11_whalesBy 11 2 := ⟨mb_mX11_whalesBy, RX11, TX11, 46, rfl, by decide, z_tbm 1665 (by decide +kernel) rfl, iv_mX11_whalesBy, se_mX11_whalesBy⟩
theorem lL_152 : z_MV RL 152 mX11_drawn 11 2 := ⟨mb_mX11_drawn, RX11, TX11, 46, rfl, by decide, z_tbm 1669 (by decide +kernel) rfl, iv_mX11_drawn, se_mX11_drawn⟩
theorem lL_164 : z_MV RL 164 mX11_count 11 1 := ⟨mb_mX11_count, RX11, TX11, 46, rfl, by decide, z_tbm 1673 (by decide +kernel) rfl, iv_mX11_count, se_mX11_count⟩
theorem lL_168 : z_MV RL 168 mX11_status 11 0 := ⟨mb_mX11_status, RX11, TX11, 46, rfl, by decide, z_tbm 1677 (by decide +kernel) rfl, iv_mX11_status, se_mX11_status⟩
theorem lX10_9 : z_MI RX10 9 mX7_init 0 := ⟨mb_mX7_init, Or.inr ⟨"WhaleLays", z_nem 30 (by decide +kernel) rfl⟩, iv_mX7_init, rfl, rfl⟩
theorem lX10_25 : z_MI RX10 25 mX2_init 0 := ⟨mb_mX2_init, Or.inr ⟨"WhaleLays", z_nem 146 (by decide +kernel) rfl⟩, iv_mX2_init, rfl, rfl⟩
theorem lX10_35 : z_MI RX10 35 mX8_init 0 := ⟨mb_mX8_init, Or.inr ⟨"WhaleLays", z_nem 166 (by decide +kernel) rfl⟩, iv_mX8_init, rfl, rfl⟩
theorem lX10_42 : z_MI RX10 42 mX6_init 0 := ⟨mb_mX6_init, Or.inr ⟨"WhaleLays", z_nem 180 (by decide +kernel) rfl⟩, iv_mX6_init, rfl, rfl⟩
theorem lX10_49 : z_MI RX10 49 mX1_init 0 := ⟨mb_mX1_init, Or.inr ⟨"WhaleLays", z_nem 242 (by decide +kernel) rfl⟩, iv_mX1_init, rfl, rfl⟩
theorem lX1_11 : z_MI RX1 11 mX3_init 0 := ⟨mb_mX3_init, Or.inr ⟨"WhaleLays", z_nem 248 (by decide +kernel) rfl⟩, iv_mX3_init, rfl, rfl⟩
theorem lX0_11 : z_MI RX0 11 mX3_init 0 := ⟨mb_mX3_init, Or.inr ⟨"WhaleLays", z_nem 283 (by decide +kernel) rfl⟩, iv_mX3_init, rfl, rfl⟩
theorem w_nat : Cond.native arraycopyName ∈ z_tb := z_tbm 737 (by decide +kernel) rfl
theorem w_natS : Cond.static arraycopyName ∈ z_tb := z_tbm 736 (by decide +kernel) rfl
theorem w_natI : Cond.initialized "java/lang/System" ∈ z_tb := z_tbm 19 (by decide +kernel) rfl
theorem w_oi : Cond.instanceMethod Lib.objectInit ∈ z_tb := z_tbm 26 (by decide +kernel) rfl
theorem w_oc : Cond.code Lib.objectInit ⟨#[0xb1]⟩ 1 none ∈ z_tb := z_tbk1 27 rfl rfl
