theorem z_up_at {M : zMem} {a k j : Nat} {x : Int} : z_up M a k x a j = if j = k then x else M a j := by simp [z_up]
theorem z_tmodn {x y : Int} (h : 0 ≤ x) : x.tmod y = x % y := Int.tmod_eq_emod_of_nonneg h

set_option maxRecDepth 100000 in
set_option maxHeartbeats 4000000 in
theorem c_X9_clear {d sz : Nat} {S : zSh} {M : zMem} {t nh nc : Nat} (h : TX S sz t nh nc) (hn : nh ≤ 400 ∧ nc ≤ 400)  : zX d 0 0 mX9_clear [zn t] sz S M (zU sz S (fun M' => M' = z_up (z_up M t 0 0) t 1 0)) := by
  refine zX_of pl_RX9 [some (zn t)] 0 rfl rfl ?_
  refine x_aload_n 1 rfl dX9_clear_0 0 rfl rfl ?_
  refine x_iconst 2 rfl dX9_clear_1 (by decide) ?_
  refine x_puti 5 rfl fX9_18 dX9_clear_2 (txl0 h) (txs0 h) (by decide) ?_
  refine x_aload_n 6 rfl dX9_clear_5 0 rfl rfl ?_
  refine x_iconst 7 rfl dX9_clear_6 (by decide) ?_
  refine x_puti 10 rfl fX9_22 dX9_clear_7 (txl0 h) (txs0 h) (by decide) ?_
  refine x_retu dX9_clear_10 rfl ?_
  rfl

set_option maxRecDepth 100000 in
set_option maxHeartbeats 4000000 in
theorem c_X9_get {d sz : Nat} {S : zSh} {M : zMem} {t nh nc : Nat} (h : TX S sz t nh nc) (hn : nh ≤ 400 ∧ nc ≤ 400) {c w : Int} (hc : -1 ≤ c ∧ c ≤ 100) (hw : 0 ≤ w ∧ w < 5) : zX d 0 0 mX9_get [zn t, zi c, zi w] sz S M (zI sz S (fun r M' => r = (if 0 ≤ c * 5 + w ∧ c * 5 + w < nh then M (t + 1) (c * 5 + w).toNat else -1) ∧ M' = M)) := by
  refine zX_of pl_RX9 [some (zn t), some (zi c), some (zi w), none] 1 rfl rfl ?_
  refine x_iload_n 1 rfl dX9_get_0 1 rfl rfl ?_
  refine x_iconst 2 rfl dX9_get_1 (by decide) ?_
  refine y_imul 3 rfl dX9_get_2 (by omega) ?_
  refine x_iload_n 4 rfl dX9_get_3 2 rfl rfl ?_
  refine y_iadd 5 rfl dX9_get_4 (by omega) ?_
  refine x_istore_n 6 rfl dX9_get_5 rfl (ls' := [_, _, _, _]) rfl (by decide) ?_
  refine x_iload_n 7 rfl dX9_get_6 3 rfl rfl ?_
  refine x_if_lt 10 28 rfl dX9_get_7 (by decide) (fun c7 => ?_) (fun c7 => ?_)
  · refine x_iconst 29 rfl dX9_get_28 (by decide) ?_
    refine x_reti dX9_get_29 rfl ?_
    refine ⟨?_, rfl⟩
    split <;> first | rfl | (exfalso; omega)
  · refine x_iload_n 11 rfl dX9_get_10 3 rfl rfl ?_
    refine x_aload_n 12 rfl dX9_get_11 0 rfl rfl ?_
    refine x_getr 15 rfl fX9_11 dX9_get_12 (txl0 h) (txs0 h) (by decide) (t + 1) rfl ?_
    refine x_alen (t := 0) 16 rfl dX9_get_15 (txl1 h) (txs1 h) (Or.inl rfl) (by omega) ?_
    refine x_icmp_ge 19 28 rfl dX9_get_16 (by decide) (fun c16 => ?_) (fun c16 => ?_)
    · refine x_iconst 29 rfl dX9_get_28 (by decide) ?_
      refine x_reti dX9_get_29 rfl ?_
      refine ⟨?_, rfl⟩
      split <;> first | rfl | (exfalso; omega)
    · refine x_aload_n 20 rfl dX9_get_19 0 rfl rfl ?_
      refine x_getr 23 rfl fX9_11 dX9_get_20 (txl0 h) (txs0 h) (by decide) (t + 1) rfl ?_
      refine x_iload_n 24 rfl dX9_get_23 3 rfl rfl ?_
      refine x_iald 25 rfl dX9_get_24 (txl1 h) (txs1 h) (by omega) (by omega) ?_
      refine x_goto 29 dX9_get_25 (by decide) ?_
      refine x_reti dX9_get_29 rfl ?_
      refine ⟨?_, rfl⟩
      split <;> first | rfl | (exfalso; omega)

set_option maxRecDepth 100000 in
set_option maxHeartbeats 4000000 in
theorem c_X9_set {d sz : Nat} {S : zSh} {M : zMem} {t nh nc : Nat} (h : TX S sz t nh nc) (hn : nh ≤ 400 ∧ nc ≤ 400) {w v : Int} (hc : 1 ≤ M t 0 ∧ M t 0 * 5 ≤ nh) (hw : 0 ≤ w ∧ w < 5) : zX d 0 0 mX9_set [zn t, zi w, zi v] sz S M (zU sz S (fun M' => M' = z_up M (t + 1) ((M t 0 - 1) * 5 + w).toNat v)) := by
  refine zX_of pl_RX9 [some (zn t), some (zi w), some (zi v), none] 1 rfl rfl ?_
  refine x_aload_n 1 rfl dX9_set_0 0 rfl rfl ?_
  refine x_geti 4 rfl fX9_18 dX9_set_1 (txl0 h) (txs0 h) (by decide) ?_
  refine x_iconst 5 rfl dX9_set_4 (by decide) ?_
  refine y_isub 6 rfl dX9_set_5 (by omega) ?_
  refine x_iconst 7 rfl dX9_set_6 (by decide) ?_
  refine y_imul 8 rfl dX9_set_7 (by omega) ?_
  refine x_iload_n 9 rfl dX9_set_8 1 rfl rfl ?_
  refine y_iadd 10 rfl dX9_set_9 (by omega) ?_
  refine x_istore_n 11 rfl dX9_set_10 rfl (ls' := [_, _, _, _]) rfl (by decide) ?_
  refine x_iload_n 12 rfl dX9_set_11 3 rfl rfl ?_
  refine x_if_lt 15 31 rfl dX9_set_12 (by decide) (fun c12 => ?_) (fun c12 => ?_)
  · refine x_retu dX9_set_31 rfl ?_
    first | rfl | (exfalso; omega)
  · refine x_iload_n 16 rfl dX9_set_15 3 rfl rfl ?_
    refine x_aload_n 17 rfl dX9_set_16 0 rfl rfl ?_
    refine x_getr 20 rfl fX9_11 dX9_set_17 (txl0 h) (txs0 h) (by decide) (t + 1) rfl ?_
    refine x_alen (t := 0) 21 rfl dX9_set_20 (txl1 h) (txs1 h) (Or.inl rfl) (by omega) ?_
    refine x_icmp_ge 24 31 rfl dX9_set_21 (by decide) (fun c21 => ?_) (fun c21 => ?_)
    · refine x_retu dX9_set_31 rfl ?_
      first | rfl | (exfalso; omega)
    · refine x_aload_n 25 rfl dX9_set_24 0 rfl rfl ?_
      refine x_getr 28 rfl fX9_11 dX9_set_25 (txl0 h) (txs0 h) (by decide) (t + 1) rfl ?_
      refine x_iload_n 29 rfl dX9_set_28 3 rfl rfl ?_
      refine x_iload_n 30 rfl dX9_set_29 2 rfl rfl ?_
      refine x_iast 31 rfl dX9_set_30 (txl1 h) (txs1 h) (by omega) (by omega) ?_
      refine x_retu dX9_set_31 rfl ?_
      first | rfl | (exfalso; omega)

set_option maxRecDepth 100000 in
set_option maxHeartbeats 4000000 in
theorem c_X9_emit {d sz : Nat} {S : zSh} {M : zMem} {t nh nc : Nat} (h : TX S sz t nh nc) (hn : nh ≤ 400 ∧ nc ≤ 400) {p w : Int} (hu : 0 ≤ M t 1 ∧ M t 1 < nc) (hp : 0 ≤ p ∧ p < 16) (hw : 0 ≤ w ∧ w ≤ 2000) : zX d 0 0 mX9_emit [zn t, zi p, zi w] sz S M (zU sz S (fun M' => M' = z_up (z_up M (t + 2) (M t 1).toNat (p + 16 * w)) t 1 (M t 1 + 1))) := by
  refine zX_of pl_RX9 [some (zn t), some (zi p), some (zi w)] 0 rfl rfl ?_
  refine x_aload_n 1 rfl dX9_emit_0 0 rfl rfl ?_
  refine x_geti 4 rfl fX9_22 dX9_emit_1 (txl0 h) (txs0 h) (by decide) ?_
  refine x_aload_n 5 rfl dX9_emit_4 0 rfl rfl ?_
  refine x_getr 8 rfl fX9_15 dX9_emit_5 (txl0 h) (txs0 h) (by decide) (t + 2) rfl ?_
  refine x_alen (t := 0) 9 rfl dX9_emit_8 (txl2 h) (txs2 h) (Or.inl rfl) (by omega) ?_
  refine x_icmp_ge 12 37 rfl dX9_emit_9 (by decide) (fun c9 => ?_) (fun c9 => ?_)
  · refine x_retu dX9_emit_37 rfl ?_
    first | rfl | (exfalso; omega)
  · refine x_aload_n 13 rfl dX9_emit_12 0 rfl rfl ?_
    refine x_getr 16 rfl fX9_15 dX9_emit_13 (txl0 h) (txs0 h) (by decide) (t + 2) rfl ?_
    refine x_aload_n 17 rfl dX9_emit_16 0 rfl rfl ?_
    refine x_geti 20 rfl fX9_22 dX9_emit_17 (txl0 h) (txs0 h) (by decide) ?_
    refine x_iload_n 21 rfl dX9_emit_20 1 rfl rfl ?_
    refine x_bipush 23 rfl dX9_emit_21 (by decide) ?_
    refine x_iload_n 24 rfl dX9_emit_23 2 rfl rfl ?_
    refine y_imul 25 rfl dX9_emit_24 (by omega) ?_
    refine y_iadd 26 rfl dX9_emit_25 (by omega) ?_
    refine x_iast 27 rfl dX9_emit_26 (txl2 h) (txs2 h) (by omega) (by omega) ?_
    refine x_aload_n 28 rfl dX9_emit_27 0 rfl rfl ?_
    refine x_dupr 29 rfl dX9_emit_28 ?_
    refine x_geti 32 rfl fX9_22 dX9_emit_29 (txl0 h) (txs0 h) (by decide) ?_
    try simp (disch := omega) only [z_up_ne, z_up_nk, z_up_eq, z_mup_ne, z_mup_eq, Int.reduceToNat]
    refine x_iconst 33 rfl dX9_emit_32 (by decide) ?_
    refine y_iadd 34 rfl dX9_emit_33 (by omega) ?_
    refine x_puti 37 rfl fX9_22 dX9_emit_34 (txl0 h) (txs0 h) (by decide) ?_
    refine x_retu dX9_emit_37 rfl ?_
    first | rfl | (exfalso; omega)

set_option maxRecDepth 100000 in
set_option maxHeartbeats 4000000 in
theorem c_X9_aim {d sz : Nat} {S : zSh} {M : zMem} {t nh nc : Nat} (h : TX S sz t nh nc) (hn : nh ≤ 400 ∧ nc ≤ 400) {q p : Int} (hu : 0 ≤ q ∧ q < M t 1 ∧ M t 1 ≤ nc) (hp : 0 ≤ p ∧ p < 16) : zX d 0 0 mX9_aim [zn t, zi q, zi p] sz S M (zU sz S (fun M' => M' = z_up M (t + 2) q.toNat (p + 16 * M t 1))) := by
  refine zX_of pl_RX9 [some (zn t), some (zi q), some (zi p)] 0 rfl rfl ?_
  refine x_iload_n 1 rfl dX9_aim_0 1 rfl rfl ?_
  refine x_if_lt 4 27 rfl dX9_aim_1 (by decide) (fun c1 => ?_) (fun c1 => ?_)
  · refine x_retu dX9_aim_27 rfl ?_
    first | rfl | (exfalso; omega)
  · refine x_iload_n 5 rfl dX9_aim_4 1 rfl rfl ?_
    refine x_aload_n 6 rfl dX9_aim_5 0 rfl rfl ?_
    refine x_geti 9 rfl fX9_22 dX9_aim_6 (txl0 h) (txs0 h) (by decide) ?_
    refine x_icmp_ge 12 27 rfl dX9_aim_9 (by decide) (fun c9 => ?_) (fun c9 => ?_)
    · refine x_retu dX9_aim_27 rfl ?_
      first | rfl | (exfalso; omega)
    · refine x_aload_n 13 rfl dX9_aim_12 0 rfl rfl ?_
      refine x_getr 16 rfl fX9_15 dX9_aim_13 (txl0 h) (txs0 h) (by decide) (t + 2) rfl ?_
      refine x_iload_n 17 rfl dX9_aim_16 1 rfl rfl ?_
      refine x_iload_n 18 rfl dX9_aim_17 2 rfl rfl ?_
      refine x_bipush 20 rfl dX9_aim_18 (by decide) ?_
      refine x_aload_n 21 rfl dX9_aim_20 0 rfl rfl ?_
      refine x_geti 24 rfl fX9_22 dX9_aim_21 (txl0 h) (txs0 h) (by decide) ?_
      refine y_imul 25 rfl dX9_aim_24 (by omega) ?_
      refine y_iadd 26 rfl dX9_aim_25 (by omega) ?_
      refine x_iast 27 rfl dX9_aim_26 (txl2 h) (txs2 h) (by omega) (by omega) ?_
      refine x_retu dX9_aim_27 rfl ?_
      first | rfl | (exfalso; omega)

set_option maxRecDepth 100000 in
set_option maxHeartbeats 4000000 in
theorem c_X9_open {d sz : Nat} {S : zSh} {M : zMem} {t nh nc : Nat} (h : TX S sz t nh nc) (hn : nh ≤ 400 ∧ nc ≤ 400) {x : Int} (hc : 0 ≤ M t 0 ∧ (M t 0 + 1) * 5 ≤ nh) : zX (d + 1) 0 0 mX9_open [zn t, zi x] sz S M (zU sz S (fun M' => M' = z_up (z_up (z_up (z_up (z_up (z_up M t 0 (M t 0 + 1)) (t + 1) (M t 0 * 5).toNat x) (t + 1) (M t 0 * 5 + 1).toNat (-1)) (t + 1) (M t 0 * 5 + 2).toNat (-1)) (t + 1) (M t 0 * 5 + 3).toNat (-1)) (t + 1) (M t 0 * 5 + 4).toNat 1)) := by
  refine zX_of pl_RX9 [some (zn t), some (zi x)] 0 rfl rfl ?_
  refine x_aload_n 1 rfl dX9_open_0 0 rfl rfl ?_
  refine x_geti 4 rfl fX9_18 dX9_open_1 (txl0 h) (txs0 h) (by decide) ?_
  refine x_iconst 5 rfl dX9_open_4 (by decide) ?_
  refine y_iadd 6 rfl dX9_open_5 (by omega) ?_
  refine x_iconst 7 rfl dX9_open_6 (by decide) ?_
  refine y_imul 8 rfl dX9_open_7 (by omega) ?_
  refine x_aload_n 9 rfl dX9_open_8 0 rfl rfl ?_
  refine x_getr 12 rfl fX9_11 dX9_open_9 (txl0 h) (txs0 h) (by decide) (t + 1) rfl ?_
  refine x_alen (t := 0) 13 rfl dX9_open_12 (txl1 h) (txs1 h) (Or.inl rfl) (by omega) ?_
  refine x_icmp_le 16 17 rfl dX9_open_13 (by decide) (fun c13 => ?_) (fun c13 => ?_)
  · refine x_aload_n 18 rfl dX9_open_17 0 rfl rfl ?_
    refine x_dupr 19 rfl dX9_open_18 ?_
    refine x_geti 22 rfl fX9_18 dX9_open_19 (txl0 h) (txs0 h) (by decide) ?_
    refine x_iconst 23 rfl dX9_open_22 (by decide) ?_
    refine y_iadd 24 rfl dX9_open_23 (by omega) ?_
    refine x_puti 27 rfl fX9_18 dX9_open_24 (txl0 h) (txs0 h) (by decide) ?_
    refine x_aload_n 28 rfl dX9_open_27 0 rfl rfl ?_
    refine x_iconst 29 rfl dX9_open_28 (by decide) ?_
    refine x_iload_n 30 rfl dX9_open_29 1 rfl rfl ?_
    refine x_cVu 33 rfl lX9_34 dX9_open_30 (txl0 h) (txs0 h) (c_X9_set h hn (by simp (disch := omega) only [z_up_ne, z_up_nk, z_up_eq, z_mup_ne, z_mup_eq, Int.reduceToNat]; omega) (by decide)) rfl rfl (Nat.le_of_ble_eq_true rfl) (fun M30 h30 => ?_)
    subst h30
    refine x_aload_n 34 rfl dX9_open_33 0 rfl rfl ?_
    refine x_iconst 35 rfl dX9_open_34 (by decide) ?_
    refine x_iconst 36 rfl dX9_open_35 (by decide) ?_
    refine x_cVu 39 rfl lX9_34 dX9_open_36 (txl0 h) (txs0 h) (c_X9_set h hn (by simp (disch := omega) only [z_up_ne, z_up_nk, z_up_eq, z_mup_ne, z_mup_eq, Int.reduceToNat]; omega) (by decide)) rfl rfl (Nat.le_of_ble_eq_true rfl) (fun M36 h36 => ?_)
    subst h36
    refine x_aload_n 40 rfl dX9_open_39 0 rfl rfl ?_
    refine x_iconst 41 rfl dX9_open_40 (by decide) ?_
    refine x_iconst 42 rfl dX9_open_41 (by decide) ?_
    refine x_cVu 45 rfl lX9_34 dX9_open_42 (txl0 h) (txs0 h) (c_X9_set h hn (by simp (disch := omega) only [z_up_ne, z_up_nk, z_up_eq, z_mup_ne, z_mup_eq, Int.reduceToNat]; omega) (by decide)) rfl rfl (Nat.le_of_ble_eq_true rfl) (fun M42 h42 => ?_)
    subst h42
    refine x_aload_n 46 rfl dX9_open_45 0 rfl rfl ?_
    refine x_iconst 47 rfl dX9_open_46 (by decide) ?_
    refine x_iconst 48 rfl dX9_open_47 (by decide) ?_
    refine x_cVu 51 rfl lX9_34 dX9_open_48 (txl0 h) (txs0 h) (c_X9_set h hn (by simp (disch := omega) only [z_up_ne, z_up_nk, z_up_eq, z_mup_ne, z_mup_eq, Int.reduceToNat]; omega) (by decide)) rfl rfl (Nat.le_of_ble_eq_true rfl) (fun M48 h48 => ?_)
    subst h48
    refine x_aload_n 52 rfl dX9_open_51 0 rfl rfl ?_
    refine x_iconst 53 rfl dX9_open_52 (by decide) ?_
    refine x_iconst 54 rfl dX9_open_53 (by decide) ?_
    refine x_cVu 57 rfl lX9_34 dX9_open_54 (txl0 h) (txs0 h) (c_X9_set h hn (by simp (disch := omega) only [z_up_ne, z_up_nk, z_up_eq, z_mup_ne, z_mup_eq, Int.reduceToNat]; omega) (by decide)) rfl rfl (Nat.le_of_ble_eq_true rfl) (fun M54 h54 => ?_)
    subst h54
    refine x_retu dX9_open_57 rfl ?_
    first | (exfalso; omega) | (simp (disch := omega) only [z_up_ne, z_up_nk, z_up_eq, z_mup_ne, z_mup_eq, Int.reduceToNat]; simp only [show M t 0 + 1 - 1 = M t 0 by omega, Int.add_zero])
  · refine x_retu dX9_open_16 rfl ?_
    first | (exfalso; omega) | (simp (disch := omega) only [z_up_ne, z_up_nk, z_up_eq, z_mup_ne, z_mup_eq, Int.reduceToNat]; simp only [show M t 0 + 1 - 1 = M t 0 by omega, Int.add_zero])

set_option maxRecDepth 100000 in
set_option maxHeartbeats 4000000 in
theorem c_X8_byteAt {d sz : Nat} {S : zSh} {M : zMem} (hL : LY S sz) {x : Int} : zX d 0 0 mX8_byteAt [zn 30, zi x] sz S M (zI sz S (fun r M' => r = (if 0 ≤ x ∧ x < 400 then M 31 x.toNat else 0) ∧ M' = M)) := by
  refine zX_of pl_RX8 [some (zn 30), some (zi x)] 0 rfl rfl ?_
  refine x_iload_n 1 rfl dX8_byteAt_0 1 rfl rfl ?_
  refine x_if_lt 4 20 rfl dX8_byteAt_1 (by decide) (fun c1 => ?_) (fun c1 => ?_)
  · refine x_iconst 21 rfl dX8_byteAt_20 (by decide) ?_
    refine x_reti dX8_byteAt_21 rfl ?_
    refine ⟨?_, rfl⟩
    split <;> first | rfl | (exfalso; omega)
  · refine x_iload_n 5 rfl dX8_byteAt_4 1 rfl rfl ?_
    refine x_sipush 8 rfl dX8_byteAt_5 (by decide) ?_
    refine x_icmp_ge 11 20 rfl dX8_byteAt_8 (by decide) (fun c8 => ?_) (fun c8 => ?_)
    · refine x_iconst 21 rfl dX8_byteAt_20 (by decide) ?_
      refine x_reti dX8_byteAt_21 rfl ?_
      refine ⟨?_, rfl⟩
      split <;> first | rfl | (exfalso; omega)
    · refine x_aload_n 12 rfl dX8_byteAt_11 0 rfl rfl ?_
      refine x_getr 15 rfl fX8_9 dX8_byteAt_12 (lyl30 hL) (lys30 hL) (by decide) (31) rfl ?_
      refine x_iload_n 16 rfl dX8_byteAt_15 1 rfl rfl ?_
      refine x_iald 17 rfl dX8_byteAt_16 (lyl31 hL) (lys31 hL) (by omega) (by omega) ?_
      refine x_goto 21 dX8_byteAt_17 (by decide) ?_
      refine x_reti dX8_byteAt_21 rfl ?_
      refine ⟨?_, rfl⟩
      split <;> first | rfl | (exfalso; omega)

set_option maxRecDepth 100000 in
set_option maxHeartbeats 4000000 in
theorem c_X8_taken {d sz : Nat} {S : zSh} {M : zMem} (hL : LY S sz)  : zX d 0 0 mX8_taken [zn 30] sz S M (zI sz S (fun r M' => r = M 30 1 ∧ M' = z_up M 30 1 0)) := by
  refine zX_of pl_RX8 [some (zn 30), none] 1 rfl rfl ?_
  refine x_aload_n 1 rfl dX8_taken_0 0 rfl rfl ?_
  refine x_geti 4 rfl fX8_15 dX8_taken_1 (lyl30 hL) (lys30 hL) (by decide) ?_
  refine x_istore_n 5 rfl dX8_taken_4 rfl (ls' := [_, _]) rfl (by decide) ?_
  refine x_aload_n 6 rfl dX8_taken_5 0 rfl rfl ?_
  refine x_iconst 7 rfl dX8_taken_6 (by decide) ?_
  refine x_puti 10 rfl fX8_15 dX8_taken_7 (lyl30 hL) (lys30 hL) (by decide) ?_
  refine x_iload_n 11 rfl dX8_taken_10 1 rfl rfl ?_
  refine x_reti dX8_taken_11 rfl ?_
  exact ⟨rfl, rfl⟩

def zbyte (x : Int) (i : Nat) : Int := zand (zshr x (24 - 8 * (i : Int))) 255
def zput (f : Nat → Int) (n : Nat) (x : Int) : Nat → Int := fun j => if n ≤ j ∧ j < n + 4 then zbyte x (j - n) else f j

set_option maxRecDepth 100000 in
set_option maxHeartbeats 4000000 in
theorem c_X8_put {d sz : Nat} {S : zSh} {M : zMem} (hL : LY S sz) {x : Int} (hn : 0 ≤ M 30 1 ∧ M 30 1 + 4 ≤ 400) : zX d 0 0 mX8_put [zn 30, zi x] sz S M (zU sz S (fun M' => M' = z_up (z_mup M 31 (zput (M 31) (M 30 1).toNat x)) 30 1 (M 30 1 + 4))) := by
  have loop : ∀ (q i : Nat) (N : zMem), q + i = 4 → N 30 1 = M 30 1 + i → (∀ u, u ≠ 30 → u ≠ 31 → N u = M u) → (∀ j, j ≠ 1 → N 30 j = M 30 j) → (∀ j, N 31 j = if (M 30 1).toNat ≤ j ∧ j < (M 30 1).toNat + i then zbyte x (j - (M 30 1).toNat) else M 31 j) → zW mX8_put d 0 0 [] (zU sz S (fun M' => M' = z_up (z_mup M 31 (zput (M 31) (M 30 1).toNat x)) 30 1 (M 30 1 + 4))) 3 [some (zn 30), some (zi x), some (zi (24 - 8 * (i : Int)))] [] sz S N := by
    intro q
    induction q with
    | zero =>
      intro i N hq h1 h2 h3 h4
      have hi : i = 4 := by omega
      subst hi
      refine x_iload_n 4 rfl dX8_put_3 2 rfl rfl ?_
      refine x_if_lt 7 49 rfl dX8_put_4 (by decide) (fun c4 => ?_) (fun c4 => ?_)
      · refine x_retu dX8_put_49 rfl ?_
        first
          | (exfalso; omega)
          | funext u j
            by_cases u1 : u = 30
            · subst u1
              by_cases j1 : j = 1
              · subst j1; rw [h1, z_up_eq]; rfl
              · rw [h3 j j1, z_up_nk j1, z_mup_ne (by decide)]
            · rw [z_up_ne u1]
              by_cases u2 : u = 31
              · subst u2; rw [h4 j, z_mup_eq]; rfl
              · rw [h2 u u1 u2, z_mup_ne u2]
      · refine x_aload_n 8 rfl dX8_put_7 0 rfl rfl ?_
        refine x_geti 11 rfl fX8_15 dX8_put_8 (lyl30 hL) (lys30 hL) (by decide) ?_
        refine x_sipush 14 rfl dX8_put_11 (by decide) ?_
        refine x_icmp_ge 17 49 rfl dX8_put_14 (by decide) (fun c14 => ?_) (fun c14 => ?_)
        · refine x_retu dX8_put_49 rfl ?_
          first
            | (exfalso; omega)
            | funext u j
              by_cases u1 : u = 30
              · subst u1
                by_cases j1 : j = 1
                · subst j1; rw [h1, z_up_eq]; rfl
                · rw [h3 j j1, z_up_nk j1, z_mup_ne (by decide)]
              · rw [z_up_ne u1]
                by_cases u2 : u = 31
                · subst u2; rw [h4 j, z_mup_eq]; rfl
                · rw [h2 u u1 u2, z_mup_ne u2]
        · refine x_aload_n 18 rfl dX8_put_17 0 rfl rfl ?_
          refine x_getr 21 rfl fX8_9 dX8_put_18 (lyl30 hL) (lys30 hL) (by decide) (31) rfl ?_
          refine x_aload_n 22 rfl dX8_put_21 0 rfl rfl ?_
          refine x_geti 25 rfl fX8_15 dX8_put_22 (lyl30 hL) (lys30 hL) (by decide) ?_
          refine x_iload_n 26 rfl dX8_put_25 1 rfl rfl ?_
          refine x_iload_n 27 rfl dX8_put_26 2 rfl rfl ?_
          refine x_ishr 28 rfl dX8_put_27 ?_
          refine x_sipush 31 rfl dX8_put_28 (by decide) ?_
          refine x_iand 32 rfl dX8_put_31 ?_
          refine x_iast 33 rfl dX8_put_32 (lyl31 hL) (lys31 hL) (by omega) (by omega) ?_
          refine x_aload_n 34 rfl dX8_put_33 0 rfl rfl ?_
          refine x_dupr 35 rfl dX8_put_34 ?_
          refine x_geti 38 rfl fX8_15 dX8_put_35 (lyl30 hL) (lys30 hL) (by decide) ?_
          try simp (disch := omega) only [z_up_ne, z_up_nk, z_up_eq, z_mup_ne, z_mup_eq, Int.reduceToNat]
          refine x_iconst 39 rfl dX8_put_38 (by decide) ?_
          refine y_iadd 40 rfl dX8_put_39 (by omega) ?_
          refine x_puti 43 rfl fX8_15 dX8_put_40 (lyl30 hL) (lys30 hL) (by decide) ?_
          refine y_iinc 46 rfl dX8_put_43 rfl (by decide) (by omega) (ls' := [_, _, _]) rfl (by decide) ?_
          refine x_goto 3 dX8_put_46 (by decide) ?_
          first
            | (exfalso; omega)
            | refine z_locs (ls' := [some (zn 30), some (zi x), some (zi (24 - 8 * ((i + 1 : Nat) : Int)))]) (congrArg (fun z => [some (zn 30), some (zi x), some (zi z)]) (show (24 - 8 * (i : Int) + -8) = 24 - 8 * ((i + 1 : Nat) : Int) by omega)) (ih (i + 1) _ (by omega) ?_ ?_ ?_ ?_)
              · simp (disch := omega) only [z_up_ne, z_up_nk, z_up_eq, z_mup_ne, z_mup_eq, Int.reduceToNat]; omega
              · intro u u1 u2; simp (disch := omega) only [z_up_ne, z_up_nk, z_up_eq, z_mup_ne, z_mup_eq, Int.reduceToNat]; exact h2 u u1 u2
              · intro j hj; simp (disch := omega) only [z_up_ne, z_up_nk, z_up_eq, z_mup_ne, z_mup_eq, Int.reduceToNat]; exact h3 j hj
              · intro j
                rw [z_up_ne (by decide), z_up_at, h4 j]
                split
                · rename_i e
                  rw [if_pos (by omega), e]
                  unfold zbyte
                  congr 2
                  omega
                · split
                  · rw [if_pos (by omega)]
                  · rw [if_neg (by omega)]
    | succ q ih =>
      intro i N hq h1 h2 h3 h4
      refine x_iload_n 4 rfl dX8_put_3 2 rfl rfl ?_
      refine x_if_lt 7 49 rfl dX8_put_4 (by decide) (fun c4 => ?_) (fun c4 => ?_)
      · refine x_retu dX8_put_49 rfl ?_
        first
          | (exfalso; omega)
          | funext u j
            by_cases u1 : u = 30
            · subst u1
              by_cases j1 : j = 1
              · subst j1; rw [h1, z_up_eq]; rfl
              · rw [h3 j j1, z_up_nk j1, z_mup_ne (by decide)]
            · rw [z_up_ne u1]
              by_cases u2 : u = 31
              · subst u2; rw [h4 j, z_mup_eq]; rfl
              · rw [h2 u u1 u2, z_mup_ne u2]
      · refine x_aload_n 8 rfl dX8_put_7 0 rfl rfl ?_
        refine x_geti 11 rfl fX8_15 dX8_put_8 (lyl30 hL) (lys30 hL) (by decide) ?_
        refine x_sipush 14 rfl dX8_put_11 (by decide) ?_
        refine x_icmp_ge 17 49 rfl dX8_put_14 (by decide) (fun c14 => ?_) (fun c14 => ?_)
        · refine x_retu dX8_put_49 rfl ?_
          first
            | (exfalso; omega)
            | funext u j
              by_cases u1 : u = 30
              · subst u1
                by_cases j1 : j = 1
                · subst j1; rw [h1, z_up_eq]; rfl
                · rw [h3 j j1, z_up_nk j1, z_mup_ne (by decide)]
              · rw [z_up_ne u1]
                by_cases u2 : u = 31
                · subst u2; rw [h4 j, z_mup_eq]; rfl
                · rw [h2 u u1 u2, z_mup_ne u2]
        · refine x_aload_n 18 rfl dX8_put_17 0 rfl rfl ?_
          refine x_getr 21 rfl fX8_9 dX8_put_18 (lyl30 hL) (lys30 hL) (by decide) (31) rfl ?_
          refine x_aload_n 22 rfl dX8_put_21 0 rfl rfl ?_
          refine x_geti 25 rfl fX8_15 dX8_put_22 (lyl30 hL) (lys30 hL) (by decide) ?_
          refine x_iload_n 26 rfl dX8_put_25 1 rfl rfl ?_
          refine x_iload_n 27 rfl dX8_put_26 2 rfl rfl ?_
          refine x_ishr 28 rfl dX8_put_27 ?_
          refine x_sipush 31 rfl dX8_put_28 (by decide) ?_
          refine x_iand 32 rfl dX8_put_31 ?_
          refine x_iast 33 rfl dX8_put_32 (lyl31 hL) (lys31 hL) (by omega) (by omega) ?_
          refine x_aload_n 34 rfl dX8_put_33 0 rfl rfl ?_
          refine x_dupr 35 rfl dX8_put_34 ?_
          refine x_geti 38 rfl fX8_15 dX8_put_35 (lyl30 hL) (lys30 hL) (by decide) ?_
          try simp (disch := omega) only [z_up_ne, z_up_nk, z_up_eq, z_mup_ne, z_mup_eq, Int.reduceToNat]
          refine x_iconst 39 rfl dX8_put_38 (by decide) ?_
          refine y_iadd 40 rfl dX8_put_39 (by omega) ?_
          refine x_puti 43 rfl fX8_15 dX8_put_40 (lyl30 hL) (lys30 hL) (by decide) ?_
          refine y_iinc 46 rfl dX8_put_43 rfl (by decide) (by omega) (ls' := [_, _, _]) rfl (by decide) ?_
          refine x_goto 3 dX8_put_46 (by decide) ?_
          first
            | (exfalso; omega)
            | refine z_locs (ls' := [some (zn 30), some (zi x), some (zi (24 - 8 * ((i + 1 : Nat) : Int)))]) (congrArg (fun z => [some (zn 30), some (zi x), some (zi z)]) (show (24 - 8 * (i : Int) + -8) = 24 - 8 * ((i + 1 : Nat) : Int) by omega)) (ih (i + 1) _ (by omega) ?_ ?_ ?_ ?_)
              · simp (disch := omega) only [z_up_ne, z_up_nk, z_up_eq, z_mup_ne, z_mup_eq, Int.reduceToNat]; omega
              · intro u u1 u2; simp (disch := omega) only [z_up_ne, z_up_nk, z_up_eq, z_mup_ne, z_mup_eq, Int.reduceToNat]; exact h2 u u1 u2
              · intro j hj; simp (disch := omega) only [z_up_ne, z_up_nk, z_up_eq, z_mup_ne, z_mup_eq, Int.reduceToNat]; exact h3 j hj
              · intro j
                rw [z_up_ne (by decide), z_up_at, h4 j]
                split
                · rename_i e
                  rw [if_pos (by omega), e]
                  unfold zbyte
                  congr 2
                  omega
                · split
                  · rw [if_pos (by omega)]
                  · rw [if_neg (by omega)]
  refine zX_of pl_RX8 [some (zn 30), some (zi x), none] 1 rfl rfl ?_
  refine x_bipush 2 rfl dX8_put_0 (by decide) ?_
  refine x_istore_n 3 rfl dX8_put_2 rfl (ls' := [_, _, _]) rfl (by decide) ?_
  exact loop 4 0 M (by omega) (by simp) (fun _ _ _ => rfl) (fun _ _ => rfl) (fun j => by rw [if_neg (by omega)])
