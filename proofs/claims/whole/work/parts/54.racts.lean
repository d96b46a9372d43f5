/-! the acts of the reference, as they are called -/
def zFin (M1 : zMem) (r : Int) : zMem := if r < 0 then zRef M1 r else z_up M1 55 0 0
def p_sells (M : zMem) (x : Int) (r : Int) (M' : zMem) : Prop := (¬ (1 ≤ x ∧ x ≤ 999) ∧ r = -1 ∧ M' = M) ∨ ((1 ≤ x ∧ x ≤ 999) ∧ M 57 0 < x ∧ r = -3 ∧ M' = M) ∨ ((1 ≤ x ∧ x ≤ 999) ∧ x ≤ M 57 0 ∧ r = kSell (M 57) x 1 ∧ M' = z_mup (zKp M 1) 57 (kSell (M 57) x))
def p_advances (M : zMem) (x y : Int) (r : Int) (M' : zMem) : Prop := (¬ (1 ≤ y ∧ y ≤ 9999) ∧ r = -1 ∧ M' = M) ∨ ((1 ≤ y ∧ y ≤ 9999) ∧ ¬ (0 ≤ x ∧ x < M 57 75) ∧ r = -2 ∧ M' = M) ∨ ((1 ≤ y ∧ y ≤ 9999) ∧ (0 ≤ x ∧ x < M 57 75) ∧ (M 57 (11 + x.toNat) = 0 ∨ M 57 1 < y) ∧ r = -3 ∧ M' = M) ∨ ((1 ≤ y ∧ y ≤ 9999) ∧ (0 ≤ x ∧ x < M 57 75) ∧ M 57 (11 + x.toNat) = 1 ∧ y ≤ M 57 1 ∧ r = kAdv (M 57) x.toNat y (3 + x.toNat) ∧ M' = z_mup (zKp M 2) 57 (kAdv (M 57) x.toNat y))
def p_leaves (M : zMem) (x : Int) (r : Int) (M' : zMem) : Prop := (¬ (0 ≤ x ∧ x < M 57 75) ∧ r = -2 ∧ M' = M) ∨ ((0 ≤ x ∧ x < M 57 75) ∧ M 57 (11 + x.toNat) = 0 ∧ r = -3 ∧ M' = M) ∨ ((0 ≤ x ∧ x < M 57 75) ∧ M 57 (11 + x.toNat) = 1 ∧ r = zcrew (kLeave (M 57) x.toNat) ∧ M' = z_mup (zKp M 3) 57 (kLeave (M 57) x.toNat))
def p_hunts (Lw : List gC) (M : zMem) (x y : Int) (r : Int) (M' : zMem) : Prop := (¬ (0 ≤ y ∧ y ≤ 3) ∧ r = -1 ∧ M' = M) ∨ ((0 ≤ y ∧ y ≤ 3) ∧ ¬ (0 ≤ x ∧ x < M 57 76) ∧ r = -2 ∧ M' = M) ∨ ((0 ≤ y ∧ y ≤ 3) ∧ (0 ≤ x ∧ x < M 57 76) ∧ ¬ (0 < zcrew (M 57) ∧ M 57 2 < 71 ∧ y ≤ M 57 (19 + x.toNat)) ∧ r = -3 ∧ M' = M) ∨ ((0 ≤ y ∧ y ≤ 3) ∧ (0 ≤ x ∧ x < M 57 76) ∧ (0 < zcrew (M 57) ∧ M 57 2 < 71 ∧ y ≤ M 57 (19 + x.toNat)) ∧ ∃ g, g = zoffI Lw (kH1 Lw (M 57) x.toNat y) ∧ r = g 0 + g 1 + g 2 + g 3 + g 4 + g 5 + g 6 + g 7 ∧ ∃ f, mF (z_mup (z_mup (zKp M 0) 68 f) 57 (kH2 Lw (kH1 Lw (M 57) x.toNat y))) M')
theorem p_sells_in {M M1 : zMem} {x r : Int} (hi : KI (M 57)) (hr : ∀ i, i < 7 → 0 ≤ M 56 i ∧ M 56 i ≤ 1000000) (h : p_sells M x r M1) : (-6 ≤ r ∧ r ≤ 1000000) ∧ ∀ i, i < 7 → 0 ≤ M1 56 i ∧ M1 56 i ≤ 1000000 := by
  rcases h with ⟨h1, h2, h3⟩ | ⟨h1, h2, h3, h4⟩ | ⟨h1, h2, h3, h4⟩
  · exact ⟨by omega, by rw [h3]; exact hr⟩
  · exact ⟨by omega, by rw [h4]; exact hr⟩
  · have i1 := (kSell_KI hi h1 h2).1
    exact ⟨by omega, by rw [h4, z_mup_ne (by decide), zKp_ne (by decide) (by decide)]; exact hr⟩
theorem p_advances_in {M M1 : zMem} {x y r : Int} (hi : KI (M 57)) (hr : ∀ i, i < 7 → 0 ≤ M 56 i ∧ M 56 i ≤ 1000000) (h : p_advances M x y r M1) : (-6 ≤ r ∧ r ≤ 1000000) ∧ ∀ i, i < 7 → 0 ≤ M1 56 i ∧ M1 56 i ≤ 1000000 := by
  have i0 := hi.1
  rcases h with ⟨h1, h2, h3⟩ | ⟨h1, h0, h2, h3⟩ | ⟨h1, h0, h2, h3, h4⟩ | ⟨h1, h0, h2, h3, h4, h5⟩
  · exact ⟨by omega, by rw [h3]; exact hr⟩
  · exact ⟨by omega, by rw [h3]; exact hr⟩
  · exact ⟨by omega, by rw [h4]; exact hr⟩
  · have i1 := ((kAdv_KI (h := x.toNat) hi (by omega) ⟨h1.1, h3⟩).2.1 x.toNat (by omega)).1
    exact ⟨by omega, by rw [h5, z_mup_ne (by decide), zKp_ne (by decide) (by decide)]; exact hr⟩
theorem p_leaves_in {M M1 : zMem} {x r : Int} (hi : KI (M 57)) (hr : ∀ i, i < 7 → 0 ≤ M 56 i ∧ M 56 i ≤ 1000000) (h : p_leaves M x r M1) : (-6 ≤ r ∧ r ≤ 1000000) ∧ ∀ i, i < 7 → 0 ≤ M1 56 i ∧ M1 56 i ≤ 1000000 := by
  have i0 := hi.1
  rcases h with ⟨h1, h2, h3⟩ | ⟨h1, h2, h3, h4⟩ | ⟨h1, h2, h3, h4⟩
  · exact ⟨by omega, by rw [h3]; exact hr⟩
  · exact ⟨by omega, by rw [h4]; exact hr⟩
  · have i1 := zcrew_in (kLeave_KI (h := x.toNat) hi (by omega))
    exact ⟨by omega, by rw [h4, z_mup_ne (by decide), zKp_ne (by decide) (by decide)]; exact hr⟩
theorem z01_sum {g : Nat → Int} (h : z01 g) : 0 ≤ g 0 + g 1 + g 2 + g 3 + g 4 + g 5 + g 6 + g 7 ∧ g 0 + g 1 + g 2 + g 3 + g 4 + g 5 + g 6 + g 7 ≤ 8 := by
  have h0 := h 0 (by decide)
  have h1 := h 1 (by decide)
  have h2 := h 2 (by decide)
  have h3 := h 3 (by decide)
  have h4 := h 4 (by decide)
  have h5 := h 5 (by decide)
  have h6 := h 6 (by decide)
  have h7 := h 7 (by decide)
  constructor
  · rcases h0 with e0 | e0 <;> rcases h1 with e1 | e1 <;> rw [e0, e1] <;> omega
  · rcases h0 with e0 | e0 <;> rcases h1 with e1 | e1 <;> rw [e0, e1] <;> omega
theorem p_hunts_in {Lw : List gC} {M M1 : zMem} {x y r : Int} (hi : KI (M 57)) (hr : ∀ i, i < 7 → 0 ≤ M 56 i ∧ M 56 i ≤ 1000000) (h : p_hunts Lw M x y r M1) : (-6 ≤ r ∧ r ≤ 1000000) ∧ ∀ i, i < 7 → 0 ≤ M1 56 i ∧ M1 56 i ≤ 1000000 := by
  have i0 := hi.1
  rcases h with ⟨h1, h2, h3⟩ | ⟨h1, h0, h2, h3⟩ | ⟨h1, h0, h2, h3, h4⟩ | ⟨h1, h0, h2, g, hg, h4, f, h5⟩
  · exact ⟨by omega, by rw [h3]; exact hr⟩
  · exact ⟨by omega, by rw [h3]; exact hr⟩
  · exact ⟨by omega, by rw [h4]; exact hr⟩
  · have i1 := z01_sum (zoff01 (Lw := Lw) (kH1_KI (Lw := Lw) (w := y) (g := x.toNat) hi (by omega) ⟨h1.1, h2.2.2⟩ h2.2.1))
    rw [← hg, ← h4] at i1
    exact ⟨by omega, by rw [h5.1 56 (by decide) (by decide), z_mup_ne (by decide), z_mup_ne (by decide), zKp_ne (by decide) (by decide)]; exact hr⟩

set_option maxRecDepth 100000 in
set_option maxHeartbeats 4000000 in
theorem c_X11_sell {d sz : Nat} {S : zSh} {M : zMem} (hL : LY S sz) (hi : KI (M 57)) (hn0 : 0 ≤ M 55 32 ∧ M 55 32 ≤ 16) (hr : ∀ i, i < 7 → 0 ≤ M 56 i ∧ M 56 i ≤ 1000000) {x : Int} : zX (d + 3) 0 0 mX11_sell [zn 55, zi x] sz S M (zI sz S (fun r M' => ∃ M1, p_sells M x r M1 ∧ M' = zFin M1 r)) := by
  refine zX_of pl_RX11 [some (zn 55), some (zi x)] 0 rfl rfl ?_
  refine x_aload_n 1 rfl dX11_sell_0 0 rfl rfl ?_
  refine x_aload_n 2 rfl dX11_sell_1 0 rfl rfl ?_
  refine x_iload_n 3 rfl dX11_sell_2 1 rfl rfl ?_
  refine x_cVi 6 rfl lX11_353 dX11_sell_3 (lyl55 hL) (lys55 hL) (c_X11_sellsKept hL hi hn0) rfl rfl (Nat.le_of_ble_eq_true rfl) (fun r1 M1 hr1 => ?_)
  have hp : p_sells M x r1 M1 := hr1
  have hb := p_sells_in hi hr hp
  refine x_cVi 9 rfl lX11_350 dX11_sell_6 (lyl55 hL) (lys55 hL) (c_X11_goodOr hL hb.2 hb.1) rfl rfl (Nat.le_of_ble_eq_true rfl) (fun r2 M2 hr2 => ?_)
  obtain ⟨hr3, hM2⟩ := hr2
  refine x_reti dX11_sell_9 rfl ?_
  subst hr3
  exact ⟨M1, hp, hM2⟩

set_option maxRecDepth 100000 in
set_option maxHeartbeats 4000000 in
theorem c_X11_advance {d sz : Nat} {S : zSh} {M : zMem} (hL : LY S sz) (hi : KI (M 57)) (hn0 : 0 ≤ M 55 32 ∧ M 55 32 ≤ 16) (hr : ∀ i, i < 7 → 0 ≤ M 56 i ∧ M 56 i ≤ 1000000) {x y : Int} : zX (d + 3) 0 0 mX11_advance [zn 55, zi x, zi y] sz S M (zI sz S (fun r M' => ∃ M1, p_advances M x y r M1 ∧ M' = zFin M1 r)) := by
  refine zX_of pl_RX11 [some (zn 55), some (zi x), some (zi y)] 0 rfl rfl ?_
  refine x_aload_n 1 rfl dX11_advance_0 0 rfl rfl ?_
  refine x_aload_n 2 rfl dX11_advance_1 0 rfl rfl ?_
  refine x_iload_n 3 rfl dX11_advance_2 1 rfl rfl ?_
  refine x_iload_n 4 rfl dX11_advance_3 2 rfl rfl ?_
  refine x_cVi 7 rfl lX11_356 dX11_advance_4 (lyl55 hL) (lys55 hL) (c_X11_advancesKept hL hi hn0) rfl rfl (Nat.le_of_ble_eq_true rfl) (fun r1 M1 hr1 => ?_)
  have hp : p_advances M x y r1 M1 := hr1
  have hb := p_advances_in hi hr hp
  refine x_cVi 10 rfl lX11_350 dX11_advance_7 (lyl55 hL) (lys55 hL) (c_X11_goodOr hL hb.2 hb.1) rfl rfl (Nat.le_of_ble_eq_true rfl) (fun r2 M2 hr2 => ?_)
  obtain ⟨hr3, hM2⟩ := hr2
  refine x_reti dX11_advance_10 rfl ?_
  subst hr3
  exact ⟨M1, hp, hM2⟩

set_option maxRecDepth 100000 in
set_option maxHeartbeats 4000000 in
theorem c_X11_leave {d sz : Nat} {S : zSh} {M : zMem} (hL : LY S sz) (hi : KI (M 57)) (hn0 : 0 ≤ M 55 32 ∧ M 55 32 ≤ 16) (hr : ∀ i, i < 7 → 0 ≤ M 56 i ∧ M 56 i ≤ 1000000) {x : Int} : zX (d + 3) 0 0 mX11_leave [zn 55, zi x] sz S M (zI sz S (fun r M' => ∃ M1, p_leaves M x r M1 ∧ M' = zFin M1 r)) := by
  refine zX_of pl_RX11 [some (zn 55), some (zi x)] 0 rfl rfl ?_
  refine x_aload_n 1 rfl dX11_leave_0 0 rfl rfl ?_
  refine x_aload_n 2 rfl dX11_leave_1 0 rfl rfl ?_
  refine x_iload_n 3 rfl dX11_leave_2 1 rfl rfl ?_
  refine x_cVi 6 rfl lX11_359 dX11_leave_3 (lyl55 hL) (lys55 hL) (c_X11_leavesKept hL hi hn0) rfl rfl (Nat.le_of_ble_eq_true rfl) (fun r1 M1 hr1 => ?_)
  have hp : p_leaves M x r1 M1 := hr1
  have hb := p_leaves_in hi hr hp
  refine x_cVi 9 rfl lX11_350 dX11_leave_6 (lyl55 hL) (lys55 hL) (c_X11_goodOr hL hb.2 hb.1) rfl rfl (Nat.le_of_ble_eq_true rfl) (fun r2 M2 hr2 => ?_)
  obtain ⟨hr3, hM2⟩ := hr2
  refine x_reti dX11_leave_9 rfl ?_
  subst hr3
  exact ⟨M1, hp, hM2⟩

set_option maxRecDepth 100000 in
set_option maxHeartbeats 4000000 in
theorem c_X11_hunt {d sz : Nat} {S : zSh} {M : zMem} (hL : LY S sz) (hi : KI (M 57)) {Lw : List gC} (hLw : LwI (M 57) Lw) (hn0 : 0 ≤ M 55 32 ∧ M 55 32 ≤ 16) (hr : ∀ i, i < 7 → 0 ≤ M 56 i ∧ M 56 i ≤ 1000000) {x y : Int} : zX (d + 47) 0 0 mX11_hunt [zn 55, zi x, zi y] sz S M (zI sz S (fun r M' => ∃ M1, p_hunts Lw M x y r M1 ∧ M' = zFin M1 r)) := by
  refine zX_of pl_RX11 [some (zn 55), some (zi x), some (zi y)] 0 rfl rfl ?_
  refine x_aload_n 1 rfl dX11_hunt_0 0 rfl rfl ?_
  refine x_aload_n 2 rfl dX11_hunt_1 0 rfl rfl ?_
  refine x_iload_n 3 rfl dX11_hunt_2 1 rfl rfl ?_
  refine x_iload_n 4 rfl dX11_hunt_3 2 rfl rfl ?_
  refine x_cVi 7 rfl lX11_347 dX11_hunt_4 (lyl55 hL) (lys55 hL) (c_X11_huntsKept hL hi hLw hn0) rfl rfl (Nat.le_of_ble_eq_true rfl) (fun r1 M1 hr1 => ?_)
  have hp : p_hunts Lw M x y r1 M1 := hr1
  have hb := p_hunts_in hi hr hp
  refine x_cVi 10 rfl lX11_350 dX11_hunt_7 (lyl55 hL) (lys55 hL) (c_X11_goodOr hL hb.2 hb.1) rfl rfl (Nat.le_of_ble_eq_true rfl) (fun r2 M2 hr2 => ?_)
  obtain ⟨hr3, hM2⟩ := hr2
  refine x_reti dX11_hunt_10 rfl ?_
  subst hr3
  exact ⟨M1, hp, hM2⟩
