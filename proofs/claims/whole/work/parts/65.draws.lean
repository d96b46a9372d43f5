/-! draws -/
def zdr (d : Int) : Int := (1103 * d + 12345) % 1000003
theorem zdr_in {d : Int} : 0 ≤ zdr d ∧ zdr d < 1000003 := by unfold zdr; omega

set_option maxRecDepth 100000 in
set_option maxHeartbeats 4000000 in
theorem c_X11_draws {d sz : Nat} {S : zSh} {M : zMem} (hL : LY S sz) (hd : 0 ≤ M 55 45 ∧ M 55 45 ≤ 1000003) {x : Int} (hx : 1 ≤ x ∧ x ≤ 100) : zX d 0 0 mX11_draws [zn 55, zi x] sz S M (zI sz S (fun r M' => r = zdr (M 55 45) % x ∧ M' = z_up M 55 45 (zdr (M 55 45)))) := by
  have hz := zdr_in (d := M 55 45)
  have hz9 : zdr (M 55 45) = (1103 * M 55 45 + 12345) % 1000003 := rfl
  refine zX_of pl_RX11 [some (zn 55), some (zi x)] 0 rfl rfl ?_
  refine x_aload_n 1 rfl dX11_draws_0 0 rfl rfl ?_
  refine x_ldc2 (x := 1103) 4 rfl klX11_451 (by decide) dX11_draws_1 ?_
  refine x_aload_n 5 rfl dX11_draws_4 0 rfl rfl ?_
  refine x_geti 8 rfl fX11_453 dX11_draws_5 (lyl55 hL) (lys55 hL) (by decide) ?_
  refine x_i2l 9 rfl dX11_draws_8 ?_
  refine y_lmul 10 rfl dX11_draws_9 (by omega) ?_
  refine x_ldc2 (x := 12345) 13 rfl klX11_456 (by decide) dX11_draws_10 ?_
  refine y_ladd 14 rfl dX11_draws_13 (by omega) ?_
  refine x_ldc2 (x := 1000003) 17 rfl klX11_458 (by decide) dX11_draws_14 ?_
  refine x_lrem 18 rfl dX11_draws_17 (by omega) ?_
  refine x_l2i 19 rfl dX11_draws_18 ?_
  refine x_puti 22 rfl fX11_453 dX11_draws_19 (lyl55 hL) (lys55 hL) (by decide) ?_
  refine x_aload_n 23 rfl dX11_draws_22 0 rfl rfl ?_
  refine x_geti 26 rfl fX11_453 dX11_draws_23 (lyl55 hL) (lys55 hL) (by decide) ?_
  refine x_iload_n 27 rfl dX11_draws_26 1 rfl rfl ?_
  refine x_irem 28 rfl dX11_draws_27 (by omega) ?_
  refine x_reti dX11_draws_28 rfl ?_
  have e : w32 ((1103 * M 55 45 + 12345).tmod 1000003) = zdr (M 55 45) := by
    rw [Int.tmod_eq_emod_of_nonneg (by omega), ← hz9]
    exact w32_id ⟨by omega, by omega⟩
  rw [e, z_up_eq, Int.tmod_eq_emod_of_nonneg hz.1]
  exact ⟨rfl, rfl⟩
