/-! parts -/
def zly (k g : Nat → Int) (h : Nat) : Int := if g h = 1 then 1000000000000 / k (23 + h) else 0
def zlays (k g : Nat → Int) : Int := zsum (zly k g) (k 75).toNat
theorem zly_in {k g : Nat → Int} (hi : KI k) {h : Nat} (hh : (h : Int) < k 75) : 0 ≤ zly k g h ∧ zly k g h ≤ 1000000000000 := by
  have i1 := hi.1
  have i2 := (hi.2.1 h (by omega)).2.2.2.2.1 hh
  unfold zly
  split
  · refine ⟨Int.ediv_nonneg (by decide) (by omega), ?_⟩
    exact Int.ediv_le_self _ (by decide)
  · decide
theorem zlays_in {k g : Nat → Int} (hi : KI k) : ∀ n : Nat, n ≤ (k 75).toNat → 0 ≤ zsum (zly k g) n ∧ zsum (zly k g) n ≤ 1000000000000 * (n : Int) := by
  intro n
  induction n with
  | zero => intro _; exact ⟨Int.le_refl _, by simp [zsum]⟩
  | succ n ih =>
    intro hn
    have h1 := ih (by omega)
    have h2 := zly_in (g := g) hi (h := n) (by omega)
    simp only [zsum]
    omega

set_option maxRecDepth 100000 in
set_option maxHeartbeats 4000000 in
theorem c_X11_laysOf {d sz : Nat} {S : zSh} {M : zMem} (hL : LY S sz) (hi : KI (M 57)) {g : Nat → Int} (hg : z01 g) : zX (d + 1) 0 0 mX11_laysOf [zn 55, zi (zmk g)] sz S M (zJ sz S (fun r M' => r = zlays (M 57) g ∧ M' = M)) := by
  have i1 := hi.1
  have loop : ∀ (q n : Nat) (y : Int), (M 57 75).toNat < q + n → n ≤ (M 57 75).toNat → y = zsum (zly (M 57) g) n → zW mX11_laysOf (d + 1) 0 0 [] (zJ sz S (fun r M' => r = zlays (M 57) g ∧ M' = M)) 5 [some (zn 55), some (zi (zmk g)), some (zl y), none, some (zi n)] [] sz S M := by
    intro q
    induction q with
    | zero => intro n y hq hn; omega
    | succ q ih =>
      intro n y hq hn h1
      have hz := zlays_in (g := g) hi n hn
      refine x_iload 7 rfl dX11_laysOf_5 rfl ?_
      refine x_aload_n 8 rfl dX11_laysOf_7 0 rfl rfl ?_
      refine x_getr 11 rfl fX11_24 dX11_laysOf_8 (lyl55 hL) (lys55 hL) (by decide) (57) rfl ?_
      refine x_bipush 13 rfl dX11_laysOf_11 (by decide) ?_
      refine x_ialk 14 rfl dX11_laysOf_13 (lyl57 hL) (lys57 hL) 75 rfl (by decide) ?_
      refine x_icmp_ge 17 54 rfl dX11_laysOf_14 (by decide) (fun c14 => ?_) (fun c14 => ?_)
      · refine x_lload_n 55 rfl dX11_laysOf_54 2 rfl rfl ?_
        refine x_retj dX11_laysOf_55 rfl ?_
        refine ⟨?_, rfl⟩
        rw [h1, show n = (M 57 75).toNat by omega]
        rfl
      · have i2 := hi.2.1 n (by omega)
        have i3 := i2.2.2.2.2.1 (by omega)
        have hz1 := zly_in (g := g) hi (h := n) (by omega)
        have e23 : ((23 : Int) + (n : Int)).toNat = 23 + n := by omega
        refine x_lload_n 18 rfl dX11_laysOf_17 2 rfl rfl ?_
        refine x_iload_n 19 rfl dX11_laysOf_18 1 rfl rfl ?_
        refine x_iload 21 rfl dX11_laysOf_19 rfl ?_
        refine x_cSi 24 rfl lX11_316 dX11_laysOf_21 c_X11_isIn rfl rfl (Nat.le_of_ble_eq_true rfl) (fun r M1 hr1 => ?_)
        obtain ⟨rfl, hM1⟩ := hr1
        rw [hM1]
        refine x_if_eq 27 45 rfl dX11_laysOf_24 (by decide) (fun c24 => ?_) (fun c24 => ?_)
        · refine x_lconst (x := 0) 46 rfl dX11_laysOf_45 rfl ?_
          refine y_ladd 47 rfl dX11_laysOf_46 (by omega) ?_
          refine y_lstore_n 48 rfl dX11_laysOf_47 rfl rfl (ls' := [_, _, _, _, _]) rfl (by decide) ?_
          refine w_iinc 51 rfl dX11_laysOf_48 rfl (by decide) (by omega) rfl (ls' := [_, _, _, _, _]) rfl (by decide) ?_
          refine x_goto 5 dX11_laysOf_51 (by decide) ?_
          rw [zbit_mk hg (by omega)] at c24
          exact ih (n + 1) _ (by omega) (by omega) (by simp only [zsum]; rw [h1]; unfold zly; rw [if_neg (by omega)])
        · refine x_ldc2 (x := 1000000000000) 30 rfl klX11_368 (by decide) dX11_laysOf_27 ?_
          refine x_aload_n 31 rfl dX11_laysOf_30 0 rfl rfl ?_
          refine x_getr 34 rfl fX11_24 dX11_laysOf_31 (lyl55 hL) (lys55 hL) (by decide) (57) rfl ?_
          refine x_bipush 36 rfl dX11_laysOf_34 (by decide) ?_
          refine x_iload 38 rfl dX11_laysOf_36 rfl ?_
          refine y_iadd 39 rfl dX11_laysOf_38 (by omega) ?_
          refine x_iald 40 rfl dX11_laysOf_39 (lyl57 hL) (lys57 hL) (by omega) (by omega) ?_
          refine x_i2l 41 rfl dX11_laysOf_40 ?_
          refine x_ldiv 42 rfl dX11_laysOf_41 (by rw [e23]; omega) ?_
          have hzv : zly (M 57) g n = 1000000000000 / M 57 (23 + n) := by unfold zly; rw [zbit_mk hg (by omega)] at c24; rw [if_pos (by have := hg n (by omega); omega)]
          rw [e23, z_ltdiv (by decide) (by decide) (by omega), ← hzv]
          refine x_goto 46 dX11_laysOf_42 (by decide) ?_
          refine y_ladd 47 rfl dX11_laysOf_46 (by omega) ?_
          refine y_lstore_n 48 rfl dX11_laysOf_47 rfl rfl (ls' := [_, _, _, _, _]) rfl (by decide) ?_
          refine w_iinc 51 rfl dX11_laysOf_48 rfl (by decide) (by omega) rfl (ls' := [_, _, _, _, _]) rfl (by decide) ?_
          refine x_goto 5 dX11_laysOf_51 (by decide) ?_
          exact ih (n + 1) _ (by omega) (by omega) (by simp only [zsum]; rw [h1, hzv])
  refine zX_of pl_RX11 [some (zn 55), some (zi (zmk g)), none, none, none] 3 rfl rfl ?_
  refine x_lconst (x := 0) 1 rfl dX11_laysOf_0 rfl ?_
  refine y_lstore_n 2 rfl dX11_laysOf_1 rfl rfl (ls' := [_, _, _, _, _]) rfl (by decide) ?_
  refine x_iconst 3 rfl dX11_laysOf_2 (by decide) ?_
  refine y_istore 5 rfl dX11_laysOf_3 rfl (ls' := [_, _, _, _, _]) rfl (by decide) ?_
  exact loop ((M 57 75).toNat + 1) 0 0 (by omega) (by omega) rfl

set_option maxRecDepth 100000 in
set_option maxHeartbeats 4000000 in
theorem c_X11_parts {d sz : Nat} {S : zSh} {M : zMem} (hL : LY S sz) (hi : KI (M 57))  : zX (d + 2) 0 0 mX11_parts [zn 55] sz S M (zJ sz S (fun r M' => r = zlays (M 57) (fun h => M 57 (11 + h)) ∧ M' = M)) := by
  refine zX_of pl_RX11 [some (zn 55)] 0 rfl rfl ?_
  refine x_aload_n 1 rfl dX11_parts_0 0 rfl rfl ?_
  refine x_aload_n 2 rfl dX11_parts_1 0 rfl rfl ?_
  refine x_cVi 5 rfl lX11_370 dX11_parts_2 (lyl55 hL) (lys55 hL) (c_X11_aboardNow hL hi) rfl rfl (Nat.le_of_ble_eq_true rfl) (fun r M1 hr1 => ?_)
  obtain ⟨hr, hM1⟩ := hr1
  rw [hM1]
  have hr : r = zmk (fun h => M 57 (11 + h)) := hr
  subst hr
  refine x_cVj 8 rfl lX11_373 dX11_parts_5 (lyl55 hL) (lys55 hL) (c_X11_laysOf hL hi (zab01 hi)) rfl rfl (Nat.le_of_ble_eq_true rfl) (fun r2 M2 hr2 => ?_)
  obtain ⟨hr3, hM2⟩ := hr2
  refine x_retj dX11_parts_8 rfl ?_
  exact ⟨hr3, hM2⟩
