/-! parts of the class; count -/
set_option maxRecDepth 100000 in
set_option maxHeartbeats 4000000 in
theorem c_X10_parts {d sz : Nat} {S : zSh} {M : zMem} (hL : LY S sz) {k : Nat → Int} (hs : SR M 1 k) (hi : KI k)  : zX (d + 1) 0 0 mX10_parts [zn 0] sz S M (zJ sz S (fun r M' => r = zlays k (fun h => k (11 + h)) ∧ M' = M)) := by
  have i1 := hi.1
  have e0 := hs.1.1
  have loop : ∀ (q n : Nat) (y : Int), (k 75).toNat < q + n → n ≤ (k 75).toNat → y = zsum (zly k (fun h => k (11 + h))) n → zW mX10_parts (d + 1) 0 0 [] (zJ sz S (fun r M' => r = zlays k (fun h => k (11 + h)) ∧ M' = M)) 4 [some (zn 0), some (zl y), none, some (zi n)] [] sz S M := by
    intro q
    induction q with
    | zero => intro n y hq hn; omega
    | succ q ih =>
      intro n y hq hn h1
      have hz := zlays_in (g := (fun h => k (11 + h))) hi n hn
      refine x_iload_n 5 rfl dX10_parts_4 3 rfl rfl ?_
      refine x_aload_n 6 rfl dX10_parts_5 0 rfl rfl ?_
      refine x_getr 9 rfl fX10_10 dX10_parts_6 (lyl0 hL) (lys0 hL) (by decide) (1) rfl ?_
      refine x_geti 12 rfl fX10_94 dX10_parts_9 (lyl1 hL) (lys1 hL) (by decide) ?_
      refine x_icmp_ge 15 43 rfl dX10_parts_12 (by decide) (fun c12 => ?_) (fun c12 => ?_)
      · refine x_lload_n 44 rfl dX10_parts_43 1 rfl rfl ?_
        refine x_retj dX10_parts_44 rfl ?_
        refine ⟨?_, rfl⟩
        rw [h1, show n = (k 75).toNat by omega]
        rfl
      · have i2 := hi.2.1 n (by omega)
        have hz1 := zly_in (g := (fun h => k (11 + h))) hi (h := n) (by omega)
        refine x_aload_n 16 rfl dX10_parts_15 0 rfl rfl ?_
        refine x_getr 19 rfl fX10_10 dX10_parts_16 (lyl0 hL) (lys0 hL) (by decide) (1) rfl ?_
        refine x_iload_n 20 rfl dX10_parts_19 3 rfl rfl ?_
        refine x_cVi 23 rfl lX10_121 dX10_parts_20 (lyl1 hL) (lys1 hL) (c_X7_isAboard (ly_sh1 hL) hs hi (by omega)) rfl rfl (Nat.le_of_ble_eq_true rfl) (fun r M1 hr1 => ?_)
        obtain ⟨hr, hM1⟩ := hr1
        rw [hM1]
        rw [Int.toNat_natCast] at hr
        refine x_if_eq 26 37 rfl dX10_parts_23 (by decide) (fun c23 => ?_) (fun c23 => ?_)
        · refine w_iinc 40 rfl dX10_parts_37 rfl (by decide) (by omega) rfl (ls' := [_, _, _, _]) rfl (by decide) ?_
          refine x_goto 4 dX10_parts_40 (by decide) ?_
          exact ih (n + 1) _ (by omega) (by omega) (by simp only [zsum]; rw [h1]; unfold zly; rw [if_neg (show ¬ k (11 + n) = 1 by omega), Int.add_zero])
        · refine x_lload_n 27 rfl dX10_parts_26 1 rfl rfl ?_
          refine x_aload_n 28 rfl dX10_parts_27 0 rfl rfl ?_
          refine x_getr 31 rfl fX10_10 dX10_parts_28 (lyl0 hL) (lys0 hL) (by decide) (1) rfl ?_
          refine x_iload_n 32 rfl dX10_parts_31 3 rfl rfl ?_
          refine x_cVj 35 rfl lX10_242 dX10_parts_32 (lyl1 hL) (lys1 hL) (c_X7_partsOf (ly_sh1 hL) hs hi (by omega)) rfl rfl (Nat.le_of_ble_eq_true rfl) (fun r2 M2 hr2 => ?_)
          obtain ⟨hr3, hM2⟩ := hr2
          rw [hM2]
          rw [Int.toNat_natCast] at hr3
          have hzv : zly k (fun h => k (11 + h)) n = r2 := by unfold zly; rw [if_pos (show k (11 + n) = 1 by omega)]; exact hr3.symm
          refine y_ladd 36 rfl dX10_parts_35 (by omega) ?_
          refine y_lstore_n 37 rfl dX10_parts_36 rfl rfl (ls' := [_, _, _, _]) rfl (by decide) ?_
          refine w_iinc 40 rfl dX10_parts_37 rfl (by decide) (by omega) rfl (ls' := [_, _, _, _]) rfl (by decide) ?_
          refine x_goto 4 dX10_parts_40 (by decide) ?_
          exact ih (n + 1) _ (by omega) (by omega) (by simp only [zsum]; rw [h1, hzv])
  refine zX_of pl_RX10 [some (zn 0), none, none, none] 3 rfl rfl ?_
  refine x_lconst (x := 0) 1 rfl dX10_parts_0 rfl ?_
  refine y_lstore_n 2 rfl dX10_parts_1 rfl rfl (ls' := [_, _, _, _]) rfl (by decide) ?_
  refine x_iconst 3 rfl dX10_parts_2 (by decide) ?_
  refine y_istore_n 4 rfl dX10_parts_3 rfl rfl (ls' := [_, _, _, _]) rfl (by decide) ?_
  exact loop ((k 75).toNat + 1) 0 0 (by omega) (by omega) rfl
