/-! reference: an order is obeyed -/
def sm (x : Int) : Int := if x < 0 ∨ 1000000 < x then -1 else x
theorem sm_cases (x : Int) : sm x = x ∨ (sm x = -1 ∧ (x < 0 ∨ 1000000 < x)) := by
  unfold sm
  split
  · right; exact ⟨rfl, by assumption⟩
  · left; rfl
theorem zactF_sm {Lw : List gC} {k : Nat → Int} (hi : KI k) {K a b : Int} : zactF Lw k K (sm a) (sm b) = zactF Lw k K a b := by
  have i1 := hi.1
  rcases sm_cases a with ha | ⟨ha, ha2⟩ <;> rcases sm_cases b with hb | ⟨hb, hb2⟩ <;> rw [ha, hb] <;> unfold zactF
  all_goals
    by_cases k16 : K = 16
    · simp only [if_pos k16]
      repeat' split
      all_goals first | rfl | (exfalso; omega)
    simp only [if_neg k16]
    by_cases k17 : K = 17
    · simp only [if_pos k17]
      repeat' split
      all_goals first | rfl | (exfalso; omega)
    simp only [if_neg k17]
    by_cases k18 : K = 18
    · simp only [if_pos k18]
      repeat' split
      all_goals first | rfl | (exfalso; omega)
    simp only [if_neg k18]
    repeat' split
    all_goals first | rfl | (exfalso; omega)
def obF (M M' : zMem) : Prop := (∀ i, i ≠ 55 → i ≠ 57 → i ≠ 67 → i ≠ 68 → i ≠ 69 → M' i = M i) ∧ ∀ j, j ≠ 22 → j ≠ 23 → j ≠ 24 → j ≠ 25 → j ≠ 28 → j ≠ 32 → M' 55 j = M 55 j

set_option maxRecDepth 100000 in
set_option maxHeartbeats 4000000 in
theorem c_X11_small {d sz : Nat} {S : zSh} {M : zMem} {x : Int} : zX d 0 0 mX11_small [zl x] sz S M (zI sz S (fun r M' => r = sm x ∧ M' = M)) := by
  refine zX_of pl_RX11 [some (zl x), none] 0 rfl rfl ?_
  refine x_lload_n 1 rfl dX11_small_0 0 rfl rfl ?_
  refine x_lconst (x := 0) 2 rfl dX11_small_1 rfl ?_
  refine x_lcmp 3 rfl dX11_small_2 ?_
  refine x_if_lt 6 14 rfl dX11_small_3 (by decide) (fun c3 => ?_) (fun c3 => ?_)
  · rw [zcmp_lt] at c3
    refine x_iconst 15 rfl dX11_small_14 (by decide) ?_
    refine x_goto 20 dX11_small_15 (by decide) ?_
    refine x_reti dX11_small_20 rfl ?_
    exact ⟨by unfold sm; rw [if_pos (by omega)], rfl⟩
  · rw [zcmp_lt] at c3
    refine x_lload_n 7 rfl dX11_small_6 0 rfl rfl ?_
    refine x_ldc2 (x := 1000000) 10 rfl klX11_377 (by decide) dX11_small_7 ?_
    refine x_lcmp 11 rfl dX11_small_10 ?_
    refine x_if_le 14 18 rfl dX11_small_11 (by decide) (fun c11 => ?_) (fun c11 => ?_)
    · rw [zcmp_le] at c11
      refine x_lload_n 19 rfl dX11_small_18 0 rfl rfl ?_
      refine x_l2i 20 rfl dX11_small_19 ?_
      rw [w32_id (by unfold z_i32; omega)]
      refine x_reti dX11_small_20 rfl ?_
      exact ⟨by unfold sm; rw [if_neg (by omega)], rfl⟩
    · rw [zcmp_le] at c11
      refine x_iconst 15 rfl dX11_small_14 (by decide) ?_
      refine x_goto 20 dX11_small_15 (by decide) ?_
      refine x_reti dX11_small_20 rfl ?_
      exact ⟨by unfold sm; rw [if_pos (by omega)], rfl⟩
