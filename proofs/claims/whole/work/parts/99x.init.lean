/-! THE LAW'S LOOP: its beginning -/
def iM (M : zMem) : zMem := mdM (z_mup (wlM (z_mup M 0 (z_df 10))) 55 (z_df 11))
theorem iM_57 {M : zMem} : iM M 57 = k0 := by unfold iM mdM; exact z_mup_eq
theorem iM_lo {M : zMem} {i : Nat} (h : i < 55) : iM M i = wlM (z_mup M 0 (z_df 10)) i := by
  unfold iM mdM mdM1 wdM
  simp (disch := omega) only [z_mup_ne, z_up_ne]
theorem iM_56 {M : zMem} : iM M 56 = fun _ => 0 := by unfold iM mdM mdM1 wdM; funext j; simp [z_mup, z_up]
theorem iM_58 {M : zMem} : iM M 58 = fun _ => 0 := by unfold iM mdM mdM1 wdM; funext j; simp [z_mup, z_up]
theorem iM_59 {M : zMem} : iM M 59 = fun _ => 0 := by unfold iM mdM mdM1 wdM; funext j; simp [z_mup, z_up]
theorem iM_61 {M : zMem} : iM M 61 = fun j => if j < 141 then (wfl WM).getD j 0 else 0 := by
  unfold iM mdM mdM1 wdM
  simp (disch := omega) only [z_mup_ne, z_up_ne, z_mup_eq]
theorem iM_62 {M : zMem} : iM M 62 = fun _ => 0 := by unfold iM mdM mdM1 wdM; funext j; simp [z_mup, z_up]
theorem iM_69 {M : zMem} : iM M 69 = fun _ => 0 := by unfold iM mdM mdM1 wdM; funext j; simp [z_mup, z_up]
theorem iM_72 {M : zMem} : iM M 72 = fun _ => 0 := by unfold iM mdM mdM1 wdM; funext j; simp [z_mup, z_up]
theorem iM_55 {M : zMem} : iM M 55 = ku (ku (ku (z_df 11) 14 (-1)) 35 (-1)) 43 (-1) := by unfold iM mdM mdM1 wdM; funext j; simp [z_mup, z_up, ku]
theorem wM_0 {M : zMem} {j : Nat} (h : j ≠ 12 ∧ j ≠ 14) : wlM M 0 j = M 0 j := by
  unfold wlM shM
  simp (disch := omega) only [z_mup_ne, z_up_ne, z_up_nk]
theorem wM_012 {M : zMem} : wlM M 0 12 = -1 ∧ wlM M 0 14 = -1 := by
  unfold wlM shM
  constructor <;> simp [z_mup, z_up]
theorem wM_1 {M : zMem} : wlM M 1 = ku (z_df 7) 17 (-1) := by unfold wlM shM; funext j; simp [z_mup, z_up, ku]
theorem wM_2 {M : zMem} : wlM M 2 = fun _ => 0 := by unfold wlM shM; funext j; simp [z_mup, z_up]
theorem wM_3 {M : zMem} : wlM M 3 = fun _ => 0 := by unfold wlM shM; funext j; simp [z_mup, z_up]
theorem wM_4 {M : zMem} : wlM M 4 = fun _ => 0 := by unfold wlM shM; funext j; simp [z_mup, z_up]
theorem wM_5 {M : zMem} : wlM M 5 = fun _ => 0 := by unfold wlM shM; funext j; simp [z_mup, z_up]
theorem wM_6 {M : zMem} : wlM M 6 = fun _ => 0 := by unfold wlM shM; funext j; simp [z_mup, z_up]
theorem wM_7 {M : zMem} : ∀ j, j < 6 → wlM M 7 j = 10 := by
  intro j hj
  have : j = 0 ∨ j = 1 ∨ j = 2 ∨ j = 3 ∨ j = 4 ∨ j = 5 := by omega
  unfold wlM shM
  rcases this with rfl | rfl | rfl | rfl | rfl | rfl <;> simp [z_mup, z_up]
theorem wM_8 {M : zMem} : wlM M 8 0 = 0 ∧ wlM M 8 1 = 200 ∧ wlM M 8 2 = 0 := by
  unfold wlM shM
  refine ⟨?_, ?_, ?_⟩ <;> simp [z_mup, z_up]
theorem wM_9 {M : zMem} : wlM M 9 = fun _ => 0 := by unfold wlM shM; funext j; simp [z_mup, z_up]
theorem wM_10 {M : zMem} : wlM M 10 = fun _ => 0 := by unfold wlM shM; funext j; simp [z_mup, z_up]
theorem wM_11 {M : zMem} : wlM M 11 = fun _ => -1 := by unfold wlM shM; funext j; simp [z_mup, z_up]
theorem wM_23 {M : zMem} : wlM M 23 = fun _ => -1 := by unfold wlM shM; funext j; simp [z_mup, z_up]
theorem wM_24 {M : zMem} : wlM M 24 = z_df 2 := by unfold wlM shM; funext j; simp [z_mup, z_up]
theorem wM_30 {M : zMem} : wlM M 30 = z_df 8 := by unfold wlM shM; funext j; simp [z_mup, z_up]
theorem wM_31 {M : zMem} : wlM M 31 = fun _ => 0 := by unfold wlM shM; funext j; simp [z_mup, z_up]
theorem wM_42 {M : zMem} : wlM M 42 = fun _ => 0 := by unfold wlM shM; funext j; simp [z_mup, z_up]
theorem wM_48 {M : zMem} : wlM M 48 = fun _ => 0 := by unfold wlM shM; funext j; simp [z_mup, z_up]
theorem wM_50 {M : zMem} : wlM M 50 = fun _ => 0 := by unfold wlM shM; funext j; simp [z_mup, z_up]
theorem wM_52 {M : zMem} : wlM M 52 = fun _ => 0 := by unfold wlM shM; funext j; simp [z_mup, z_up]
theorem wM_54 {M : zMem} : wlM M 54 = fun _ => 0 := by unfold wlM shM; funext j; simp [z_mup, z_up]
theorem k0_z {i : Nat} (h : ¬ (51 ≤ i ∧ i < 57)) (h1 : i ≠ 73) (h2 : i ≠ 79) : k0 i = 0 := by unfold k0; rw [if_neg h, if_neg h1, if_neg h2]
theorem k0_KI : KI k0 := by
  have h73 : k0 73 = 200 := by decide +kernel
  have h79 : k0 79 = -1 := by decide +kernel
  have hp : ∀ y, y < 6 → k0 (51 + y) = 10 := fun y hy => by unfold k0; rw [if_pos (by omega)]
  refine ⟨?_, fun h hh => ?_, fun g hg => ?_, fun y hy => ?_, fun n hn => ?_, fun t ht => ?_⟩
  · rw [h73, h79]; simp (disch := omega) only [k0_z]; omega
  · simp (disch := omega) only [k0_z]; exact ⟨⟨by omega, by omega⟩, ⟨by omega, by omega⟩, ⟨by omega, by omega⟩, ⟨by omega, by omega⟩, fun hq => by omega, fun _ => trivial⟩
  · simp (disch := omega) only [k0_z]; omega
  · rw [hp y hy]; omega
  · simp (disch := omega) only [k0_z]; omega
  · simp (disch := omega) only [k0_z]; omega
theorem IV_init {S : zSh} {M : zMem} (hL : LY S 75) : IV 0 S 75 (iM M) := by
  have l : ∀ i, i < 55 → iM M i = wlM (z_mup M 0 (z_df 10)) i := fun i hi => iM_lo hi
  have e55 := iM_55 (M := M)
  have z7 : ∀ j, j < 17 → z_df 7 j = 0 := by decide +kernel
  have z11 : ∀ j, j < 46 → z_df 11 j = 0 := by decide +kernel
  have z2 : z_df 2 3 = 0 ∧ z_df 2 2 = 0 := by decide +kernel
  have z8 : z_df 8 1 = 0 := by decide +kernel
  have z10 : z_df 10 3 = -1 ∧ z_df 10 13 = 0 ∧ z_df 10 15 = 0 := by decide +kernel
  refine ⟨hL, ?_, by rw [iM_57]; exact k0_KI, ?_, ⟨?_, ?_, ?_, ?_⟩, ⟨?_, ?_, ?_, ?_, ?_⟩, ?_, ?_, ?_, ⟨?_, ?_, ?_, ?_⟩, ⟨?_, ?_, ?_, ?_, ?_⟩⟩
  · rw [iM_57]
    refine ⟨⟨?_, ?_, ?_, ?_, ?_, ?_, ?_, ?_⟩, ⟨?_, ?_, ?_⟩, fun h hh => ?_, fun h hh => ?_, fun h hh => ?_, fun h hh => ?_, fun h hh => ?_, fun h hh => ?_, fun h hh => ?_, fun h hh => ?_⟩
    · rw [l 1 (by omega), wM_1, ku_ne (by decide), z7 _ (by decide)]; rfl
    · rw [l 1 (by omega), wM_1, ku_ne (by decide), z7 _ (by decide)]; rfl
    · rw [l 1 (by omega), wM_1, ku_ne (by decide), z7 _ (by decide)]; rfl
    · rw [l 1 (by omega), wM_1, ku_ne (by decide), z7 _ (by decide)]; rfl
    · rw [l 1 (by omega), wM_1, ku_ne (by decide), z7 _ (by decide)]; rfl
    · rw [l 1 (by omega), wM_1, ku_ne (by decide), z7 _ (by decide)]; rfl
    · rw [l 1 (by omega), wM_1, ku_ne (by decide), z7 _ (by decide)]; rfl
    · rw [l 1 (by omega), wM_1, ku_eq]; rfl
    · show iM M 8 0 = _; rw [l 8 (by omega), wM_8.1]; rfl
    · show iM M 8 1 = _; rw [l 8 (by omega), wM_8.2.1]; rfl
    · show iM M 8 2 = _; rw [l 8 (by omega), wM_8.2.2]; rfl
    · show iM M 2 h = _; rw [l 2 (by omega), wM_2, k0_z (by omega) (by omega) (by omega)]
    · show iM M 3 h = _; rw [l 3 (by omega), wM_3, k0_z (by omega) (by omega) (by omega)]
    · show iM M 4 h = _; rw [l 4 (by omega), wM_4, k0_z (by omega) (by omega) (by omega)]
    · show iM M 5 h = _; rw [l 5 (by omega), wM_5, k0_z (by omega) (by omega) (by omega)]
    · show iM M 6 h = _; rw [l 6 (by omega), wM_6, k0_z (by omega) (by omega) (by omega)]
    · show iM M 7 h = _; rw [l 7 (by omega), wM_7 h hh]; unfold k0; rw [if_pos (by omega)]
    · show iM M 9 h = _; rw [l 9 (by omega), wM_9, k0_z (by omega) (by omega) (by omega)]
    · show iM M 10 h = _; rw [l 10 (by omega), wM_10, k0_z (by omega) (by omega) (by omega)]
  · intro i hi; rw [l 54 (by omega), wM_54, iM_56]; simp
  · rw [l 0 (by omega), wM_012.1, e55]; rfl
  · rw [l 0 (by omega), wM_0 (by decide), z_mup_eq, z10.2.1, e55, ku_ne (by decide), ku_ne (by decide), ku_ne (by decide), z11 _ (by decide)]
  · rw [l 0 (by omega), wM_012.2, e55]; rfl
  · rw [l 0 (by omega), wM_0 (by decide), z_mup_eq, z10.2.2, e55, ku_ne (by decide), ku_ne (by decide), ku_ne (by decide), z11 _ (by decide)]
  · rw [l 30 (by omega), wM_30, z8, e55, ku_ne (by decide), ku_ne (by decide), ku_ne (by decide), z11 _ (by decide)]
  · rw [e55, ku_ne (by decide), ku_ne (by decide), ku_ne (by decide), z11 _ (by decide)]; omega
  · intro i; rw [l 31 (by omega), wM_31, iM_62]; rfl
  · intro i _; rw [iM_62]; simp
  · intro i hi; rw [iM_61]; simp only; rw [if_pos hi]
  · refine ⟨fun _ _ => 0, 0, ⟨?_, ?_, by omega, fun j hj => by omega⟩, ⟨by omega, fun j hj => by omega⟩, ?_, fun j hj => by omega⟩
    · rw [l 24 (by omega), wM_24, z2.1]; rfl
    · rw [l 24 (by omega), wM_24, z2.2]; omega
    · rw [e55, ku_ne (by decide), ku_ne (by decide), ku_ne (by decide), z11 _ (by decide)]; rfl
  · intro t ht; rw [iM_57, k0_z (by omega) (by omega) (by omega)] at ht; omega
  · intro t _; left; show iM M 11 t = -1; rw [l 11 (by omega), wM_11]
  · exact .inl ⟨by rw [iM_59], by rw [l 23 (by omega), wM_23]⟩
  · exact .inl ⟨by rw [iM_59], by rw [l 23 (by omega), wM_23]⟩
  · refine .inl ⟨by rw [e55, ku_eq], ?_, ?_⟩
    · rw [l 0 (by omega), wM_0 (by decide), z_mup_eq, z10.1]
    · rw [e55, ku_ne (by decide), ku_ne (by decide), ku_ne (by decide), z11 _ (by decide)]; omega
  · have e3 : iM M 0 3 = -1 := by rw [l 0 (by omega), wM_0 (by decide), z_mup_eq, z10.1]
    exact ⟨fun _ => by rw [l 23 (by omega), wM_23], fun j _ _ => e3⟩
  · intro j _; rw [l 42 (by omega), wM_42]; simp
  · intro j _; rw [l 48 (by omega), wM_48]; simp
  · intro j _; rw [l 52 (by omega), wM_52]; simp
  · intro j _; rw [l 50 (by omega), wM_50]; simp
  · intro j _; rw [iM_72]; simp
