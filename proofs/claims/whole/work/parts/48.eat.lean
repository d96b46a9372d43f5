/-! those who eat, and those who go -/
def ztr (f : Nat → Int) (i : Nat) : Nat → Int := fun h => if h < i then f h else 0
theorem ztr01 {f : Nat → Int} (h : z01 f) (i : Nat) : z01 (ztr f i) := fun j hj => by
  unfold ztr
  split
  · exact h j hj
  · exact Or.inl rfl
theorem ztr_0 {f : Nat → Int} : zmk (ztr f 0) = 0 := by simp [zmk, ztr]
theorem zmk_step {f : Nat → Int} {i : Nat} (hi : i < 8) : zmk (ztr f (i + 1)) = zmk (ztr f i) + 2 ^ i * f i := by
  have : i = 0 ∨ i = 1 ∨ i = 2 ∨ i = 3 ∨ i = 4 ∨ i = 5 ∨ i = 6 ∨ i = 7 := by omega
  rcases this with rfl | rfl | rfl | rfl | rfl | rfl | rfl | rfl <;> simp [zmk, ztr] <;> omega
theorem ztr_all {f : Nat → Int} {n : Nat} (h : ∀ j, j < 8 → n ≤ j → f j = 0) : zmk (ztr f n) = zmk f := by
  have e : ∀ j, j < 8 → ztr f n j = f j := fun j hj => by
    unfold ztr
    split
    · rfl
    · exact (h j hj (by omega)).symm
  unfold zmk
  rw [e 0 (by decide), e 1 (by decide), e 2 (by decide), e 3 (by decide), e 4 (by decide), e 5 (by decide), e 6 (by decide), e 7 (by decide)]
theorem zor_step {f : Nat → Int} (h : z01 f) {i : Nat} (hi : i < 8) (h1 : f i = 1) : zor (zmk (ztr f i)) (zshl 1 i) = zmk (ztr f (i + 1)) := by
  have hm := zmk_in (ztr01 h i)
  have h2 := zor_all (zmk (ztr f i)).toNat (by omega) i hi
  have hb := zmk_bit (ztr01 h i) (N := (zmk (ztr f i)).toNat) (by omega) i hi
  have e : ztr f i i = 0 := by simp [ztr]
  rw [e] at hb
  rw [Int.toNat_of_nonneg hm.1] at h2
  rw [h2 (by exact_mod_cast hb), zmk_step hi, h1, Int.mul_one]
theorem zor_0a : ∀ A : Nat, A < 256 → zor A 0 = A := by decide +kernel
theorem zor_0 {f : Nat → Int} (h : z01 f) : zor (zmk f) 0 = zmk f := by
  have hm := zmk_in h
  have h1 := zor_0a (zmk f).toNat (by omega)
  rwa [Int.toNat_of_nonneg hm.1] at h1
theorem zmk_same {f : Nat → Int} {i : Nat} (hi : i < 8) (h0 : f i = 0) : zmk (ztr f i) = zmk (ztr f (i + 1)) := by
  rw [zmk_step hi, h0]; simp
theorem zbit_mk {f : Nat → Int} (h : z01 f) {i : Nat} (hi : i < 8) : zbit (zmk f) (i : Int) = f i := by
  have hm := zmk_in h
  have h1 := zbit_all (zmk f).toNat (by omega) i hi
  have hb := zmk_bit h (N := (zmk f).toNat) (by omega) i hi
  rw [Int.toNat_of_nonneg hm.1] at h1
  rw [h1, ← hb]
  push_cast
  rw [Int.toNat_of_nonneg hm.1]
theorem zmk_div {f : Nat → Int} (h : z01 f) {i : Nat} (hi : i < 8) : zmk f / 2 ^ i % 2 = f i := by
  have hm := zmk_in h
  have hb := zmk_bit h (N := (zmk f).toNat) (by omega) i hi
  rw [← hb]
  push_cast
  rw [Int.toNat_of_nonneg hm.1]
theorem zpop_mk {f : Nat → Int} (h : z01 f) : z_pop (zmk f) = f 0 + f 1 + f 2 + f 3 + f 4 + f 5 + f 6 + f 7 := by
  have e := fun i (hi : i < 8) => zmk_div h hi
  rw [← z_pop_sum]
  simp only [zsum]
  rw [e 0 (by decide), e 1 (by decide), e 2 (by decide), e 3 (by decide), e 4 (by decide), e 5 (by decide), e 6 (by decide), e 7 (by decide), Int.zero_add]
def zdesI (Lw : List gC) (k : Nat → Int) (h : Nat) (lay crew : Int) : Int := if k 79 = -1 then 0 else if tellF 0 0 (lastF 15 (hdE k h lay crew) Lw) = 1 then 1 else 0
theorem zdesI_iff {Lw : List gC} {k : Nat → Int} {h : Nat} {lay crew : Int} : zdes Lw k h lay crew ↔ zdesI Lw k h lay crew = 1 := by
  unfold zdes zdesI
  by_cases h1 : k 79 = -1
  · simp [h1]
  · by_cases h2 : tellF 0 0 (lastF 15 (hdE k h lay crew) Lw) = 1
    · simp [h1, h2]
    · simp [h1, h2]
theorem zdesI_01 {Lw : List gC} {k : Nat → Int} {h : Nat} {lay crew : Int} : zdesI Lw k h lay crew = 0 ∨ zdesI Lw k h lay crew = 1 := by
  unfold zdesI
  split
  · exact Or.inl rfl
  · split
    · exact Or.inr rfl
    · exact Or.inl rfl
/-- who goes -/
def zoffI (Lw : List gC) (k : Nat → Int) (h : Nat) : Int := k (11 + h) * zdesI Lw k h (k (23 + h)) (zcrew k)
theorem zoff01 {Lw : List gC} {k : Nat → Int} (hi : KI k) : z01 (zoffI Lw k) := fun j hj => by
  have h1 := (hi.2.1 j hj).2.1
  have h2 : k (11 + j) = 0 ∨ k (11 + j) = 1 := by omega
  unfold zoffI
  rcases h2 with h2 | h2
  · rw [h2]; simp
  · rw [h2, Int.one_mul]; exact zdesI_01
theorem zoff_out {Lw : List gC} {k : Nat → Int} (hi : KI k) {j : Nat} (hj : j < 8) (h : k 75 ≤ (j : Int)) : zoffI Lw k j = 0 := by
  unfold zoffI
  rw [(hi.2.1 j hj).2.2.2.2.2 h, Int.zero_mul]
theorem zab01 {k : Nat → Int} (hi : KI k) : z01 (fun h => k (11 + h)) := fun j hj => by
  have h1 := (hi.2.1 j hj).2.1
  show k (11 + j) = 0 ∨ k (11 + j) = 1
  omega
/-- what a hand eats, if he is aboard -/
def zeatI (Lw : List gC) (k : Nat → Int) (h : Nat) : Int := if k (11 + h) = 1 then zeats Lw k h else 0
/-- those of g go ashore -/
def kOff (g : Nat → Int) (n : Nat) (k : Nat → Int) : Nat → Int := fun i => if 11 ≤ i ∧ i < 11 + n ∧ g (i - 11) = 1 then 0 else k i
theorem kOff_0 {g k : Nat → Int} : kOff g 0 k = k := by
  funext i
  unfold kOff
  rw [if_neg (by omega)]
theorem kOff_yes {g k : Nat → Int} {n : Nat} (h : g n = 1) : ku (kOff g n k) (11 + n) 0 = kOff g (n + 1) k := by
  funext i
  simp only [ku, kOff]
  by_cases h1 : i = 11 + n
  · rw [if_pos h1, if_pos ⟨by omega, by omega, by rw [h1, Nat.add_sub_cancel_left]; exact h⟩]
  · rw [if_neg h1]
    by_cases h2 : 11 ≤ i ∧ i < 11 + n ∧ g (i - 11) = 1
    · rw [if_pos h2, if_pos ⟨h2.1, by omega, h2.2.2⟩]
    · rw [if_neg h2, if_neg (fun hh => h2 ⟨hh.1, by omega, hh.2.2⟩)]
theorem kOff_no {g k : Nat → Int} {n : Nat} (h : g n ≠ 1) : kOff g n k = kOff g (n + 1) k := by
  funext i
  simp only [kOff]
  by_cases h1 : i = 11 + n
  · rw [if_neg (by omega), if_neg (fun hh => h (by have := hh.2.2; rwa [h1, Nat.add_sub_cancel_left] at this))]
  · by_cases h2 : 11 ≤ i ∧ i < 11 + n ∧ g (i - 11) = 1
    · rw [if_pos h2, if_pos ⟨h2.1, by omega, h2.2.2⟩]
    · rw [if_neg h2, if_neg (fun hh => h2 ⟨hh.1, by omega, hh.2.2⟩)]
theorem kOff_all {g k : Nat → Int} {n : Nat} (hn : n ≤ 8) (h : ∀ j, j < 8 → n ≤ j → g j = 0) : kOff g n k = kOff g 8 k := by
  funext i
  simp only [kOff]
  by_cases h2 : 11 ≤ i ∧ i < 11 + n ∧ g (i - 11) = 1
  · rw [if_pos h2, if_pos ⟨h2.1, by omega, h2.2.2⟩]
  · rw [if_neg h2, if_neg (fun hh => h2 ⟨hh.1, by
      by_cases h3 : i < 11 + n
      · exact h3
      · exfalso
        have := h (i - 11) (by omega) (by omega)
        have h4 := hh.2.2
        omega, hh.2.2⟩)]
theorem kOff_75 {g k : Nat → Int} {n : Nat} (hn : n ≤ 8) : kOff g n k 75 = k 75 := by
  unfold kOff
  rw [if_neg (by omega)]
theorem mF_up {M M1 : zMem} {f : Nat → Int} {i : Nat} {v : Int} (h : mF (z_mup M 68 f) M1) : mF (z_mup M 68 (ku f i v)) (z_up M1 68 i v) := by
  refine ⟨fun j a b => ?_, fun j a b c d => ?_⟩
  · by_cases hj : j = 68
    · subst hj
      rw [z_mup_eq, z_upm, z_mup_eq, h.1 68 a b, z_mup_eq]
    · rw [z_up_ne hj, z_mup_ne hj, h.1 j a b, z_mup_ne hj]
  · rw [z_up_ne (by decide), z_mup_ne (by decide), h.2 j a b c d, z_mup_ne (by decide)]

set_option maxRecDepth 100000 in
set_option maxHeartbeats 4000000 in
theorem c_X11_aboardNow {d sz : Nat} {S : zSh} {M : zMem} (hL : LY S sz) (hi : KI (M 57))  : zX (d + 1) 0 0 mX11_aboardNow [zn 55] sz S M (zI sz S (fun r M' => r = zmask (M 57) ∧ M' = M)) := by
  have i1 := hi.1
  have hf := zab01 hi
  have loop : ∀ (q n : Nat) (y : Int), (M 57 75).toNat < q + n → n ≤ (M 57 75).toNat → y = zmk (ztr (fun h => M 57 (11 + h)) n) → zW mX11_aboardNow (d + 1) 0 0 [] (zI sz S (fun r M' => r = zmask (M 57) ∧ M' = M)) 4 [some (zn 55), some (zi y), some (zi n)] [] sz S M := by
    intro q
    induction q with
    | zero => intro n y hq hn; omega
    | succ q ih =>
      intro n y hq hn h1
      refine x_iload_n 5 rfl dX11_aboardNow_4 2 rfl rfl ?_
      refine x_aload_n 6 rfl dX11_aboardNow_5 0 rfl rfl ?_
      refine x_getr 9 rfl fX11_24 dX11_aboardNow_6 (lyl55 hL) (lys55 hL) (by decide) (57) rfl ?_
      refine x_bipush 11 rfl dX11_aboardNow_9 (by decide) ?_
      refine x_ialk 12 rfl dX11_aboardNow_11 (lyl57 hL) (lys57 hL) 75 rfl (by decide) ?_
      refine x_icmp_ge 15 39 rfl dX11_aboardNow_12 (by decide) (fun c12 => ?_) (fun c12 => ?_)
      · refine x_iload_n 40 rfl dX11_aboardNow_39 1 rfl rfl ?_
        refine x_reti dX11_aboardNow_40 rfl ?_
        refine ⟨?_, rfl⟩
        rw [h1, ztr_all (fun j hj h8 => (hi.2.1 j hj).2.2.2.2.2 (by omega))]
        rfl
      · have i2 := (hi.2.1 n (by omega)).2.1
        refine x_iload_n 16 rfl dX11_aboardNow_15 1 rfl rfl ?_
        refine x_aload_n 17 rfl dX11_aboardNow_16 0 rfl rfl ?_
        refine x_iload_n 18 rfl dX11_aboardNow_17 2 rfl rfl ?_
        refine x_cVi 21 rfl lX11_118 dX11_aboardNow_18 (lyl55 hL) (lys55 hL) (c_X11_isAboard hL hi (by omega)) rfl rfl (Nat.le_of_ble_eq_true rfl) (fun r M1 hr1 => ?_)
        obtain ⟨rfl, hM1⟩ := hr1
        rw [hM1]
        refine x_if_eq 24 30 rfl dX11_aboardNow_21 (by decide) (fun c21 => ?_) (fun c21 => ?_)
        · refine x_iconst 31 rfl dX11_aboardNow_30 (by decide) ?_
          refine x_ior 32 rfl dX11_aboardNow_31 ?_
          refine y_istore_n 33 rfl dX11_aboardNow_32 rfl rfl (ls' := [_, _, _]) rfl (by decide) ?_
          refine w_iinc 36 rfl dX11_aboardNow_33 rfl (by decide) (by omega) rfl (ls' := [_, _, _]) rfl (by decide) ?_
          refine x_goto 4 dX11_aboardNow_36 (by decide) ?_
          rw [Int.toNat_natCast] at c21
          exact ih (n + 1) _ (by omega) (by omega) (by rw [h1, zor_0 (ztr01 hf n)]; exact zmk_same (by omega) c21)
        · refine x_iconst 25 rfl dX11_aboardNow_24 (by decide) ?_
          refine x_iload_n 26 rfl dX11_aboardNow_25 2 rfl rfl ?_
          refine x_ishl 27 rfl dX11_aboardNow_26 ?_
          refine x_goto 31 dX11_aboardNow_27 (by decide) ?_
          refine x_ior 32 rfl dX11_aboardNow_31 ?_
          refine y_istore_n 33 rfl dX11_aboardNow_32 rfl rfl (ls' := [_, _, _]) rfl (by decide) ?_
          refine w_iinc 36 rfl dX11_aboardNow_33 rfl (by decide) (by omega) rfl (ls' := [_, _, _]) rfl (by decide) ?_
          refine x_goto 4 dX11_aboardNow_36 (by decide) ?_
          rw [Int.toNat_natCast] at c21
          exact ih (n + 1) _ (by omega) (by omega) (by rw [h1]; exact zor_step hf (by omega) (by show M 57 (11 + n) = 1; omega))
  refine zX_of pl_RX11 [some (zn 55), none, none] 2 rfl rfl ?_
  refine x_iconst 1 rfl dX11_aboardNow_0 (by decide) ?_
  refine y_istore_n 2 rfl dX11_aboardNow_1 rfl rfl (ls' := [_, _, _]) rfl (by decide) ?_
  refine x_iconst 3 rfl dX11_aboardNow_2 (by decide) ?_
  refine y_istore_n 4 rfl dX11_aboardNow_3 rfl rfl (ls' := [_, _, _]) rfl (by decide) ?_
  exact loop ((M 57 75).toNat + 1) 0 0 (by omega) (by omega) ztr_0.symm

set_option maxRecDepth 100000 in
set_option maxHeartbeats 4000000 in
theorem c_X11_allEat {d sz : Nat} {S : zSh} {M : zMem} (hL : LY S sz) (hi : KI (M 57)) {Lw : List gC} (hLw : LwI (M 57) Lw)  : zX (d + 44) 0 0 mX11_allEat [zn 55] sz S M (zU sz S (fun M' => ∃ f, mF (z_mup M 68 f) M' ∧ ∀ h : Nat, (h : Int) < M 57 75 → f h = zeatI Lw (M 57) h)) := by
  have i1 := hi.1
  have loop : ∀ (q n : Nat) (f : Nat → Int) (M1 : zMem), (M 57 75).toNat < q + n → n ≤ (M 57 75).toNat → (∀ h, h < n → f h = zeatI Lw (M 57) h) → mF (z_mup M 68 f) M1 → zW mX11_allEat (d + 44) 0 0 [] (zU sz S (fun M' => ∃ f, mF (z_mup M 68 f) M' ∧ ∀ h : Nat, (h : Int) < M 57 75 → f h = zeatI Lw (M 57) h)) 2 [some (zn 55), some (zi n)] [] sz S M1 := by
    intro q
    induction q with
    | zero => intro n f M1 hq hn; omega
    | succ q ih =>
      intro n f M1 hq hn h1 h2
      have hk : M1 57 = M 57 := by rw [h2.1 57 (by decide) (by decide), z_mup_ne (by decide)]
      have hi1 : KI (M1 57) := by rw [hk]; exact hi
      have hk75 : M1 57 75 = M 57 75 := by rw [hk]
      have hLw1 : LwI (M1 57) Lw := by rw [hk]; exact hLw
      refine x_iload_n 3 rfl dX11_allEat_2 1 rfl rfl ?_
      refine x_aload_n 4 rfl dX11_allEat_3 0 rfl rfl ?_
      refine x_getr 7 rfl fX11_24 dX11_allEat_4 (lyl55 hL) (lys55 hL) (by decide) (57) rfl ?_
      refine x_bipush 9 rfl dX11_allEat_7 (by decide) ?_
      refine x_ialk 10 rfl dX11_allEat_9 (lyl57 hL) (lys57 hL) 75 rfl (by decide) ?_
      refine x_icmp_ge 13 42 rfl dX11_allEat_10 (by decide) (fun c10 => ?_) (fun c10 => ?_)
      · refine x_retu dX11_allEat_42 rfl ?_
        exact ⟨f, h2, fun h hh => h1 h (by omega)⟩
      · have i2 := (hi.2.1 n (by omega)).2.1
        refine x_aload_n 14 rfl dX11_allEat_13 0 rfl rfl ?_
        refine x_getr 17 rfl fX11_62 dX11_allEat_14 (lyl55 hL) (lys55 hL) (by decide) (68) rfl ?_
        refine x_iload_n 18 rfl dX11_allEat_17 1 rfl rfl ?_
        refine x_aload_n 19 rfl dX11_allEat_18 0 rfl rfl ?_
        refine x_iload_n 20 rfl dX11_allEat_19 1 rfl rfl ?_
        refine x_cVi 23 rfl lX11_118 dX11_allEat_20 (lyl55 hL) (lys55 hL) (c_X11_isAboard hL hi1 (by omega)) rfl rfl (Nat.le_of_ble_eq_true rfl) (fun r M2 hr1 => ?_)
        obtain ⟨hr, hM2⟩ := hr1
        rw [hM2]
        rw [Int.toNat_natCast, hk] at hr
        refine x_if_eq 26 34 rfl dX11_allEat_23 (by decide) (fun c23 => ?_) (fun c23 => ?_)
        · refine x_iconst 35 rfl dX11_allEat_34 (by decide) ?_
          refine x_iast 36 rfl dX11_allEat_35 (lyl68 hL) (lys68 hL) (by omega) (by omega) ?_
          refine w_iinc 39 rfl dX11_allEat_36 rfl (by decide) (by omega) rfl (ls' := [_, _]) rfl (by decide) ?_
          refine x_goto 2 dX11_allEat_39 (by decide) ?_
          rw [Int.toNat_natCast]
          exact ih (n + 1) _ _ (by omega) (by omega) (fun h hh => by simp only [ku]; split; (subst_vars; unfold zeatI; rw [if_neg (by omega)]); exact h1 h (by omega)) (mF_up h2)
        · refine x_aload_n 27 rfl dX11_allEat_26 0 rfl rfl ?_
          refine x_iload_n 28 rfl dX11_allEat_27 1 rfl rfl ?_
          refine x_cVi 31 rfl lX11_105 dX11_allEat_28 (lyl55 hL) (lys55 hL) (c_X11_eatsFor hL hi1 hLw1 (by omega)) rfl rfl (Nat.le_of_ble_eq_true rfl) (fun r1 M3 hr3 => ?_)
          obtain ⟨hr4, h5⟩ := hr3
          rw [Int.toNat_natCast, hk] at hr4
          refine x_goto 35 dX11_allEat_31 (by decide) ?_
          refine x_iast 36 rfl dX11_allEat_35 (lyl68 hL) (lys68 hL) (by omega) (by omega) ?_
          refine w_iinc 39 rfl dX11_allEat_36 rfl (by decide) (by omega) rfl (ls' := [_, _]) rfl (by decide) ?_
          refine x_goto 2 dX11_allEat_39 (by decide) ?_
          rw [Int.toNat_natCast]
          exact ih (n + 1) _ _ (by omega) (by omega) (fun h hh => by simp only [ku]; split; (rename_i h9; rw [h9, hr4]; unfold zeatI; rw [if_pos (by omega)]); exact h1 h (by omega)) (mF_up (mF_trans h2 h5))
  refine zX_of pl_RX11 [some (zn 55), none] 1 rfl rfl ?_
  refine x_iconst 1 rfl dX11_allEat_0 (by decide) ?_
  refine y_istore_n 2 rfl dX11_allEat_1 rfl rfl (ls' := [_, _]) rfl (by decide) ?_
  exact loop ((M 57 75).toNat + 1) 0 (M 68) M (by omega) (by omega) (fun h hh => by omega) (by rw [z_mup_self]; exact mF_refl)

set_option maxRecDepth 100000 in
set_option maxHeartbeats 4000000 in
theorem c_X11_offNow {d sz : Nat} {S : zSh} {M : zMem} (hL : LY S sz) (hi : KI (M 57)) {Lw : List gC} (hLw : LwI (M 57) Lw)  : zX (d + 44) 0 0 mX11_offNow [zn 55] sz S M (zI sz S (fun r M' => r = zmk (zoffI Lw (M 57)) ∧ mF M M')) := by
  have i1 := hi.1
  have i3 := zcrew_in hi
  have hf := zoff01 (Lw := Lw) hi
  have loop : ∀ (q n : Nat) (y : Int) (M1 : zMem), (M 57 75).toNat < q + n → n ≤ (M 57 75).toNat → y = zmk (ztr (zoffI Lw (M 57)) n) → mF M M1 → zW mX11_offNow (d + 44) 0 0 [] (zI sz S (fun r M' => r = zmk (zoffI Lw (M 57)) ∧ mF M M')) 9 [some (zn 55), some (zi (zcrew (M 57))), some (zi y), some (zi n)] [] sz S M1 := by
    intro q
    induction q with
    | zero => intro n y M1 hq hn; omega
    | succ q ih =>
      intro n y M1 hq hn h1 h2
      have hk : M1 57 = M 57 := h2.1 57 (by decide) (by decide)
      have hi1 : KI (M1 57) := by rw [hk]; exact hi
      have hk75 : M1 57 75 = M 57 75 := by rw [hk]
      have hLw1 : LwI (M1 57) Lw := by rw [hk]; exact hLw
      refine x_iload_n 10 rfl dX11_offNow_9 3 rfl rfl ?_
      refine x_aload_n 11 rfl dX11_offNow_10 0 rfl rfl ?_
      refine x_getr 14 rfl fX11_24 dX11_offNow_11 (lyl55 hL) (lys55 hL) (by decide) (57) rfl ?_
      refine x_bipush 16 rfl dX11_offNow_14 (by decide) ?_
      refine x_ialk 17 rfl dX11_offNow_16 (lyl57 hL) (lys57 hL) 75 rfl (by decide) ?_
      refine x_icmp_ge 20 65 rfl dX11_offNow_17 (by decide) (fun c17 => ?_) (fun c17 => ?_)
      · refine x_iload_n 66 rfl dX11_offNow_65 2 rfl rfl ?_
        refine x_reti dX11_offNow_66 rfl ?_
        refine ⟨?_, h2⟩
        rw [h1, ztr_all (fun j hj h8 => zoff_out hi hj (by omega))]
      · have i2 := hi.2.1 n (by omega)
        refine x_aload_n 21 rfl dX11_offNow_20 0 rfl rfl ?_
        refine x_iload_n 22 rfl dX11_offNow_21 3 rfl rfl ?_
        refine x_cVi 25 rfl lX11_118 dX11_offNow_22 (lyl55 hL) (lys55 hL) (c_X11_isAboard hL hi1 (by omega)) rfl rfl (Nat.le_of_ble_eq_true rfl) (fun r M2 hr1 => ?_)
        obtain ⟨hr, hM2⟩ := hr1
        rw [hM2]
        rw [Int.toNat_natCast, hk] at hr
        refine x_if_ne 28 31 rfl dX11_offNow_25 (by decide) (fun c25 => ?_) (fun c25 => ?_)
        · refine x_iload_n 32 rfl dX11_offNow_31 2 rfl rfl ?_
          refine x_aload_n 33 rfl dX11_offNow_32 0 rfl rfl ?_
          refine x_iload_n 34 rfl dX11_offNow_33 3 rfl rfl ?_
          refine x_aload_n 35 rfl dX11_offNow_34 0 rfl rfl ?_
          refine x_getr 38 rfl fX11_24 dX11_offNow_35 (lyl55 hL) (lys55 hL) (by decide) (57) rfl ?_
          refine x_bipush 40 rfl dX11_offNow_38 (by decide) ?_
          refine x_iload_n 41 rfl dX11_offNow_40 3 rfl rfl ?_
          refine y_iadd 42 rfl dX11_offNow_41 (by omega) ?_
          refine x_iald 43 rfl dX11_offNow_42 (lyl57 hL) (lys57 hL) (by omega) (by omega) ?_
          rw [show ((23 : Int) + (n : Int)).toNat = 23 + n by omega]
          refine x_iload_n 44 rfl dX11_offNow_43 1 rfl rfl ?_
          refine x_cVi 47 rfl lX11_112 dX11_offNow_44 (lyl55 hL) (lys55 hL) (c_X11_deserts hL hi1 hLw1 (by omega) (by rw [hk]; omega) i3) rfl rfl (Nat.le_of_ble_eq_true rfl) (fun r1 M3 hr3 => ?_)
          obtain ⟨hr4, h5⟩ := hr3
          rw [Int.toNat_natCast, hk, zdesI_iff] at hr4
          have hz : zoffI Lw (M 57) n = zdesI Lw (M 57) n (M 57 (23 + n)) (zcrew (M 57)) := by unfold zoffI; rw [← hr, show r = 1 by omega, Int.one_mul]
          refine x_if_eq 50 56 rfl dX11_offNow_47 (by decide) (fun c47 => ?_) (fun c47 => ?_)
          · refine x_iconst 57 rfl dX11_offNow_56 (by decide) ?_
            refine x_ior 58 rfl dX11_offNow_57 ?_
            refine y_istore_n 59 rfl dX11_offNow_58 rfl rfl (ls' := [_, _, _, _]) rfl (by decide) ?_
            refine w_iinc 62 rfl dX11_offNow_59 rfl (by decide) (by omega) rfl (ls' := [_, _, _, _]) rfl (by decide) ?_
            refine x_goto 9 dX11_offNow_62 (by decide) ?_
            exact ih (n + 1) _ _ (by omega) (by omega) (by rw [h1, zor_0 (ztr01 hf n)]; exact zmk_same (by omega) (by rcases hf n (by omega) with h9 | h9; exact h9; exfalso; omega)) (mF_trans h2 h5)
          · refine x_iconst 51 rfl dX11_offNow_50 (by decide) ?_
            refine x_iload_n 52 rfl dX11_offNow_51 3 rfl rfl ?_
            refine x_ishl 53 rfl dX11_offNow_52 ?_
            refine x_goto 57 dX11_offNow_53 (by decide) ?_
            refine x_ior 58 rfl dX11_offNow_57 ?_
            refine y_istore_n 59 rfl dX11_offNow_58 rfl rfl (ls' := [_, _, _, _]) rfl (by decide) ?_
            refine w_iinc 62 rfl dX11_offNow_59 rfl (by decide) (by omega) rfl (ls' := [_, _, _, _]) rfl (by decide) ?_
            refine x_goto 9 dX11_offNow_62 (by decide) ?_
            exact ih (n + 1) _ _ (by omega) (by omega) (by rw [h1]; exact zor_step hf (by omega) (by omega)) (mF_trans h2 h5)
        · refine x_goto 59 dX11_offNow_28 (by decide) ?_
          refine w_iinc 62 rfl dX11_offNow_59 rfl (by decide) (by omega) rfl (ls' := [_, _, _, _]) rfl (by decide) ?_
          refine x_goto 9 dX11_offNow_62 (by decide) ?_
          exact ih (n + 1) _ _ (by omega) (by omega) (by rw [h1]; exact zmk_same (by omega) (by unfold zoffI; rw [← hr, c25, Int.zero_mul])) h2
  refine zX_of pl_RX11 [some (zn 55), none, none, none] 3 rfl rfl ?_
  refine x_aload_n 1 rfl dX11_offNow_0 0 rfl rfl ?_
  refine x_cVi 4 rfl lX11_108 dX11_offNow_1 (lyl55 hL) (lys55 hL) (c_X11_crewNow hL hi) rfl rfl (Nat.le_of_ble_eq_true rfl) (fun r M1 hr1 => ?_)
  obtain ⟨rfl, hM1⟩ := hr1
  rw [hM1]
  refine y_istore_n 5 rfl dX11_offNow_4 rfl rfl (ls' := [_, _, _, _]) rfl (by decide) ?_
  refine x_iconst 6 rfl dX11_offNow_5 (by decide) ?_
  refine y_istore_n 7 rfl dX11_offNow_6 rfl rfl (ls' := [_, _, _, _]) rfl (by decide) ?_
  refine x_iconst 8 rfl dX11_offNow_7 (by decide) ?_
  refine y_istore_n 9 rfl dX11_offNow_8 rfl rfl (ls' := [_, _, _, _]) rfl (by decide) ?_
  exact loop ((M 57 75).toNat + 1) 0 0 M (by omega) (by omega) ztr_0.symm mF_refl

set_option maxRecDepth 100000 in
set_option maxHeartbeats 4000000 in
theorem c_X11_goesOff {d sz : Nat} {S : zSh} {M : zMem} (hL : LY S sz) (hi : KI (M 57)) {g : Nat → Int} (hg : z01 g) (hg0 : ∀ j : Nat, j < 8 → M 57 75 ≤ (j : Int) → g j = 0) : zX (d + 1) 0 0 mX11_goesOff [zn 55, zi (zmk g)] sz S M (zI sz S (fun r M' => r = g 0 + g 1 + g 2 + g 3 + g 4 + g 5 + g 6 + g 7 ∧ M' = z_mup M 57 (kOff g 8 (M 57)))) := by
  have i1 := hi.1
  have loop : ∀ (q n : Nat), (M 57 75).toNat < q + n → n ≤ (M 57 75).toNat → zW mX11_goesOff (d + 1) 0 0 [] (zI sz S (fun r M' => r = g 0 + g 1 + g 2 + g 3 + g 4 + g 5 + g 6 + g 7 ∧ M' = z_mup M 57 (kOff g 8 (M 57)))) 2 [some (zn 55), some (zi (zmk g)), some (zi n)] [] sz S (z_mup M 57 (kOff g n (M 57))) := by
    intro q
    induction q with
    | zero => intro n hq hn; omega
    | succ q ih =>
      intro n hq hn
      have h75 : z_mup M 57 (kOff g n (M 57)) 57 75 = M 57 75 := by rw [z_mup_eq]; exact kOff_75 (by omega)
      refine x_iload_n 3 rfl dX11_goesOff_2 2 rfl rfl ?_
      refine x_aload_n 4 rfl dX11_goesOff_3 0 rfl rfl ?_
      refine x_getr 7 rfl fX11_24 dX11_goesOff_4 (lyl55 hL) (lys55 hL) (by decide) (57) rfl ?_
      refine x_bipush 9 rfl dX11_goesOff_7 (by decide) ?_
      refine x_ialk 10 rfl dX11_goesOff_9 (lyl57 hL) (lys57 hL) 75 rfl (by decide) ?_
      refine x_icmp_ge 13 37 rfl dX11_goesOff_10 (by decide) (fun c10 => ?_) (fun c10 => ?_)
      · refine x_iload_n 38 rfl dX11_goesOff_37 1 rfl rfl ?_
        refine x_cSi 41 rfl lX11_319 dX11_goesOff_38 (c_X11_ones (zmk_in hg)) rfl rfl (Nat.le_of_ble_eq_true rfl) (fun r M1 hr1 => ?_)
        obtain ⟨rfl, hM1⟩ := hr1
        rw [hM1]
        refine x_reti dX11_goesOff_41 rfl ?_
        refine ⟨zpop_mk hg, ?_⟩
        rw [show n = (M 57 75).toNat by omega, kOff_all (by omega) (fun j hj h8 => hg0 j hj (by omega))]
      · refine x_iload_n 14 rfl dX11_goesOff_13 1 rfl rfl ?_
        refine x_iload_n 15 rfl dX11_goesOff_14 2 rfl rfl ?_
        refine x_cSi 18 rfl lX11_316 dX11_goesOff_15 c_X11_isIn rfl rfl (Nat.le_of_ble_eq_true rfl) (fun r M1 hr1 => ?_)
        obtain ⟨rfl, hM1⟩ := hr1
        rw [hM1]
        refine x_if_eq 21 31 rfl dX11_goesOff_18 (by decide) (fun c18 => ?_) (fun c18 => ?_)
        · refine w_iinc 34 rfl dX11_goesOff_31 rfl (by decide) (by omega) rfl (ls' := [_, _, _]) rfl (by decide) ?_
          refine x_goto 2 dX11_goesOff_34 (by decide) ?_
          rw [zbit_mk hg (by omega)] at c18
          rw [kOff_no (g := g) (k := M 57) (n := n) (by omega)]
          exact ih (n + 1) (by omega) (by omega)
        · refine x_aload_n 22 rfl dX11_goesOff_21 0 rfl rfl ?_
          refine x_getr 25 rfl fX11_24 dX11_goesOff_22 (lyl55 hL) (lys55 hL) (by decide) (57) rfl ?_
          refine x_bipush 27 rfl dX11_goesOff_25 (by decide) ?_
          refine x_iload_n 28 rfl dX11_goesOff_27 2 rfl rfl ?_
          refine y_iadd 29 rfl dX11_goesOff_28 (by omega) ?_
          refine x_iconst 30 rfl dX11_goesOff_29 (by decide) ?_
          refine x_iast 31 rfl dX11_goesOff_30 (lyl57 hL) (lys57 hL) (by omega) (by omega) ?_
          refine w_iinc 34 rfl dX11_goesOff_31 rfl (by decide) (by omega) rfl (ls' := [_, _, _]) rfl (by decide) ?_
          refine x_goto 2 dX11_goesOff_34 (by decide) ?_
          rw [zbit_mk hg (by omega)] at c18
          refine z_mem (M' := z_mup M 57 (kOff g (n + 1) (M 57))) (by rw [show ((11 : Int) + (n : Int)).toNat = 11 + n by omega, z_mupm, kOff_yes (by have := hg n (by omega); omega)]) (ih (n + 1) (by omega) (by omega))
  refine zX_of pl_RX11 [some (zn 55), some (zi (zmk g)), none] 1 rfl rfl ?_
  refine x_iconst 1 rfl dX11_goesOff_0 (by decide) ?_
  refine y_istore_n 2 rfl dX11_goesOff_1 rfl rfl (ls' := [_, _, _]) rfl (by decide) ?_
  refine z_mem (M' := z_mup M 57 (kOff g 0 (M 57))) (by rw [kOff_0, z_mup_self]) (loop ((M 57 75).toNat + 1) 0 (by omega) (by omega))
