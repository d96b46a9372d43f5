/-! barrels -/
def zhw (k : Nat → Int) (j : Nat) : Nat := (k (57 + 2 * j)).toNat
def zfr (k : Nat → Int) (j : Nat) : Int := k (58 + 2 * j) * k (23 + zhw k j) - k 1
def zto (k : Nat → Int) (j : Nat) : Int := zfr k j + k (23 + zhw k j) - 1
def zwg (k : Nat → Int) : Nat → Int × Int
  | 0 => (0, k 73)
  | n + 1 => if 0 < zprice k (k 2) then (max (zwg k n).1 ((zfr k n + zprice k (k 2) - 1) / zprice k (k 2)), min (zwg k n).2 (zto k n / zprice k (k 2))) else if 0 < zfr k n ∨ zto k n < 0 then ((zwg k n).1, -1) else zwg k n
theorem zwd_in {k : Nat → Int} (hi : KI k) {n : Nat} (hn : (n : Int) < k 77) : (0 ≤ k (57 + 2 * n) ∧ k (57 + 2 * n) < k 75) ∧ zhw k n < 8 ∧ (1 ≤ k (23 + zhw k n) ∧ k (23 + zhw k n) ≤ 999) ∧ (0 ≤ k (58 + 2 * n) ∧ k (58 + 2 * n) ≤ 999999) ∧ (0 ≤ k (58 + 2 * n) * k (23 + zhw k n) ∧ k (58 + 2 * n) * k (23 + zhw k n) ≤ 998999001) := by
  have i1 := hi.1
  have i2 := hi.2.2.2.2.1 n (by omega)
  have h1 : k (57 + 2 * n) < k 75 := i2.2.2 hn
  have h2 : zhw k n < 8 := by unfold zhw; omega
  have i3 := hi.2.1 (zhw k n) h2
  have h3 : ((zhw k n : Nat) : Int) < k 75 := by unfold zhw; omega
  have h4 := i3.2.2.2.2.1 h3
  refine ⟨⟨i2.1.1, h1⟩, h2, ⟨h4, by omega⟩, i2.2.1, Int.mul_nonneg i2.2.1.1 (by omega), ?_⟩
  have := Int.mul_le_mul (a := k (58 + 2 * n)) (b := k (23 + zhw k n)) (c := 999999) (d := 999) i2.2.1.2 (by omega) (by omega) (by omega)
  omega
theorem zwg_s {k : Nat → Int} (hi : KI k) {n : Nat} (hn : (n : Int) < k 77) {o : Int} (ho : 0 ≤ o) : ((zwg k (n + 1)).1 ≤ o ∧ o ≤ (zwg k (n + 1)).2) ↔ (((zwg k n).1 ≤ o ∧ o ≤ (zwg k n).2) ∧ zwhole k (zhw k n) o = k (58 + 2 * n)) := by
  have i1 := hi.1
  obtain ⟨h1, h2, h3, h4, h5⟩ := zwd_in hi hn
  have hp := zprice_in hi (m := k 2) (by omega)
  have hw : zwhole k (zhw k n) o = k (58 + 2 * n) ↔ zfr k n ≤ o * zprice k (k 2) ∧ o * zprice k (k 2) ≤ zto k n := by
    unfold zwhole zmoney zto zfr
    generalize hq : k (58 + 2 * n) = q
    generalize k (23 + zhw k n) = l at h3
    generalize o * zprice k (k 2) = m
    have a1 : q ≤ (k 1 + m) / l ↔ q * l ≤ k 1 + m := Int.le_ediv_iff_mul_le (by omega)
    have a2 : (k 1 + m) / l < q + 1 ↔ k 1 + m < (q + 1) * l := Int.ediv_lt_iff_lt_mul (by omega)
    rw [Int.add_mul, Int.one_mul] at a2
    generalize q * l = ql at a1 a2
    omega
  have e : zwg k (n + 1) = if 0 < zprice k (k 2) then (max (zwg k n).1 ((zfr k n + zprice k (k 2) - 1) / zprice k (k 2)), min (zwg k n).2 (zto k n / zprice k (k 2))) else if 0 < zfr k n ∨ zto k n < 0 then ((zwg k n).1, -1) else zwg k n := rfl
  rw [e, hw]
  rcases hz : zwg k n with ⟨a, b⟩
  by_cases hpp : 0 < zprice k (k 2)
  · rw [if_pos hpp]
    have a1 : (zfr k n + zprice k (k 2) - 1) / zprice k (k 2) < o + 1 ↔ zfr k n + zprice k (k 2) - 1 < (o + 1) * zprice k (k 2) := Int.ediv_lt_iff_lt_mul hpp
    have a2 : o ≤ zto k n / zprice k (k 2) ↔ o * zprice k (k 2) ≤ zto k n := Int.le_ediv_iff_mul_le hpp
    rw [Int.add_mul, Int.one_mul] at a1
    show (max a ((zfr k n + zprice k (k 2) - 1) / zprice k (k 2)) ≤ o ∧ o ≤ min b (zto k n / zprice k (k 2))) ↔ ((a ≤ o ∧ o ≤ b) ∧ _)
    generalize o * zprice k (k 2) = m at a1 a2
    generalize (zfr k n + zprice k (k 2) - 1) / zprice k (k 2) = u at a1
    generalize zto k n / zprice k (k 2) = w at a2
    omega
  · rw [if_neg hpp, show zprice k (k 2) = 0 by omega, Int.mul_zero]
    by_cases hb : 0 < zfr k n ∨ zto k n < 0
    · rw [if_pos hb]
      show (a ≤ o ∧ o ≤ -1) ↔ ((a ≤ o ∧ o ≤ b) ∧ _)
      omega
    · rw [if_neg hb]
      show (a ≤ o ∧ o ≤ b) ↔ ((a ≤ o ∧ o ≤ b) ∧ _)
      omega
theorem zwg_in {k : Nat → Int} (hi : KI k) : ∀ n : Nat, (n : Int) ≤ k 77 → 0 ≤ (zwg k n).1 ∧ (zwg k n).1 ≤ 1000000000 ∧ -2000000 ≤ (zwg k n).2 ∧ (zwg k n).2 ≤ k 73
  | 0, _ => by have i1 := hi.1; show (0 : Int) ≤ 0 ∧ (0 : Int) ≤ 1000000000 ∧ -2000000 ≤ k 73 ∧ k 73 ≤ k 73; omega
  | n + 1, hn => by
    have i1 := hi.1
    have ih := zwg_in hi n (by omega)
    obtain ⟨h1, h2, h3, h4, h5⟩ := zwd_in hi (n := n) (by omega)
    have hp := zprice_in hi (m := k 2) (by omega)
    have e : zwg k (n + 1) = if 0 < zprice k (k 2) then (max (zwg k n).1 ((zfr k n + zprice k (k 2) - 1) / zprice k (k 2)), min (zwg k n).2 (zto k n / zprice k (k 2))) else if 0 < zfr k n ∨ zto k n < 0 then ((zwg k n).1, -1) else zwg k n := rfl
    rw [e]
    rcases hz : zwg k n with ⟨a, b⟩
    rw [hz] at ih
    have ih : 0 ≤ a ∧ a ≤ 1000000000 ∧ -2000000 ≤ b ∧ b ≤ k 73 := ih
    by_cases hpp : 0 < zprice k (k 2)
    · rw [if_pos hpp]
      have f1 : -1000000 ≤ zfr k n ∧ zfr k n ≤ 998999001 := by unfold zfr; omega
      have f2 : -1000000 ≤ zto k n := by unfold zto; omega
      have g1 : (zfr k n + zprice k (k 2) - 1) / zprice k (k 2) < 1000000001 := Int.ediv_lt_of_lt_mul hpp (by omega)
      have g2 : -1000000 ≤ zto k n / zprice k (k 2) := (Int.le_ediv_iff_mul_le hpp).2 (by omega)
      show 0 ≤ max a _ ∧ max a _ ≤ 1000000000 ∧ -2000000 ≤ min b _ ∧ min b _ ≤ k 73
      omega
    · rw [if_neg hpp]
      by_cases hb : 0 < zfr k n ∨ zto k n < 0
      · rw [if_pos hb]
        show 0 ≤ a ∧ a ≤ 1000000000 ∧ -2000000 ≤ (-1 : Int) ∧ (-1 : Int) ≤ k 73
        omega
      · rw [if_neg hb]; exact ih
/-- what can be by the first n words -/
def zcb (k : Nat → Int) (n : Nat) (o : Int) : Prop := (zwg k n).1 ≤ o ∧ o ≤ (zwg k n).2
theorem zcb_mono {k : Nat → Int} (hi : KI k) {o : Int} (ho : 0 ≤ o) {n : Nat} : ∀ j : Nat, ((n + j : Nat) : Int) ≤ k 77 → zcb k (n + j) o → zcb k n o
  | 0, _, h => h
  | j + 1, hj, h => zcb_mono hi ho j (by omega) ((zwg_s hi (n := n + j) (by omega) ho).1 h).1

set_option maxRecDepth 100000 in
set_option maxHeartbeats 4000000 in
theorem c_X11_canBe {d sz : Nat} {S : zSh} {M : zMem} (hL : LY S sz) (hi : KI (M 57)) {x : Int} (hx : 0 ≤ x ∧ x ≤ M 57 73) : zX (d + 3) 0 0 mX11_canBe [zn 55, zi x] sz S M (zI sz S (fun r M' => ((r = 1 ∧ zcb (M 57) (M 57 77).toNat x) ∨ (r = 0 ∧ ¬ zcb (M 57) (M 57 77).toNat x)) ∧ M' = M)) := by
  have i1 := hi.1
  have loop : ∀ (q n : Nat) (b : Int), (M 57 77).toNat < q + n → n ≤ (M 57 77).toNat → ((b = 1 ∧ zcb (M 57) n x) ∨ (b = 0 ∧ ¬ zcb (M 57) n x)) → zW mX11_canBe (d + 3) 0 0 [] (zI sz S (fun r M' => ((r = 1 ∧ zcb (M 57) (M 57 77).toNat x) ∨ (r = 0 ∧ ¬ zcb (M 57) (M 57 77).toNat x)) ∧ M' = M)) 4 [some (zn 55), some (zi x), some (zi b), some (zi n)] [] sz S M := by
    intro q
    induction q with
    | zero => intro n b hq hn; omega
    | succ q ih =>
      intro n b hq hn hb
      refine x_iload_n 5 rfl dX11_canBe_4 3 rfl rfl ?_
      refine x_aload_n 6 rfl dX11_canBe_5 0 rfl rfl ?_
      refine x_getr 9 rfl fX11_24 dX11_canBe_6 (lyl55 hL) (lys55 hL) (by decide) (57) rfl ?_
      refine x_bipush 11 rfl dX11_canBe_9 (by decide) ?_
      refine x_ialk 12 rfl dX11_canBe_11 (lyl57 hL) (lys57 hL) 77 rfl (by decide) ?_
      refine x_icmp_ge 15 63 rfl dX11_canBe_12 (by decide) (fun c12 => ?_) (fun c12 => ?_)
      · refine x_iload_n 64 rfl dX11_canBe_63 2 rfl rfl ?_
        refine x_retz dX11_canBe_64 rfl (by omega) ?_
        rw [show (M 57 77).toNat = n by omega]
        exact ⟨hb, rfl⟩
      · obtain ⟨w1, w2, w3, w4, w5⟩ := zwd_in hi (n := n) (by omega)
        have hst := zwg_s hi (n := n) (by omega) hx.1
        refine x_iload_n 16 rfl dX11_canBe_15 2 rfl rfl ?_
        refine x_if_eq 19 63 rfl dX11_canBe_16 (by decide) (fun c16 => ?_) (fun c16 => ?_)
        · refine x_iload_n 64 rfl dX11_canBe_63 2 rfl rfl ?_
          refine x_retz dX11_canBe_64 rfl (by omega) ?_
          refine ⟨Or.inr ⟨c16, fun h9 => ?_⟩, rfl⟩
          have := zcb_mono hi hx.1 (n := n) ((M 57 77).toNat - n) (by omega) (by rw [show n + ((M 57 77).toNat - n) = (M 57 77).toNat by omega]; exact h9)
          rcases hb with h | h
          · omega
          · exact h.2 this
        · refine x_aload_n 20 rfl dX11_canBe_19 0 rfl rfl ?_
          refine x_aload_n 21 rfl dX11_canBe_20 0 rfl rfl ?_
          refine x_getr 24 rfl fX11_24 dX11_canBe_21 (lyl55 hL) (lys55 hL) (by decide) (57) rfl ?_
          refine x_bipush 26 rfl dX11_canBe_24 (by decide) ?_
          refine x_iconst 27 rfl dX11_canBe_26 (by decide) ?_
          refine x_iload_n 28 rfl dX11_canBe_27 3 rfl rfl ?_
          refine y_imul 29 rfl dX11_canBe_28 (by omega) ?_
          refine y_iadd 30 rfl dX11_canBe_29 (by omega) ?_
          refine x_iald 31 rfl dX11_canBe_30 (lyl57 hL) (lys57 hL) (by omega) (by omega) ?_
          rw [show ((57 : Int) + 2 * (n : Int)).toNat = 57 + 2 * n by omega]
          refine x_iload_n 32 rfl dX11_canBe_31 1 rfl rfl ?_
          refine x_cVi 35 rfl lX11_365 dX11_canBe_32 (lyl55 hL) (lys55 hL) (c_X11_wholeOf hL hi (by omega) (by exact w3.1) (by omega)) rfl rfl (Nat.le_of_ble_eq_true rfl) (fun r1 M1 hr1 => ?_)
          obtain ⟨hr2, hM1⟩ := hr1
          rw [hM1]
          refine x_aload_n 36 rfl dX11_canBe_35 0 rfl rfl ?_
          refine x_getr 39 rfl fX11_24 dX11_canBe_36 (lyl55 hL) (lys55 hL) (by decide) (57) rfl ?_
          refine x_bipush 41 rfl dX11_canBe_39 (by decide) ?_
          refine x_iconst 42 rfl dX11_canBe_41 (by decide) ?_
          refine x_iload_n 43 rfl dX11_canBe_42 3 rfl rfl ?_
          refine y_imul 44 rfl dX11_canBe_43 (by omega) ?_
          refine y_iadd 45 rfl dX11_canBe_44 (by omega) ?_
          refine x_iconst 46 rfl dX11_canBe_45 (by decide) ?_
          refine y_iadd 47 rfl dX11_canBe_46 (by omega) ?_
          refine x_iald 48 rfl dX11_canBe_47 (lyl57 hL) (lys57 hL) (by omega) (by omega) ?_
          rw [show ((57 : Int) + 2 * (n : Int) + 1).toNat = 58 + 2 * n by omega]
          refine x_icmp_ne 51 55 rfl dX11_canBe_48 (by decide) (fun c48 => ?_) (fun c48 => ?_)
          · refine x_iconst 56 rfl dX11_canBe_55 (by decide) ?_
            refine y_istore_n 57 rfl dX11_canBe_56 rfl rfl (ls' := [_, _, _, _]) rfl (by decide) ?_
            refine w_iinc 60 rfl dX11_canBe_57 rfl (by decide) (by omega) rfl (ls' := [_, _, _, _]) rfl (by decide) ?_
            refine x_goto 4 dX11_canBe_60 (by decide) ?_
            exact ih (n + 1) 0 (by omega) (by omega) (Or.inr ⟨rfl, fun h9 => c48 (by rw [hr2]; exact (hst.1 h9).2)⟩)
          · refine x_iconst 52 rfl dX11_canBe_51 (by decide) ?_
            refine x_goto 56 dX11_canBe_52 (by decide) ?_
            refine y_istore_n 57 rfl dX11_canBe_56 rfl rfl (ls' := [_, _, _, _]) rfl (by decide) ?_
            refine w_iinc 60 rfl dX11_canBe_57 rfl (by decide) (by omega) rfl (ls' := [_, _, _, _]) rfl (by decide) ?_
            refine x_goto 4 dX11_canBe_60 (by decide) ?_
            exact ih (n + 1) 1 (by omega) (by omega) (Or.inl ⟨rfl, hst.2 ⟨by rcases hb with h | h; exact h.2; exfalso; exact c16 h.1, by rw [hr2] at c48; exact c48⟩⟩)
  refine zX_of pl_RX11 [some (zn 55), some (zi x), none, none] 2 rfl rfl ?_
  refine x_iconst 1 rfl dX11_canBe_0 (by decide) ?_
  refine y_istore_n 2 rfl dX11_canBe_1 rfl rfl (ls' := [_, _, _, _]) rfl (by decide) ?_
  refine x_iconst 3 rfl dX11_canBe_2 (by decide) ?_
  refine y_istore_n 4 rfl dX11_canBe_3 rfl rfl (ls' := [_, _, _, _]) rfl (by decide) ?_
  exact loop ((M 57 77).toNat + 1) 0 1 (by omega) (by omega) (Or.inl ⟨rfl, hx⟩)

def zbar (k : Nat → Int) (w : Int) : Int := if w = 0 then (if (zwg k (k 77).toNat).1 ≤ (zwg k (k 77).toNat).2 then (zwg k (k 77).toNat).2 - (zwg k (k 77).toNat).1 + 1 else 0) else if w = 1 then (if (zwg k (k 77).toNat).1 ≤ (zwg k (k 77).toNat).2 then (zwg k (k 77).toNat).1 else -1) else if w = 2 then (if (zwg k (k 77).toNat).1 ≤ (zwg k (k 77).toNat).2 then (zwg k (k 77).toNat).2 else -1) else -1

set_option maxRecDepth 100000 in
set_option maxHeartbeats 4000000 in
theorem c_X11_barrels {d sz : Nat} {S : zSh} {M : zMem} (hL : LY S sz) (hi : KI (M 57)) {x : Int} : zX (d + 4) 0 0 mX11_barrels [zn 55, zi x] sz S M (zI sz S (fun r M' => r = zbar (M 57) x ∧ M' = M)) := by
  have i1 := hi.1
  have hin := zwg_in hi (M 57 77).toNat (by omega)
  obtain ⟨lo, hi9, hz⟩ : ∃ lo hi9, zwg (M 57) (M 57 77).toNat = (lo, hi9) := ⟨_, _, rfl⟩
  rw [hz] at hin
  have hin : 0 ≤ lo ∧ lo ≤ 1000000000 ∧ -2000000 ≤ hi9 ∧ hi9 ≤ M 57 73 := hin
  have loop : (0 ≤ x ∧ x ≤ 2) → ∀ (q n : Nat) (a b c : Int), 1001 < q + n → (n : Int) ≤ M 57 73 + 1 → ((lo < min (hi9 + 1) (n : Int) ∧ a = min (hi9 + 1) (n : Int) - lo ∧ b = lo ∧ c = min hi9 ((n : Int) - 1)) ∨ (¬ lo < min (hi9 + 1) (n : Int) ∧ a = 0 ∧ b = -1 ∧ c = -1)) → zW mX11_barrels (d + 4) 0 0 [] (zI sz S (fun r M' => r = zbar (M 57) x ∧ M' = M)) 21 [some (zn 55), some (zi x), some (zi a), some (zi b), some (zi c), some (zi n)] [] sz S M := by
    intro hx q
    induction q with
    | zero => intro n a b c hq hn; omega
    | succ q ih =>
      intro n a b c hq hn hb
      refine x_iload 23 rfl dX11_barrels_21 rfl ?_
      refine x_aload_n 24 rfl dX11_barrels_23 0 rfl rfl ?_
      refine x_getr 27 rfl fX11_24 dX11_barrels_24 (lyl55 hL) (lys55 hL) (by decide) (57) rfl ?_
      refine x_bipush 29 rfl dX11_barrels_27 (by decide) ?_
      refine x_ialk 30 rfl dX11_barrels_29 (lyl57 hL) (lys57 hL) 73 rfl (by decide) ?_
      refine x_icmp_gt 33 70 rfl dX11_barrels_30 (by decide) (fun c30 => ?_) (fun c30 => ?_)
      · refine x_iload_n 71 rfl dX11_barrels_70 1 rfl rfl ?_
        refine x_if_ne 74 78 rfl dX11_barrels_71 (by decide) (fun c71 => ?_) (fun c71 => ?_)
        · refine x_iload_n 79 rfl dX11_barrels_78 1 rfl rfl ?_
          refine x_iconst 80 rfl dX11_barrels_79 (by decide) ?_
          refine x_icmp_ne 83 87 rfl dX11_barrels_80 (by decide) (fun c80 => ?_) (fun c80 => ?_)
          · refine x_iload 89 rfl dX11_barrels_87 rfl ?_
            refine x_reti dX11_barrels_89 rfl ?_
            refine ⟨?_, rfl⟩
            unfold zbar
            rw [hz]
            show _ = (if x = 0 then (if lo ≤ hi9 then hi9 - lo + 1 else 0) else if x = 1 then (if lo ≤ hi9 then lo else -1) else if x = 2 then (if lo ≤ hi9 then hi9 else -1) else -1)
            have hx3 : x = 0 ∨ x = 1 ∨ x = 2 := by omega
            rcases hx3 with e | e | e
            · rw [if_pos e]; split <;> omega
            · rw [if_neg (by omega), if_pos e]; split <;> omega
            · rw [if_neg (by omega), if_neg (by omega), if_pos e]; split <;> omega
          · refine x_iload_n 84 rfl dX11_barrels_83 3 rfl rfl ?_
            refine x_goto 89 dX11_barrels_84 (by decide) ?_
            refine x_reti dX11_barrels_89 rfl ?_
            refine ⟨?_, rfl⟩
            unfold zbar
            rw [hz]
            show _ = (if x = 0 then (if lo ≤ hi9 then hi9 - lo + 1 else 0) else if x = 1 then (if lo ≤ hi9 then lo else -1) else if x = 2 then (if lo ≤ hi9 then hi9 else -1) else -1)
            have hx3 : x = 0 ∨ x = 1 ∨ x = 2 := by omega
            rcases hx3 with e | e | e
            · rw [if_pos e]; split <;> omega
            · rw [if_neg (by omega), if_pos e]; split <;> omega
            · rw [if_neg (by omega), if_neg (by omega), if_pos e]; split <;> omega
        · refine x_iload_n 75 rfl dX11_barrels_74 2 rfl rfl ?_
          refine x_goto 89 dX11_barrels_75 (by decide) ?_
          refine x_reti dX11_barrels_89 rfl ?_
          refine ⟨?_, rfl⟩
          unfold zbar
          rw [hz]
          show _ = (if x = 0 then (if lo ≤ hi9 then hi9 - lo + 1 else 0) else if x = 1 then (if lo ≤ hi9 then lo else -1) else if x = 2 then (if lo ≤ hi9 then hi9 else -1) else -1)
          have hx3 : x = 0 ∨ x = 1 ∨ x = 2 := by omega
          rcases hx3 with e | e | e
          · rw [if_pos e]; split <;> omega
          · rw [if_neg (by omega), if_pos e]; split <;> omega
          · rw [if_neg (by omega), if_neg (by omega), if_pos e]; split <;> omega
      · refine x_aload_n 34 rfl dX11_barrels_33 0 rfl rfl ?_
        refine x_iload 36 rfl dX11_barrels_34 rfl ?_
        refine x_cVi 39 rfl lX11_406 dX11_barrels_36 (lyl55 hL) (lys55 hL) (c_X11_canBe hL hi (by omega)) rfl rfl (Nat.le_of_ble_eq_true rfl) (fun r1 M1 hr1 => ?_)
        obtain ⟨hr2, hM1⟩ := hr1
        rw [hM1]
        unfold zcb at hr2
        rw [hz] at hr2
        have hr2 : (r1 = 1 ∧ lo ≤ (n : Int) ∧ (n : Int) ≤ hi9) ∨ (r1 = 0 ∧ ¬ (lo ≤ (n : Int) ∧ (n : Int) ≤ hi9)) := hr2
        refine x_if_ne 42 45 rfl dX11_barrels_39 (by decide) (fun c39 => ?_) (fun c39 => ?_)
        · refine w_iinc 48 rfl dX11_barrels_45 rfl (by decide) (by omega) rfl (ls' := [_, _, _, _, _, _]) rfl (by decide) ?_
          refine x_iload_n 49 rfl dX11_barrels_48 3 rfl rfl ?_
          refine x_iconst 50 rfl dX11_barrels_49 (by decide) ?_
          refine x_icmp_ne 53 58 rfl dX11_barrels_50 (by decide) (fun c50 => ?_) (fun c50 => ?_)
          · refine x_iload_n 59 rfl dX11_barrels_58 3 rfl rfl ?_
            refine y_istore_n 60 rfl dX11_barrels_59 rfl rfl (ls' := [_, _, _, _, _, _]) rfl (by decide) ?_
            refine x_iload 62 rfl dX11_barrels_60 rfl ?_
            refine y_istore 64 rfl dX11_barrels_62 rfl (ls' := [_, _, _, _, _, _]) rfl (by decide) ?_
            refine w_iinc 67 rfl dX11_barrels_64 rfl (by decide) (by omega) rfl (ls' := [_, _, _, _, _, _]) rfl (by decide) ?_
            refine x_goto 21 dX11_barrels_67 (by decide) ?_
            exact ih (n + 1) _ _ _ (by omega) (by omega) (by omega)
          · refine x_iload 55 rfl dX11_barrels_53 rfl ?_
            refine x_goto 59 dX11_barrels_55 (by decide) ?_
            refine y_istore_n 60 rfl dX11_barrels_59 rfl rfl (ls' := [_, _, _, _, _, _]) rfl (by decide) ?_
            refine x_iload 62 rfl dX11_barrels_60 rfl ?_
            refine y_istore 64 rfl dX11_barrels_62 rfl (ls' := [_, _, _, _, _, _]) rfl (by decide) ?_
            refine w_iinc 67 rfl dX11_barrels_64 rfl (by decide) (by omega) rfl (ls' := [_, _, _, _, _, _]) rfl (by decide) ?_
            refine x_goto 21 dX11_barrels_67 (by decide) ?_
            exact ih (n + 1) _ _ _ (by omega) (by omega) (by omega)
        · refine x_goto 64 dX11_barrels_42 (by decide) ?_
          refine w_iinc 67 rfl dX11_barrels_64 rfl (by decide) (by omega) rfl (ls' := [_, _, _, _, _, _]) rfl (by decide) ?_
          refine x_goto 21 dX11_barrels_67 (by decide) ?_
          exact ih (n + 1) _ _ _ (by omega) (by omega) (by omega)
  refine zX_of pl_RX11 [some (zn 55), some (zi x), none, none, none, none] 4 rfl rfl ?_
  refine x_iload_n 1 rfl dX11_barrels_0 1 rfl rfl ?_
  refine x_iconst 2 rfl dX11_barrels_1 (by decide) ?_
  refine x_iconst 3 rfl dX11_barrels_2 (by decide) ?_
  refine x_cSi 6 rfl lX11_90 dX11_barrels_3 c_X11_lies rfl rfl (Nat.le_of_ble_eq_true rfl) (fun a1 M9 ha1 => ?_)
  obtain ⟨ha2, hM9⟩ := ha1
  rw [hM9]
  refine x_if_ne 9 11 rfl dX11_barrels_6 (by decide) (fun c6 => ?_) (fun c6 => ?_)
  · have hx : 0 ≤ x ∧ x ≤ 2 := Decidable.byContradiction (fun h9 => by rw [if_neg h9] at ha2; omega)
    refine x_iconst 12 rfl dX11_barrels_11 (by decide) ?_
    refine y_istore_n 13 rfl dX11_barrels_12 rfl rfl (ls' := [_, _, _, _, _, _]) rfl (by decide) ?_
    refine x_iconst 14 rfl dX11_barrels_13 (by decide) ?_
    refine y_istore_n 15 rfl dX11_barrels_14 rfl rfl (ls' := [_, _, _, _, _, _]) rfl (by decide) ?_
    refine x_iconst 16 rfl dX11_barrels_15 (by decide) ?_
    refine y_istore 18 rfl dX11_barrels_16 rfl (ls' := [_, _, _, _, _, _]) rfl (by decide) ?_
    refine x_iconst 19 rfl dX11_barrels_18 (by decide) ?_
    refine y_istore 21 rfl dX11_barrels_19 rfl (ls' := [_, _, _, _, _, _]) rfl (by decide) ?_
    exact loop hx 1002 0 0 (-1) (-1) (by omega) (by omega) (Or.inr (by omega))
  · have hx : ¬ (0 ≤ x ∧ x ≤ 2) := fun h9 => by rw [if_pos h9] at ha2; omega
    refine x_iconst 10 rfl dX11_barrels_9 (by decide) ?_
    refine x_reti dX11_barrels_10 rfl ?_
    refine ⟨?_, rfl⟩
    unfold zbar
    rw [if_neg (by omega), if_neg (by omega), if_neg (by omega)]
