/-! crew -/
/-- the hands of a set -/
def zbf (s : Nat) : Nat → Int := fun h => ((s / 2 ^ h % 2 : Nat) : Int)
theorem zbf01 {s : Nat} : z01 (zbf s) := fun h _ => by unfold zbf; omega
theorem zbf_mk : ∀ s : Nat, s < 256 → zmk (zbf s) = (s : Int) := by
  intro s hs
  unfold zmk zbf
  simp only [Nat.reducePow]
  omega
def zwl (Lw : List gC) (k : Nat → Int) (g : Nat) (c : Int) (s : Nat) : Int := if zand (s : Int) (zxor (zmask k) (-1)) = 0 ∧ c ≤ zcasks Lw k g (zgone (zbf s)) then 1 else 0
def zcF (Lw : List gC) (k : Nat → Int) (g : Nat) (c : Int) : Nat → Int × Int
  | 0 => (-1, -1)
  | n + 1 => if zwl Lw k g c (n + 1) = 1 ∧ ((zcF Lw k g c n).1 = -1 ∨ zlays k (zbf (n + 1)) < (zcF Lw k g c n).2) then (((n + 1 : Nat) : Int), zlays k (zbf (n + 1))) else zcF Lw k g c n
theorem zcF_y {Lw : List gC} {k : Nat → Int} {g n : Nat} {c a b : Int} (h : zcF Lw k g c n = (a, b)) (h1 : zwl Lw k g c (n + 1) = 1) (h2 : a = -1 ∨ zlays k (zbf (n + 1)) < b) : zcF Lw k g c (n + 1) = (((n + 1 : Nat) : Int), zlays k (zbf (n + 1))) := by
  have e : zcF Lw k g c (n + 1) = if zwl Lw k g c (n + 1) = 1 ∧ ((zcF Lw k g c n).1 = -1 ∨ zlays k (zbf (n + 1)) < (zcF Lw k g c n).2) then (((n + 1 : Nat) : Int), zlays k (zbf (n + 1))) else zcF Lw k g c n := rfl
  rw [e, h]
  exact if_pos ⟨h1, h2⟩
theorem zcF_n {Lw : List gC} {k : Nat → Int} {g n : Nat} {c a b : Int} (h : zcF Lw k g c n = (a, b)) (h1 : ¬ (zwl Lw k g c (n + 1) = 1 ∧ (a = -1 ∨ zlays k (zbf (n + 1)) < b))) : zcF Lw k g c (n + 1) = (a, b) := by
  have e : zcF Lw k g c (n + 1) = if zwl Lw k g c (n + 1) = 1 ∧ ((zcF Lw k g c n).1 = -1 ∨ zlays k (zbf (n + 1)) < (zcF Lw k g c n).2) then (((n + 1 : Nat) : Int), zlays k (zbf (n + 1))) else zcF Lw k g c n := rfl
  rw [e, h]
  exact if_neg h1
theorem zlays_b {k g : Nat → Int} (hi : KI k) : 0 ≤ zlays k g ∧ zlays k g ≤ 8000000000000 := by
  have i1 := hi.1
  have h := zlays_in (g := g) hi (k 75).toNat (Nat.le_refl _)
  unfold zlays
  omega
/-- a set of hands aboard -/
theorem zsub {k : Nat → Int} (hi : KI k) {s : Nat} (hs : s < 256) (h : zand (s : Int) (zxor (zmask k) (-1)) = 0) : (s : Int) ≤ zmask k ∧ zgone (zbf s) ≤ zcrew k := by
  have h1 : zmask k = zmk (fun h => k (11 + h)) := rfl
  have ha := zab01 hi
  have hb := zbf01 (s := s)
  rw [← zbf_mk s hs, h1, zmk_andn hb ha] at h
  have hm : z01 (fun h => zbf s h * (1 - k (11 + h))) := fun j hj => by
    have a1 := hb j hj
    have a2 := ha j hj
    have a2 : k (11 + j) = 0 ∨ k (11 + j) = 1 := a2
    show zbf s j * (1 - k (11 + j)) = 0 ∨ zbf s j * (1 - k (11 + j)) = 1
    rcases a1 with e | e <;> rcases a2 with e2 | e2 <;> rw [e, e2] <;> decide
  have key : ∀ j, j < 8 → zbf s j ≤ k (11 + j) := fun j hj => by
    have h2 := zmk_div hm hj
    rw [h] at h2
    have h2 : 0 / 2 ^ j % 2 = zbf s j * (1 - k (11 + j)) := h2
    rw [Int.zero_ediv] at h2
    have a1 := hb j hj
    have a2 : k (11 + j) = 0 ∨ k (11 + j) = 1 := ha j hj
    rcases a1 with e | e <;> rcases a2 with e2 | e2 <;> rw [e, e2] at h2 <;> omega
  have k0 : zbf s 0 ≤ k 11 := key 0 (by decide)
  have k1 : zbf s 1 ≤ k 12 := key 1 (by decide)
  have k2 : zbf s 2 ≤ k 13 := key 2 (by decide)
  have k3 : zbf s 3 ≤ k 14 := key 3 (by decide)
  have k4 : zbf s 4 ≤ k 15 := key 4 (by decide)
  have k5 : zbf s 5 ≤ k 16 := key 5 (by decide)
  have k6 : zbf s 6 ≤ k 17 := key 6 (by decide)
  have k7 : zbf s 7 ≤ k 18 := key 7 (by decide)
  have e0 := zbf_mk s hs
  unfold zmk at e0
  unfold zgone zcrew
  refine ⟨?_, by omega⟩
  unfold zmask
  omega
theorem zbf_pos {s : Nat} (h : 1 ≤ s) (hs : s < 256) : 1 ≤ zgone (zbf s) := by
  have e := zbf_mk s hs
  have b := zbf01 (s := s)
  have b0 := b 0 (by decide)
  have b1 := b 1 (by decide)
  have b2 := b 2 (by decide)
  have b3 := b 3 (by decide)
  have b4 := b 4 (by decide)
  have b5 := b 5 (by decide)
  have b6 := b 6 (by decide)
  have b7 := b 7 (by decide)
  unfold zmk at e
  unfold zgone
  omega
/-- beyond the mask nobody is chosen -/
theorem zcF_end {Lw : List gC} {k : Nat → Int} {g : Nat} {c : Int} (hi : KI k) : ∀ j, (zmask k).toNat + j < 256 → zcF Lw k g c ((zmask k).toNat + j) = zcF Lw k g c (zmask k).toNat
  | 0, _ => rfl
  | j + 1, h => by
    have ih := zcF_end (Lw := Lw) (g := g) (c := c) hi j (by omega)
    rcases hp : zcF Lw k g c (zmask k).toNat with ⟨a, b⟩
    rw [hp] at ih
    have hm := zmask_in hi
    refine zcF_n (n := (zmask k).toNat + j) ih (fun h9 => ?_)
    have h1 := h9.1
    unfold zwl at h1
    by_cases h2 : zand (((zmask k).toNat + j + 1 : Nat) : Int) (zxor (zmask k) (-1)) = 0
    · have := (zsub hi (s := (zmask k).toNat + j + 1) (by omega) h2).1
      omega
    · rw [if_neg (fun h3 => h2 h3.1)] at h1
      omega
theorem zmask_hands {k : Nat → Int} (hi : KI k) : zmask k < 2 ^ (k 75).toNat := by
  have i1 := hi.1
  have a := fun h (hh : h < 8) => (hi.2.1 h hh).2.1
  have b := fun h (hh : h < 8) => (hi.2.1 h hh).2.2.2.2.2
  have a0 := a 0 (by decide)
  have a1 := a 1 (by decide)
  have a2 := a 2 (by decide)
  have a3 := a 3 (by decide)
  have a4 := a 4 (by decide)
  have a5 := a 5 (by decide)
  have a6 := a 6 (by decide)
  have a7 := a 7 (by decide)
  have b0 := b 0 (by decide)
  have b1 := b 1 (by decide)
  have b2 := b 2 (by decide)
  have b3 := b 3 (by decide)
  have b4 := b 4 (by decide)
  have b5 := b 5 (by decide)
  have b6 := b 6 (by decide)
  have b7 := b 7 (by decide)
  have h75 : k 75 = 0 ∨ k 75 = 1 ∨ k 75 = 2 ∨ k 75 = 3 ∨ k 75 = 4 ∨ k 75 = 5 ∨ k 75 = 6 ∨ k 75 = 7 ∨ k 75 = 8 := by omega
  unfold zmask
  rcases h75 with e | e | e | e | e | e | e | e | e <;> rw [e] at b0 b1 b2 b3 b4 b5 b6 b7 ⊢ <;> simp at * <;> omega
theorem zshl_pow : ∀ n : Nat, n < 9 → zshl 1 (n : Int) = 2 ^ n := by decide +kernel
def zcrewA (Lw : List gC) (k : Nat → Int) (g c w : Int) : Int := if (0 ≤ g ∧ g < k 76) ∧ (1 ≤ c ∧ c ≤ 99) ∧ (0 ≤ w ∧ w ≤ 1) then (if w = 0 then (zcF Lw k g.toNat c (zmask k).toNat).1 else (zcF Lw k g.toNat c (zmask k).toNat).2) else -1
theorem zcF_in {Lw : List gC} {k : Nat → Int} {g : Nat} {c : Int} (hi : KI k) : ∀ n : Nat, (zcF Lw k g c n).1 = -1 ∧ (zcF Lw k g c n).2 = -1 ∨ (1 ≤ (zcF Lw k g c n).1 ∧ (zcF Lw k g c n).1 ≤ (n : Int) ∧ 0 ≤ (zcF Lw k g c n).2 ∧ (zcF Lw k g c n).2 ≤ 8000000000000)
  | 0 => Or.inl ⟨rfl, rfl⟩
  | n + 1 => by
    have ih := zcF_in (Lw := Lw) (g := g) (c := c) hi n
    rcases hp : zcF Lw k g c n with ⟨a, b⟩
    rw [hp] at ih
    have ih : a = -1 ∧ b = -1 ∨ (1 ≤ a ∧ a ≤ (n : Int) ∧ 0 ≤ b ∧ b ≤ 8000000000000) := ih
    have hz := zlays_b (g := zbf (n + 1)) hi
    rcases Classical.em (zwl Lw k g c (n + 1) = 1 ∧ (a = -1 ∨ zlays k (zbf (n + 1)) < b)) with h | h
    · rw [zcF_y hp h.1 h.2]
      refine Or.inr ⟨?_, ?_, hz.1, hz.2⟩
      · show (1 : Int) ≤ ((n + 1 : Nat) : Int); omega
      · show ((n + 1 : Nat) : Int) ≤ ((n + 1 : Nat) : Int); omega
    · rw [zcF_n hp h]
      rcases ih with ih | ih
      · exact Or.inl ih
      · refine Or.inr ⟨ih.1, ?_, ih.2.2⟩
        show a ≤ ((n + 1 : Nat) : Int); omega

theorem laysOf_s {d sz : Nat} {S : zSh} {M : zMem} (hL : LY S sz) (hi : KI (M 57)) {s : Nat} (hs : s < 256) : zX (d + 1) 0 0 mX11_laysOf [zn 55, zi (s : Int)] sz S M (zJ sz S (fun r M' => r = zlays (M 57) (zbf s) ∧ M' = M)) := by
  have h := c_X11_laysOf (d := d) hL hi (zbf01 (s := s))
  rwa [zbf_mk s hs] at h

set_option maxRecDepth 100000 in
set_option maxHeartbeats 4000000 in
theorem c_X11_crew {d sz : Nat} {S : zSh} {M : zMem} (hL : LY S sz) (hi : KI (M 57)) {Lw : List gC} (hLw : LwI (M 57) Lw) {x y z : Int} : zX (d + 44) 0 0 mX11_crew [zn 55, zi x, zi y, zi z] sz S M (zJ sz S (fun r M' => r = zcrewA Lw (M 57) x y z ∧ mF M M')) := by
  have i1 := hi.1
  have hm := zmask_in hi
  have hmh := zmask_hands hi
  have hcr := zcrew_in hi
  have hp8 : (2 : Int) ^ (M 57 75).toNat ≤ 256 := by
    have h75 : M 57 75 = 0 ∨ M 57 75 = 1 ∨ M 57 75 = 2 ∨ M 57 75 = 3 ∨ M 57 75 = 4 ∨ M 57 75 = 5 ∨ M 57 75 = 6 ∨ M 57 75 = 7 ∨ M 57 75 = 8 := by omega
    rcases h75 with e | e | e | e | e | e | e | e | e <;> rw [e] <;> decide
  have loop : ((0 ≤ x ∧ x < M 57 76) ∧ (1 ≤ y ∧ y ≤ 99) ∧ (0 ≤ z ∧ z ≤ 1)) → ∀ (q s : Nat) (M1 : zMem) (a b b9 : Int), 256 < q + s → 1 ≤ s → (s : Int) ≤ 2 ^ (M 57 75).toNat → zcF Lw (M 57) x.toNat y (s - 1) = (a, b) → b9 = (if a = -1 then 0 else b) → mF M M1 → zW mX11_crew (d + 44) 0 0 [] (zJ sz S (fun r M' => r = zcrewA Lw (M 57) x y z ∧ mF M M')) 40 [some (zn 55), some (zi x), some (zi y), some (zi z), some (zi a), some (zl b9), none, some (zi s), none, none] [] sz S M1 := by
    intro hx q
    induction q with
    | zero => intro s M1 a b b9 hq h1 h2; omega
    | succ q ih =>
      intro s M1 a b b9 hq h1 h2 hz h9 hF
      have e57 : M1 57 = M 57 := hF.1 57 (by decide) (by decide)
      have hin := zcF_in (Lw := Lw) (g := x.toNat) (c := y) hi (s - 1)
      rw [hz] at hin
      have hin : a = -1 ∧ b = -1 ∨ (1 ≤ a ∧ a ≤ ((s - 1 : Nat) : Int) ∧ 0 ≤ b ∧ b ≤ 8000000000000) := hin
      have hs1 : s = s - 1 + 1 := by omega
      refine x_iload 42 rfl dX11_crew_40 rfl ?_
      refine x_iconst 43 rfl dX11_crew_42 (by decide) ?_
      refine x_aload_n 44 rfl dX11_crew_43 0 rfl rfl ?_
      refine x_getr 47 rfl fX11_24 dX11_crew_44 (lyl55 hL) (lys55 hL) (by decide) (57) rfl ?_
      refine x_bipush 49 rfl dX11_crew_47 (by decide) ?_
      refine x_ialk 50 rfl dX11_crew_49 (lyl57 hL) (lys57 hL) 75 rfl (by decide) ?_
      rw [e57]
      refine x_ishl 51 rfl dX11_crew_50 ?_
      rw [show M 57 75 = (((M 57 75).toNat : Nat) : Int) by omega, zshl_pow _ (by omega)]
      refine x_icmp_ge 54 122 rfl dX11_crew_51 (by decide) (fun c51 => ?_) (fun c51 => ?_)
      · refine x_iload 124 rfl dX11_crew_122 rfl ?_
        refine x_iconst 125 rfl dX11_crew_124 (by decide) ?_
        refine x_icmp_eq 128 132 rfl dX11_crew_125 (by decide) (fun c125 => ?_) (fun c125 => ?_)
        · refine x_iload 134 rfl dX11_crew_132 rfl ?_
          refine x_i2l 135 rfl dX11_crew_134 ?_
          refine x_goto 140 dX11_crew_135 (by decide) ?_
          refine x_retj dX11_crew_140 rfl ?_
          refine ⟨?_, hF⟩
          have hend := zcF_end (Lw := Lw) (g := x.toNat) (c := y) hi (s - 1 - (zmask (M 57)).toNat) (by omega)
          rw [show (zmask (M 57)).toNat + (s - 1 - (zmask (M 57)).toNat) = s - 1 by omega, hz] at hend
          unfold zcrewA
          rw [if_pos hx, ← hend]
          show _ = (if z = 0 then a else b)
          by_cases e : z = 0
          · rw [if_pos e]; try omega
          · rw [if_neg e]; try first | omega | (rw [h9, if_neg (by omega)])
        · refine x_iload_n 129 rfl dX11_crew_128 3 rfl rfl ?_
          refine x_if_ne 132 138 rfl dX11_crew_129 (by decide) (fun c129 => ?_) (fun c129 => ?_)
          · refine x_lload 140 rfl dX11_crew_138 rfl ?_
            refine x_retj dX11_crew_140 rfl ?_
            refine ⟨?_, hF⟩
            have hend := zcF_end (Lw := Lw) (g := x.toNat) (c := y) hi (s - 1 - (zmask (M 57)).toNat) (by omega)
            rw [show (zmask (M 57)).toNat + (s - 1 - (zmask (M 57)).toNat) = s - 1 by omega, hz] at hend
            unfold zcrewA
            rw [if_pos hx, ← hend]
            show _ = (if z = 0 then a else b)
            by_cases e : z = 0
            · rw [if_pos e]; try omega
            · rw [if_neg e]; try first | omega | (rw [h9, if_neg (by omega)])
          · refine x_iload 134 rfl dX11_crew_132 rfl ?_
            refine x_i2l 135 rfl dX11_crew_134 ?_
            refine x_goto 140 dX11_crew_135 (by decide) ?_
            refine x_retj dX11_crew_140 rfl ?_
            refine ⟨?_, hF⟩
            have hend := zcF_end (Lw := Lw) (g := x.toNat) (c := y) hi (s - 1 - (zmask (M 57)).toNat) (by omega)
            rw [show (zmask (M 57)).toNat + (s - 1 - (zmask (M 57)).toNat) = s - 1 by omega, hz] at hend
            unfold zcrewA
            rw [if_pos hx, ← hend]
            show _ = (if z = 0 then a else b)
            by_cases e : z = 0
            · rw [if_pos e]; try omega
            · rw [if_neg e]; try first | omega | (rw [h9, if_neg (by omega)])
      · have hs8 : s < 256 := by omega
        have hgn := z01_sum (zbf01 (s := s))
        have hgn : 0 ≤ zgone (zbf s) ∧ zgone (zbf s) ≤ 8 := hgn
        have hpp := zpop_gn (zbf01 (s := s))
        rw [zbf_mk s hs8] at hpp
        have hz2 := zlays_b (g := zbf s) hi
        refine x_iload 56 rfl dX11_crew_54 rfl ?_
        refine x_aload_n 57 rfl dX11_crew_56 0 rfl rfl ?_
        refine x_cVi 60 rfl lX11_370 dX11_crew_57 (lyl55 hL) (lys55 hL) (c_X11_aboardNow hL (by rw [e57]; exact hi)) rfl rfl (Nat.le_of_ble_eq_true rfl) (fun r1 M2 hr1 => ?_)
        obtain ⟨hr2, hM2⟩ := hr1
        rw [hM2]
        rw [e57] at hr2
        subst hr2
        refine x_iconst 61 rfl dX11_crew_60 (by decide) ?_
        refine x_ixor 62 rfl dX11_crew_61 ?_
        refine x_iand 63 rfl dX11_crew_62 ?_
        refine x_if_ne 66 116 rfl dX11_crew_63 (by decide) (fun c63 => ?_) (fun c63 => ?_)
        · refine w_iinc 119 rfl dX11_crew_116 rfl (by decide) (by omega) rfl (ls' := [_, _, _, _, _, _, _, _, _, _]) rfl (by decide) ?_
          refine x_goto 40 dX11_crew_119 (by decide) ?_
          refine z_wk (ls' := [some (zn 55), some (zi x), some (zi y), some (zi z), some (zi _), some (zl _), none, some (zi ((s + 1 : Nat) : Int)), none, none]) ⟨rfl, rfl, rfl, rfl, rfl, rfl, rfl, trivial⟩ (ih (s + 1) M1 _ _ _ (by omega) (by omega) (by omega) (by rw [show s + 1 - 1 = s - 1 + 1 by omega]; exact zcF_n hz (fun h8 => by rw [← hs1] at h8; have h7 := h8.1; unfold zwl at h7; rw [if_neg (fun h6 => c63 h6.1)] at h7; omega)) h9 hF)
        · refine x_aload_n 67 rfl dX11_crew_66 0 rfl rfl ?_
          refine x_iload_n 68 rfl dX11_crew_67 1 rfl rfl ?_
          refine x_iload 70 rfl dX11_crew_68 rfl ?_
          refine x_cSi 73 rfl lX11_319 dX11_crew_70 (c_X11_ones (by omega)) rfl rfl (Nat.le_of_ble_eq_true rfl) (fun r3 M3 hr3 => ?_)
          obtain ⟨hr4, hM3⟩ := hr3
          rw [hM3]
          rw [hpp] at hr4
          subst hr4
          refine x_cVi 76 rfl lX11_132 dX11_crew_73 (lyl55 hL) (lys55 hL) (c_X11_casksIn (Lw := Lw) hL (by rw [e57]; exact hi) (by rw [e57]; exact hLw) (by omega) (by omega)) rfl rfl (Nat.le_of_ble_eq_true rfl) (fun r5 M4 hr5 => ?_)
          obtain ⟨hr6, hF4⟩ := hr5
          rw [e57] at hr6
          subst hr6
          have hF5 := mF_trans hF hF4
          have e574 : M4 57 = M 57 := hF5.1 57 (by decide) (by decide)
          refine x_iload_n 77 rfl dX11_crew_76 2 rfl rfl ?_
          refine x_icmp_ge 80 83 rfl dX11_crew_77 (by decide) (fun c77 => ?_) (fun c77 => ?_)
          · have hwl : zwl Lw (M 57) x.toNat y s = 1 := by unfold zwl; exact if_pos ⟨c63, c77⟩
            refine x_aload_n 84 rfl dX11_crew_83 0 rfl rfl ?_
            refine x_iload 86 rfl dX11_crew_84 rfl ?_
            refine x_cVj 89 rfl lX11_373 dX11_crew_86 (lyl55 hL) (lys55 hL) (laysOf_s hL (by rw [e574]; exact hi) hs8) rfl rfl (Nat.le_of_ble_eq_true rfl) (fun r7 M6 hr7 => ?_)
            obtain ⟨hr8, hM6⟩ := hr7
            rw [hM6]
            rw [e574] at hr8
            subst hr8
            refine y_lstore 91 rfl dX11_crew_89 rfl (ls' := [_, _, _, _, _, _, _, _, _, _]) rfl (by decide) ?_
            refine x_iload 93 rfl dX11_crew_91 rfl ?_
            refine x_iconst 94 rfl dX11_crew_93 (by decide) ?_
            refine x_icmp_eq 97 108 rfl dX11_crew_94 (by decide) (fun c94 => ?_) (fun c94 => ?_)
            · refine x_iload 110 rfl dX11_crew_108 rfl ?_
              refine y_istore 112 rfl dX11_crew_110 rfl (ls' := [_, _, _, _, _, _, _, _, _, _]) rfl (by decide) ?_
              refine x_lload 114 rfl dX11_crew_112 rfl ?_
              refine y_lstore 116 rfl dX11_crew_114 rfl (ls' := [_, _, _, _, _, _, _, _, _, _]) rfl (by decide) ?_
              refine w_iinc 119 rfl dX11_crew_116 rfl (by decide) (by omega) rfl (ls' := [_, _, _, _, _, _, _, _, _, _]) rfl (by decide) ?_
              refine x_goto 40 dX11_crew_119 (by decide) ?_
              refine z_wk (ls' := [some (zn 55), some (zi x), some (zi y), some (zi z), some (zi _), some (zl _), none, some (zi ((s + 1 : Nat) : Int)), none, none]) ⟨rfl, rfl, rfl, rfl, rfl, rfl, rfl, trivial⟩ (ih (s + 1) M4 _ _ _ (by omega) (by omega) (by omega) (by rw [show s + 1 - 1 = s - 1 + 1 by omega, zcF_y hz (by rw [← hs1]; exact hwl) (Or.inl c94), ← hs1]) (by rw [if_neg (by omega)]) hF5)
            · refine x_lload 99 rfl dX11_crew_97 rfl ?_
              refine x_lload 101 rfl dX11_crew_99 rfl ?_
              refine x_lcmp 102 rfl dX11_crew_101 ?_
              refine x_if_lt 105 108 rfl dX11_crew_102 (by decide) (fun c102 => ?_) (fun c102 => ?_)
              · have c102 := zcmp_lt.1 c102
                refine x_iload 110 rfl dX11_crew_108 rfl ?_
                refine y_istore 112 rfl dX11_crew_110 rfl (ls' := [_, _, _, _, _, _, _, _, _, _]) rfl (by decide) ?_
                refine x_lload 114 rfl dX11_crew_112 rfl ?_
                refine y_lstore 116 rfl dX11_crew_114 rfl (ls' := [_, _, _, _, _, _, _, _, _, _]) rfl (by decide) ?_
                refine w_iinc 119 rfl dX11_crew_116 rfl (by decide) (by omega) rfl (ls' := [_, _, _, _, _, _, _, _, _, _]) rfl (by decide) ?_
                refine x_goto 40 dX11_crew_119 (by decide) ?_
                refine z_wk (ls' := [some (zn 55), some (zi x), some (zi y), some (zi z), some (zi _), some (zl _), none, some (zi ((s + 1 : Nat) : Int)), none, none]) ⟨rfl, rfl, rfl, rfl, rfl, rfl, rfl, trivial⟩ (ih (s + 1) M4 _ _ _ (by omega) (by omega) (by omega) (by rw [show s + 1 - 1 = s - 1 + 1 by omega, zcF_y hz (by rw [← hs1]; exact hwl) (Or.inr (by rw [← hs1]; rw [if_neg c94] at h9; omega)), ← hs1]) (by rw [if_neg (by omega)]) hF5)
              · have c102 := fun h => c102 (zcmp_lt.2 h)
                refine x_goto 116 dX11_crew_105 (by decide) ?_
                refine w_iinc 119 rfl dX11_crew_116 rfl (by decide) (by omega) rfl (ls' := [_, _, _, _, _, _, _, _, _, _]) rfl (by decide) ?_
                refine x_goto 40 dX11_crew_119 (by decide) ?_
                refine z_wk (ls' := [some (zn 55), some (zi x), some (zi y), some (zi z), some (zi _), some (zl _), none, some (zi ((s + 1 : Nat) : Int)), none, none]) ⟨rfl, rfl, rfl, rfl, rfl, rfl, rfl, trivial⟩ (ih (s + 1) M4 _ _ _ (by omega) (by omega) (by omega) (by rw [show s + 1 - 1 = s - 1 + 1 by omega]; exact zcF_n hz (fun h8 => by rw [← hs1] at h8; rw [if_neg c94] at h9; rcases h8.2 with h | h; exact c94 h; exact c102 (by omega))) h9 hF5)
          · refine x_goto 116 dX11_crew_80 (by decide) ?_
            refine w_iinc 119 rfl dX11_crew_116 rfl (by decide) (by omega) rfl (ls' := [_, _, _, _, _, _, _, _, _, _]) rfl (by decide) ?_
            refine x_goto 40 dX11_crew_119 (by decide) ?_
            refine z_wk (ls' := [some (zn 55), some (zi x), some (zi y), some (zi z), some (zi _), some (zl _), none, some (zi ((s + 1 : Nat) : Int)), none, none]) ⟨rfl, rfl, rfl, rfl, rfl, rfl, rfl, trivial⟩ (ih (s + 1) M4 _ _ _ (by omega) (by omega) (by omega) (by rw [show s + 1 - 1 = s - 1 + 1 by omega]; exact zcF_n hz (fun h8 => by rw [← hs1] at h8; have h7 := h8.1; unfold zwl at h7; rw [if_neg (fun h6 => c77 h6.2)] at h7; omega)) h9 hF5)
  refine zX_of pl_RX11 [some (zn 55), some (zi x), some (zi y), some (zi z), none, none, none, none, none, none] 6 rfl rfl ?_
  refine x_aload_n 1 rfl dX11_crew_0 0 rfl rfl ?_
  refine x_iload_n 2 rfl dX11_crew_1 1 rfl rfl ?_
  refine x_cVi 5 rfl lX11_129 dX11_crew_2 (lyl55 hL) (lys55 hL) (c_X11_isGround hL hi) rfl rfl (Nat.le_of_ble_eq_true rfl) (fun a1 M9 ha1 => ?_)
  obtain ⟨ha2, hM9⟩ := ha1
  rw [hM9]
  refine x_if_eq 8 27 rfl dX11_crew_5 (by decide) (fun c5 => ?_) (fun c5 => ?_)
  · have hx : ¬ (0 ≤ x ∧ x < M 57 76) := fun h9 => by rw [if_pos h9] at ha2; omega
    refine x_ldc2 (x := -1) 30 rfl klX11_392 (by decide) dX11_crew_27 ?_
    refine x_retj dX11_crew_30 rfl ?_
    exact ⟨by unfold zcrewA; rw [if_neg (fun h9 => hx h9.1)], mF_refl⟩
  · have hx : 0 ≤ x ∧ x < M 57 76 := Decidable.byContradiction (fun h9 => by rw [if_neg h9] at ha2; omega)
    refine x_iload_n 9 rfl dX11_crew_8 2 rfl rfl ?_
    refine x_iconst 10 rfl dX11_crew_9 (by decide) ?_
    refine x_bipush 12 rfl dX11_crew_10 (by decide) ?_
    refine x_cSi 15 rfl lX11_90 dX11_crew_12 c_X11_lies rfl rfl (Nat.le_of_ble_eq_true rfl) (fun a3 M8 ha3 => ?_)
    obtain ⟨ha4, hM8⟩ := ha3
    rw [hM8]
    refine x_if_eq 18 27 rfl dX11_crew_15 (by decide) (fun c15 => ?_) (fun c15 => ?_)
    · have hy : ¬ (1 ≤ y ∧ y ≤ 99) := fun h9 => by rw [if_pos h9] at ha4; omega
      refine x_ldc2 (x := -1) 30 rfl klX11_392 (by decide) dX11_crew_27 ?_
      refine x_retj dX11_crew_30 rfl ?_
      exact ⟨by unfold zcrewA; rw [if_neg (fun h9 => hy h9.2.1)], mF_refl⟩
    · have hy : 1 ≤ y ∧ y ≤ 99 := Decidable.byContradiction (fun h9 => by rw [if_neg h9] at ha4; omega)
      refine x_iload_n 19 rfl dX11_crew_18 3 rfl rfl ?_
      refine x_iconst 20 rfl dX11_crew_19 (by decide) ?_
      refine x_iconst 21 rfl dX11_crew_20 (by decide) ?_
      refine x_cSi 24 rfl lX11_90 dX11_crew_21 c_X11_lies rfl rfl (Nat.le_of_ble_eq_true rfl) (fun a5 M7 ha5 => ?_)
      obtain ⟨ha6, hM7⟩ := ha5
      rw [hM7]
      refine x_if_ne 27 31 rfl dX11_crew_24 (by decide) (fun c24 => ?_) (fun c24 => ?_)
      · have hz : 0 ≤ z ∧ z ≤ 1 := Decidable.byContradiction (fun h9 => by rw [if_neg h9] at ha6; omega)
        refine x_iconst 32 rfl dX11_crew_31 (by decide) ?_
        refine y_istore 34 rfl dX11_crew_32 rfl (ls' := [_, _, _, _, _, _, _, _, _, _]) rfl (by decide) ?_
        refine x_lconst (x := 0) 35 rfl dX11_crew_34 rfl ?_
        refine y_lstore 37 rfl dX11_crew_35 rfl (ls' := [_, _, _, _, _, _, _, _, _, _]) rfl (by decide) ?_
        refine x_iconst 38 rfl dX11_crew_37 (by decide) ?_
        refine y_istore 40 rfl dX11_crew_38 rfl (ls' := [_, _, _, _, _, _, _, _, _, _]) rfl (by decide) ?_
        exact loop ⟨hx, hy, hz⟩ 256 1 M (-1) (-1) 0 (by omega) (by omega) (by have := zmask_in hi; omega) rfl rfl mF_refl
      · have hz : ¬ (0 ≤ z ∧ z ≤ 1) := fun h9 => by rw [if_pos h9] at ha6; omega
        refine x_ldc2 (x := -1) 30 rfl klX11_392 (by decide) dX11_crew_27 ?_
        refine x_retj dX11_crew_30 rfl ?_
        exact ⟨by unfold zcrewA; rw [if_neg (fun h9 => hz h9.2.2)], mF_refl⟩
