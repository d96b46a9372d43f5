/-! the hunt -/
theorem zeatI_in {Lw : List gC} {k : Nat → Int} {h : Nat} : 0 ≤ zeatI Lw k h ∧ zeatI Lw k h ≤ 99 := by
  unfold zeatI
  split
  · exact zeats_in
  · decide
/-- after the hunt, but for those who go -/
def kH1 (Lw : List gC) (k : Nat → Int) (g : Nat) (w : Int) : Nat → Int := fun i =>
  if i = 0 then min (k 73) (k 0 + zcasks Lw k g (zcrew k) * w)
  else if i = 2 then k 2 + 1
  else if 3 ≤ i ∧ i < 11 ∧ ((i - 3 : Nat) : Int) < k 75 then min 9999 (k i + zeatI Lw k (i - 3))
  else if i = 19 + g then k i - w
  else k i
def kH2 (Lw : List gC) (k : Nat → Int) : Nat → Int := kOff (zoffI Lw k) 8 k
theorem kH1_0 {Lw : List gC} {k : Nat → Int} {g : Nat} {w : Int} : kH1 Lw k g w 0 = min (k 73) (k 0 + zcasks Lw k g (zcrew k) * w) := rfl
theorem kH1_2 {Lw : List gC} {k : Nat → Int} {g : Nat} {w : Int} : kH1 Lw k g w 2 = k 2 + 1 := rfl
theorem kH1_db {Lw : List gC} {k : Nat → Int} {g : Nat} {w : Int} {h : Nat} (hh : h < 8) : kH1 Lw k g w (3 + h) = if (h : Int) < k 75 then min 9999 (k (3 + h) + zeatI Lw k h) else k (3 + h) := by
  unfold kH1
  rw [if_neg (by omega), if_neg (by omega), show 3 + h - 3 = h by omega]
  by_cases h1 : (h : Int) < k 75
  · rw [if_pos h1, if_pos ⟨by omega, by omega, h1⟩]
  · rw [if_neg h1, if_neg (fun hx => h1 hx.2.2), if_neg (by omega)]
theorem kH1_wh {Lw : List gC} {k : Nat → Int} {g : Nat} {w : Int} {j : Nat} (hj : j < 4) : kH1 Lw k g w (19 + j) = if j = g then k (19 + j) - w else k (19 + j) := by
  unfold kH1
  rw [if_neg (by omega), if_neg (by omega), if_neg (by omega)]
  by_cases h1 : j = g
  · rw [if_pos h1, if_pos (by omega)]
  · rw [if_neg h1, if_neg (by omega)]
theorem kH1_o {Lw : List gC} {k : Nat → Int} {g : Nat} {w : Int} {i : Nat} (hg : g < 4) (h : i = 1 ∨ (11 ≤ i ∧ i < 19) ∨ 23 ≤ i) : kH1 Lw k g w i = k i := by
  unfold kH1
  rw [if_neg (by omega), if_neg (by omega), if_neg (by omega), if_neg (by omega)]
theorem kH1_KI {Lw : List gC} {k : Nat → Int} {g : Nat} {w : Int} (hi : KI k) (hg : g < 4) (hw : 0 ≤ w ∧ w ≤ k (19 + g)) (hm : k 2 < 71) : KI (kH1 Lw k g w) := by
  have i1 := hi.1
  have hc := zcasks_in (Lw := Lw) (k := k) (g := g) (crew := zcrew k)
  have hcw : 0 ≤ zcasks Lw k g (zcrew k) * w := Int.mul_nonneg (by omega) hw.1
  have eo : ∀ i, (i = 1 ∨ (11 ≤ i ∧ i < 19) ∨ 23 ≤ i) → kH1 Lw k g w i = k i := fun i h => kH1_o hg h
  refine ⟨?_, fun h hh => ?_, fun j hj => ?_, fun y hy => ?_, fun n hn => ?_, fun t ht => ?_⟩
  · rw [kH1_0, kH1_2, eo 1 (by omega), eo 73 (by omega), eo 74 (by omega), eo 75 (by omega), eo 76 (by omega), eo 77 (by omega), eo 78 (by omega), eo 79 (by omega)]
    omega
  · have i2 := hi.2.1 h hh
    have i3 := zeatI_in (Lw := Lw) (k := k) (h := h)
    rw [kH1_db hh, eo (11 + h) (by omega), eo (23 + h) (by omega), eo (31 + h) (by omega), eo 75 (by omega)]
    refine ⟨?_, i2.2⟩
    split <;> omega
  · have i2 := hi.2.2.1 j hj
    rw [kH1_wh hj, eo (39 + 3 * j) (by omega), eo (39 + 3 * j + 1) (by omega), eo (39 + 3 * j + 2) (by omega)]
    refine ⟨?_, i2.2⟩
    split
    · rename_i h9
      subst h9
      omega
    · exact i2.1
  · rw [eo (51 + y) (by omega)]
    exact hi.2.2.2.1 y hy
  · rw [eo (57 + 2 * n) (by omega), eo (58 + 2 * n) (by omega), eo 77 (by omega), eo 75 (by omega)]
    exact hi.2.2.2.2.1 n hn
  · rw [eo (80 + t) (by omega)]
    exact hi.2.2.2.2.2 t ht
theorem LwI_frame {k k' : Nat → Int} {Lw : List gC} (h : LwI k Lw) (e : ∀ i, 79 ≤ i → k' i = k i) : LwI k' Lw := by
  intro h0
  rw [e 79 (by omega)] at h0 ⊢
  obtain ⟨c, v, n, cd0, s9, hn, hT, hc, hv, hq⟩ := h h0
  exact ⟨c, v, n, cd0, s9, by rw [e _ (by omega)]; exact hn, hT, fun i hi => by rw [e _ (by omega)]; exact hc i hi, fun i hi => by rw [e _ (by omega)]; exact hv i hi, hq⟩
theorem kH2_KI {Lw : List gC} {k : Nat → Int} (hi : KI k) : KI (kH2 Lw k) := by
  have eo : ∀ i, (i < 11 ∨ 19 ≤ i) → kH2 Lw k i = k i := fun i h => by unfold kH2 kOff; rw [if_neg (by omega)]
  have ea : ∀ h, h < 8 → kH2 Lw k (11 + h) = 0 ∨ kH2 Lw k (11 + h) = k (11 + h) := fun h hh => by
    unfold kH2 kOff
    split
    · exact Or.inl rfl
    · exact Or.inr rfl
  refine ⟨?_, fun h hh => ?_, fun j hj => ?_, fun y hy => ?_, fun n hn => ?_, fun t ht => ?_⟩
  · rw [eo 0 (by omega), eo 2 (by omega), eo 1 (by omega), eo 73 (by omega), eo 74 (by omega), eo 75 (by omega), eo 76 (by omega), eo 77 (by omega), eo 78 (by omega), eo 79 (by omega)]
    exact hi.1
  · have i2 := hi.2.1 h hh
    have i3 := ea h hh
    rw [eo (3 + h) (by omega), eo (23 + h) (by omega), eo (31 + h) (by omega), eo 75 (by omega)]
    refine ⟨i2.1, by omega, i2.2.2.1, i2.2.2.2.1, i2.2.2.2.2.1, fun h9 => ?_⟩
    have := i2.2.2.2.2.2 h9
    omega
  · rw [eo (19 + j) (by omega), eo (39 + 3 * j) (by omega), eo (39 + 3 * j + 1) (by omega), eo (39 + 3 * j + 2) (by omega)]
    exact hi.2.2.1 j hj
  · rw [eo (51 + y) (by omega)]
    exact hi.2.2.2.1 y hy
  · rw [eo (57 + 2 * n) (by omega), eo (58 + 2 * n) (by omega), eo 77 (by omega), eo 75 (by omega)]
    exact hi.2.2.2.2.1 n hn
  · rw [eo (80 + t) (by omega)]
    exact hi.2.2.2.2.2 t ht
theorem mF_mup {M M1 : zMem} {a : Nat} {f : Nat → Int} (h : mF M M1) (h1 : a ≠ 55) (h2 : a ≠ 67) : mF (z_mup M a f) (z_mup M1 a f) := by
  refine ⟨fun j b c => ?_, fun j b c d e => ?_⟩
  · by_cases hj : j = a
    · subst hj; rw [z_mup_eq, z_mup_eq]
    · rw [z_mup_ne hj, z_mup_ne hj, h.1 j b c]
  · rw [z_mup_ne (Ne.symm h1), z_mup_ne (Ne.symm h1), h.2 j b c d e]
/-- the first n have eaten -/
def kE (Lw : List gC) (k b : Nat → Int) (n : Nat) : Nat → Int := fun i => if 3 ≤ i ∧ i < 3 + n then min 9999 (k i + zeatI Lw k (i - 3)) else b i
theorem kE_0 {Lw : List gC} {k b : Nat → Int} : kE Lw k b 0 = b := by
  funext i
  unfold kE
  rw [if_neg (by omega)]
theorem kE_o {Lw : List gC} {k b : Nat → Int} {n i : Nat} (h : i < 3 ∨ 3 + n ≤ i) : kE Lw k b n i = b i := by
  unfold kE
  rw [if_neg (by omega)]
theorem kE_s {Lw : List gC} {k b : Nat → Int} {n : Nat} : ku (kE Lw k b n) (3 + n) (min 9999 (k (3 + n) + zeatI Lw k n)) = kE Lw k b (n + 1) := by
  funext i
  simp only [ku, kE]
  by_cases h1 : i = 3 + n
  · rw [if_pos h1, if_pos ⟨by omega, by omega⟩, h1, Nat.add_sub_cancel_left]
  · rw [if_neg h1]
    by_cases h2 : 3 ≤ i ∧ i < 3 + n
    · rw [if_pos h2, if_pos ⟨by omega, by omega⟩]
    · rw [if_neg h2, if_neg (by omega)]
theorem kE_H1 {Lw : List gC} {k : Nat → Int} {g n : Nat} {w c : Int} (hc : c = zcasks Lw k g (zcrew k)) (hn : (n : Int) = k 75) (hn8 : n ≤ 8) : ku (kE Lw k (ku (ku k 0 (min (k 73) (k 0 + c * w))) (19 + g) (k (19 + g) - w)) n) 2 (k 2 + 1) = kH1 Lw k g w := by
  funext i
  subst hc
  simp only [ku, kE, kH1]
  by_cases h0 : i = 0
  · subst h0
    rw [if_neg (by decide), if_neg (by omega), if_neg (by omega), if_pos rfl, if_pos rfl]
  · simp only [if_neg h0]
    by_cases h2 : i = 2
    · simp only [if_pos h2]
    · simp only [if_neg h2]
      by_cases h3 : 3 ≤ i ∧ i < 3 + n
      · rw [if_pos h3, if_pos (by omega)]
      · have h3' : ¬ (3 ≤ i ∧ i < 11 ∧ ((i - 3 : Nat) : Int) < k 75) := by omega
        simp only [if_neg h3, if_neg h3']
        by_cases h4 : i = 19 + g
        · rw [if_pos h4, if_pos h4, h4]
        · rw [if_neg h4, if_neg h4]

set_option maxRecDepth 100000 in
set_option maxHeartbeats 4000000 in
theorem c_X11_hunts {d sz : Nat} {S : zSh} {M : zMem} (hL : LY S sz) (hi : KI (M 57)) {Lw : List gC} (hLw : LwI (M 57) Lw) {x w : Int} (hx : 0 ≤ x ∧ x < 4) (hw : 0 ≤ w ∧ w ≤ 3) (hwx : w ≤ M 57 (19 + x.toNat)) (hm : M 57 2 < 71) : zX (d + 45) 0 0 mX11_hunts [zn 55, zi x, zi w] sz S M (zI sz S (fun r M' => ∃ g, g = zoffI Lw (kH1 Lw (M 57) x.toNat w) ∧ r = g 0 + g 1 + g 2 + g 3 + g 4 + g 5 + g 6 + g 7 ∧ ∃ f, mF (z_mup (z_mup M 68 f) 57 (kH2 Lw (kH1 Lw (M 57) x.toNat w))) M')) := by
  have i1 := hi.1
  have i3 := zcrew_in hi
  have i4 := hi.2.2.1 x.toNat (by omega)
  have hc := zcasks_in (Lw := Lw) (k := M 57) (g := x.toNat) (crew := zcrew (M 57))
  have hk1 := kH1_KI (Lw := Lw) (w := w) (g := x.toNat) hi (by omega) ⟨hw.1, hwx⟩ hm
  have hLw1 : LwI (kH1 Lw (M 57) x.toNat w) Lw := LwI_frame hLw (fun i h79 => kH1_o (by omega) (by omega))
  have hex : ((19 : Int) + x).toNat = 19 + x.toNat := by omega
  have loop : ∀ (f : Nat → Int) (M1 M2 : zMem) (c : Int), c = zcasks Lw (M 57) x.toNat (zcrew (M 57)) → mF M M1 → mF (z_mup M1 68 f) M2 → (∀ h : Nat, (h : Int) < M 57 75 → f h = zeatI Lw (M 57) h) → ∀ (q n : Nat), (M 57 75).toNat < q + n → n ≤ (M 57 75).toNat → zW mX11_hunts (d + 45) 0 0 [] (zI sz S (fun r M' => ∃ g, g = zoffI Lw (kH1 Lw (M 57) x.toNat w) ∧ r = g 0 + g 1 + g 2 + g 3 + g 4 + g 5 + g 6 + g 7 ∧ ∃ f, mF (z_mup (z_mup M 68 f) 57 (kH2 Lw (kH1 Lw (M 57) x.toNat w))) M')) 56 [some (zn 55), some (zi x), some (zi w), some (zi c), some (zi n)] [] sz S (z_mup M2 57 (kE Lw (M 57) (ku (ku (M 57) 0 (min (M 57 73) (M 57 0 + c * w))) (19 + x.toNat) (M 57 (19 + x.toNat) - w)) n)) := by
    intro f M1 M2 c hc1 hm1 hm2 hf q
    induction q with
    | zero => intro n hq hn; omega
    | succ q ih =>
      intro n hq hn
      obtain ⟨b, hb⟩ : ∃ b, b = ku (ku (M 57) 0 (min (M 57 73) (M 57 0 + c * w))) (19 + x.toNat) (M 57 (19 + x.toNat) - w) := ⟨_, rfl⟩
      rw [← hb] at ih ⊢
      have b75 : b 75 = M 57 75 := by rw [hb]; simp only [ku]; rw [if_neg (by omega), if_neg (by omega)]
      have b2 : b 2 = M 57 2 := by rw [hb]; simp only [ku]; rw [if_neg (by omega), if_neg (by omega)]
      have b3 : ∀ j : Nat, j < 8 → b (3 + j) = M 57 (3 + j) := fun j hj => by rw [hb]; simp only [ku]; rw [if_neg (by omega), if_neg (by omega)]
      have h75 : z_mup M2 57 (kE Lw (M 57) b n) 57 75 = M 57 75 := by rw [z_mup_eq, kE_o (by omega), b75]
      have h68 : M2 68 = f := by rw [hm2.1 68 (by decide) (by decide), z_mup_eq]
      refine x_iload 58 rfl dX11_hunts_56 rfl ?_
      refine x_aload_n 59 rfl dX11_hunts_58 0 rfl rfl ?_
      refine x_getr 62 rfl fX11_24 dX11_hunts_59 (lyl55 hL) (lys55 hL) (by decide) (57) rfl ?_
      refine x_bipush 64 rfl dX11_hunts_62 (by decide) ?_
      refine x_ialk 65 rfl dX11_hunts_64 (lyl57 hL) (lys57 hL) 75 rfl (by decide) ?_
      refine x_icmp_ge 68 106 rfl dX11_hunts_65 (by decide) (fun c65 => ?_) (fun c65 => ?_)
      · refine x_aload_n 107 rfl dX11_hunts_106 0 rfl rfl ?_
        refine x_getr 110 rfl fX11_24 dX11_hunts_107 (lyl55 hL) (lys55 hL) (by decide) (57) rfl ?_
        refine x_iconst 111 rfl dX11_hunts_110 (by decide) ?_
        refine x_dup2ir 112 rfl dX11_hunts_111 ?_
        refine x_ialk 113 rfl dX11_hunts_112 (lyl57 hL) (lys57 hL) 2 rfl (by decide) ?_
        rw [show z_mup M2 57 (kE Lw (M 57) b n) 57 2 = M 57 2 by rw [z_mup_eq, kE_o (by omega), b2]]
        refine x_iconst 114 rfl dX11_hunts_113 (by decide) ?_
        refine y_iadd 115 rfl dX11_hunts_114 (by omega) ?_
        refine x_iastk 116 rfl dX11_hunts_115 (lyl57 hL) (lys57 hL) 2 rfl (by decide) ?_
        refine z_mem (M' := z_mup M2 57 (kH1 Lw (M 57) x.toNat w)) (by rw [z_mupm, hb, kE_H1 hc1 (by omega) (by omega)]) ?_
        refine x_aload_n 117 rfl dX11_hunts_116 0 rfl rfl ?_
        refine x_aload_n 118 rfl dX11_hunts_117 0 rfl rfl ?_
        refine x_cVi 121 rfl lX11_328 dX11_hunts_118 (lyl55 hL) (lys55 hL) (c_X11_offNow (Lw := Lw) (M := z_mup M2 57 (kH1 Lw (M 57) x.toNat w)) hL (by rw [z_mup_eq]; exact hk1) (by rw [z_mup_eq]; exact hLw1)) rfl rfl (Nat.le_of_ble_eq_true rfl) (fun r4 M4 hr4 => ?_)
        obtain ⟨hr5, hm4⟩ := hr4
        rw [z_mup_eq] at hr5
        subst hr5
        have h4k : M4 57 = kH1 Lw (M 57) x.toNat w := by rw [hm4.1 57 (by decide) (by decide), z_mup_eq]
        refine x_cVi 124 rfl lX11_331 dX11_hunts_121 (lyl55 hL) (lys55 hL) (c_X11_goesOff hL (by rw [h4k]; exact hk1) (zoff01 hk1) (fun j hj h9 => zoff_out hk1 hj (by rw [h4k] at h9; exact h9))) rfl rfl (Nat.le_of_ble_eq_true rfl) (fun r6 M6 hr6 => ?_)
        obtain ⟨hr7, hM6⟩ := hr6
        refine x_reti dX11_hunts_124 rfl ?_
        refine ⟨_, rfl, hr7, f, ?_⟩
        rw [hM6, h4k]
        refine mF_trans (mF_mup (mF_trans (mF_mup hm1 (by decide) (by decide)) hm2) (by decide) (by decide)) ?_
        have h9 := mF_mup (a := 57) (f := kOff (zoffI Lw (kH1 Lw (M 57) x.toNat w)) 8 (kH1 Lw (M 57) x.toNat w)) hm4 (by decide) (by decide)
        rw [z_mup2] at h9
        exact h9
      · have i2 := hi.2.1 n (by omega)
        have i5 := zeatI_in (Lw := Lw) (k := M 57) (h := n)
        have e3 : ((3 : Int) + (n : Int)).toNat = 3 + n := by omega
        have h3n : z_mup M2 57 (kE Lw (M 57) b n) 57 (3 + n) = M 57 (3 + n) := by rw [z_mup_eq, kE_o (by omega), b3 n (by omega)]
        have h68n : z_mup M2 57 (kE Lw (M 57) b n) 68 n = zeatI Lw (M 57) n := by rw [z_mup_ne (by decide), h68, hf n (by omega)]
        refine x_aload_n 69 rfl dX11_hunts_68 0 rfl rfl ?_
        refine x_getr 72 rfl fX11_24 dX11_hunts_69 (lyl55 hL) (lys55 hL) (by decide) (57) rfl ?_
        refine x_iconst 73 rfl dX11_hunts_72 (by decide) ?_
        refine x_iload 75 rfl dX11_hunts_73 rfl ?_
        refine y_iadd 76 rfl dX11_hunts_75 (by omega) ?_
        refine x_sipush 79 rfl dX11_hunts_76 (by decide) ?_
        refine x_aload_n 80 rfl dX11_hunts_79 0 rfl rfl ?_
        refine x_getr 83 rfl fX11_24 dX11_hunts_80 (lyl55 hL) (lys55 hL) (by decide) (57) rfl ?_
        refine x_iconst 84 rfl dX11_hunts_83 (by decide) ?_
        refine x_iload 86 rfl dX11_hunts_84 rfl ?_
        refine y_iadd 87 rfl dX11_hunts_86 (by omega) ?_
        refine x_iald 88 rfl dX11_hunts_87 (lyl57 hL) (lys57 hL) (by omega) (by omega) ?_
        rw [e3, h3n]
        refine x_aload_n 89 rfl dX11_hunts_88 0 rfl rfl ?_
        refine x_getr 92 rfl fX11_62 dX11_hunts_89 (lyl55 hL) (lys55 hL) (by decide) (68) rfl ?_
        refine x_iload 94 rfl dX11_hunts_92 rfl ?_
        refine x_iald 95 rfl dX11_hunts_94 (lyl68 hL) (lys68 hL) (by omega) (by omega) ?_
        rw [Int.toNat_natCast, h68n]
        refine y_iadd 96 rfl dX11_hunts_95 (by omega) ?_
        refine x_cSi 99 rfl lX11_325 dX11_hunts_96 c_X11_lesser rfl rfl (Nat.le_of_ble_eq_true rfl) (fun r M1 hr1 => ?_)
        obtain ⟨rfl, hM1⟩ := hr1
        rw [hM1]
        refine x_iast 100 rfl dX11_hunts_99 (lyl57 hL) (lys57 hL) (by omega) (by omega) ?_
        refine w_iinc 103 rfl dX11_hunts_100 rfl (by decide) (by omega) rfl (ls' := [_, _, _, _, _]) rfl (by decide) ?_
        refine x_goto 56 dX11_hunts_103 (by decide) ?_
        refine z_mem (M' := z_mup M2 57 (kE Lw (M 57) b (n + 1))) (by rw [e3, z_mupm, kE_s]) (ih (n + 1) (by omega) (by omega))
  refine zX_of pl_RX11 [some (zn 55), some (zi x), some (zi w), none, none] 2 rfl rfl ?_
  refine x_aload_n 1 rfl dX11_hunts_0 0 rfl rfl ?_
  refine x_iload_n 2 rfl dX11_hunts_1 1 rfl rfl ?_
  refine x_aload_n 3 rfl dX11_hunts_2 0 rfl rfl ?_
  refine x_cVi 6 rfl lX11_108 dX11_hunts_3 (lyl55 hL) (lys55 hL) (c_X11_crewNow hL hi) rfl rfl (Nat.le_of_ble_eq_true rfl) (fun r M1 hr1 => ?_)
  obtain ⟨rfl, hM1⟩ := hr1
  rw [hM1]
  refine x_cVi 9 rfl lX11_132 dX11_hunts_6 (lyl55 hL) (lys55 hL) (c_X11_casksIn hL hi hLw hx i3) rfl rfl (Nat.le_of_ble_eq_true rfl) (fun c1 M1 hr1 => ?_)
  obtain ⟨hc1, hm1⟩ := hr1
  have hcw : 0 ≤ c1 * w ∧ c1 * w ≤ 297 := ⟨Int.mul_nonneg (by omega) hw.1, Int.le_trans (Int.mul_le_mul (show c1 ≤ 99 by omega) hw.2 hw.1 (by decide)) (by decide)⟩
  have hk : M1 57 = M 57 := hm1.1 57 (by decide) (by decide)
  refine y_istore_n 10 rfl dX11_hunts_9 rfl rfl (ls' := [_, _, _, _, _]) rfl (by decide) ?_
  refine x_aload_n 11 rfl dX11_hunts_10 0 rfl rfl ?_
  refine x_cVu 14 rfl lX11_322 dX11_hunts_11 (lyl55 hL) (lys55 hL) (c_X11_allEat (Lw := Lw) hL (by rw [hk]; exact hi) (by rw [hk]; exact hLw)) rfl rfl (Nat.le_of_ble_eq_true rfl) (fun M2 hr2 => ?_)
  obtain ⟨f, hm2, hf⟩ := hr2
  rw [hk] at hf
  have hk2 : M2 57 = M 57 := by rw [hm2.1 57 (by decide) (by decide), z_mup_ne (by decide), hk]
  refine x_aload_n 15 rfl dX11_hunts_14 0 rfl rfl ?_
  refine x_getr 18 rfl fX11_24 dX11_hunts_15 (lyl55 hL) (lys55 hL) (by decide) (57) rfl ?_
  refine x_iconst 19 rfl dX11_hunts_18 (by decide) ?_
  refine x_aload_n 20 rfl dX11_hunts_19 0 rfl rfl ?_
  refine x_getr 23 rfl fX11_24 dX11_hunts_20 (lyl55 hL) (lys55 hL) (by decide) (57) rfl ?_
  refine x_bipush 25 rfl dX11_hunts_23 (by decide) ?_
  refine x_ialk 26 rfl dX11_hunts_25 (lyl57 hL) (lys57 hL) 73 rfl (by decide) ?_
  rw [hk2]
  refine x_aload_n 27 rfl dX11_hunts_26 0 rfl rfl ?_
  refine x_getr 30 rfl fX11_24 dX11_hunts_27 (lyl55 hL) (lys55 hL) (by decide) (57) rfl ?_
  refine x_iconst 31 rfl dX11_hunts_30 (by decide) ?_
  refine x_ialk 32 rfl dX11_hunts_31 (lyl57 hL) (lys57 hL) 0 rfl (by decide) ?_
  rw [hk2]
  refine x_iload_n 33 rfl dX11_hunts_32 3 rfl rfl ?_
  refine x_iload_n 34 rfl dX11_hunts_33 2 rfl rfl ?_
  refine y_imul 35 rfl dX11_hunts_34 (by omega) ?_
  refine y_iadd 36 rfl dX11_hunts_35 (by omega) ?_
  refine x_cSi 39 rfl lX11_325 dX11_hunts_36 c_X11_lesser rfl rfl (Nat.le_of_ble_eq_true rfl) (fun r M1 hr1 => ?_)
  obtain ⟨rfl, hM1⟩ := hr1
  rw [hM1]
  refine x_iastk 40 rfl dX11_hunts_39 (lyl57 hL) (lys57 hL) 0 rfl (by decide) ?_
  refine x_aload_n 41 rfl dX11_hunts_40 0 rfl rfl ?_
  refine x_getr 44 rfl fX11_24 dX11_hunts_41 (lyl55 hL) (lys55 hL) (by decide) (57) rfl ?_
  refine x_bipush 46 rfl dX11_hunts_44 (by decide) ?_
  refine x_iload_n 47 rfl dX11_hunts_46 1 rfl rfl ?_
  refine y_iadd 48 rfl dX11_hunts_47 (by omega) ?_
  refine x_dup2ir 49 rfl dX11_hunts_48 ?_
  refine x_iald 50 rfl dX11_hunts_49 (lyl57 hL) (lys57 hL) (by omega) (by omega) ?_
  rw [hex, show z_up M2 57 0 (min (M 57 73) (M 57 0 + c1 * w)) 57 (19 + x.toNat) = M 57 (19 + x.toNat) by rw [z_up_nk (by omega), hk2]]
  refine x_iload_n 51 rfl dX11_hunts_50 2 rfl rfl ?_
  refine y_isub 52 rfl dX11_hunts_51 (by omega) ?_
  refine x_iast 53 rfl dX11_hunts_52 (lyl57 hL) (lys57 hL) (by omega) (by omega) ?_
  refine x_iconst 54 rfl dX11_hunts_53 (by decide) ?_
  refine y_istore 56 rfl dX11_hunts_54 rfl (ls' := [_, _, _, _, _]) rfl (by decide) ?_
  refine z_mem (M' := z_mup M2 57 (kE Lw (M 57) (ku (ku (M 57) 0 (min (M 57 73) (M 57 0 + c1 * w))) (19 + x.toNat) (M 57 (19 + x.toNat) - w)) 0)) ?_ (loop f _ M2 c1 hc1 hm1 hm2 hf ((M 57 75).toNat + 1) 0 (by omega) (by omega))
  rw [kE_0, z_upm (M := M2), z_mupm, hk2, hex]

/-- the memory after the reference has kept what was -/
def zKp (M : zMem) (x : Int) : zMem := z_up (z_mup M 69 (zKeep (M 69) (M 57) (M 55 32).toNat x)) 55 32 (min (M 55 32 + 1) 16)
theorem zKp_ne {M : zMem} {x : Int} {i : Nat} (h : i ≠ 55) (h1 : i ≠ 69) : zKp M x i = M i := by
  unfold zKp
  rw [z_up_ne h, z_mup_ne h1]
def kSell (k : Nat → Int) (c : Int) : Nat → Int := ku (ku k 0 (k 0 - c)) 1 (min 999999 (k 1 + c * zprice k (k 2)))
def kAdv (k : Nat → Int) (h : Nat) (p : Int) : Nat → Int := ku (ku k 1 (k 1 - p)) (3 + h) (min 9999 (k (3 + h) + p))
def kLeave (k : Nat → Int) (h : Nat) : Nat → Int := ku k (11 + h) 0
theorem kLeave_KI {k : Nat → Int} {h : Nat} (hi : KI k) (hh : h < 8) : KI (kLeave k h) := by
  have eo : ∀ i, i ≠ 11 + h → kLeave k h i = k i := fun i h1 => by unfold kLeave ku; rw [if_neg h1]
  refine ⟨?_, fun j hj => ?_, fun j hj => ?_, fun y hy => ?_, fun n hn => ?_, fun t ht => ?_⟩
  · rw [eo 0 (by omega), eo 2 (by omega), eo 1 (by omega), eo 73 (by omega), eo 74 (by omega), eo 75 (by omega), eo 76 (by omega), eo 77 (by omega), eo 78 (by omega), eo 79 (by omega)]
    exact hi.1
  · have i2 := hi.2.1 j hj
    rw [eo (3 + j) (by omega), eo (23 + j) (by omega), eo (31 + j) (by omega), eo 75 (by omega)]
    have ea : kLeave k h (11 + j) = 0 ∨ kLeave k h (11 + j) = k (11 + j) := by
      unfold kLeave ku
      split
      · exact Or.inl rfl
      · exact Or.inr rfl
    refine ⟨i2.1, by omega, i2.2.2.1, i2.2.2.2.1, i2.2.2.2.2.1, fun h9 => ?_⟩
    have := i2.2.2.2.2.2 h9
    omega
  · rw [eo (19 + j) (by omega), eo (39 + 3 * j) (by omega), eo (39 + 3 * j + 1) (by omega), eo (39 + 3 * j + 2) (by omega)]
    exact hi.2.2.1 j hj
  · rw [eo (51 + y) (by omega)]
    exact hi.2.2.2.1 y hy
  · rw [eo (57 + 2 * n) (by omega), eo (58 + 2 * n) (by omega), eo 77 (by omega), eo 75 (by omega)]
    exact hi.2.2.2.2.1 n hn
  · rw [eo (80 + t) (by omega)]
    exact hi.2.2.2.2.2 t ht
theorem z_mup_up {M : zMem} {f : Nat → Int} {j : Nat} {v : Int} : z_up (z_mup M 57 f) 55 j v = z_mup (z_up M 55 j v) 57 f := by
  funext i
  by_cases h : i = 57
  · subst h; rw [z_up_ne (by decide), z_mup_eq, z_mup_eq]
  · rw [z_mup_ne h]
    by_cases h1 : i = 55
    · subst h1; funext l; simp only [z_upm, z_mup_eq, z_mup_ne h]
    · rw [z_up_ne h1, z_up_ne h1, z_mup_ne h]

set_option maxRecDepth 100000 in
set_option maxHeartbeats 4000000 in
theorem c_X11_leavesKept {d sz : Nat} {S : zSh} {M : zMem} (hL : LY S sz) (hi : KI (M 57)) (hn0 : 0 ≤ M 55 32 ∧ M 55 32 ≤ 16) {x : Int} : zX (d + 2) 0 0 mX11_leavesKept [zn 55, zi x] sz S M (zI sz S (fun r M' => (¬ (0 ≤ x ∧ x < M 57 75) ∧ r = -2 ∧ M' = M) ∨ ((0 ≤ x ∧ x < M 57 75) ∧ M 57 (11 + x.toNat) = 0 ∧ r = -3 ∧ M' = M) ∨ ((0 ≤ x ∧ x < M 57 75) ∧ M 57 (11 + x.toNat) = 1 ∧ r = zcrew (kLeave (M 57) x.toNat) ∧ M' = z_mup (zKp M 3) 57 (kLeave (M 57) x.toNat)))) := by
  have i1 := hi.1
  refine zX_of pl_RX11 [some (zn 55), some (zi x)] 0 rfl rfl ?_
  refine x_aload_n 1 rfl dX11_leavesKept_0 0 rfl rfl ?_
  refine x_iload_n 2 rfl dX11_leavesKept_1 1 rfl rfl ?_
  refine x_cVi 5 rfl lX11_100 dX11_leavesKept_2 (lyl55 hL) (lys55 hL) (c_X11_isHand hL hi) rfl rfl (Nat.le_of_ble_eq_true rfl) (fun r M1 hr1 => ?_)
  obtain ⟨hr, hM1⟩ := hr1
  rw [hM1]
  refine x_if_ne 8 11 rfl dX11_leavesKept_5 (by decide) (fun c5 => ?_) (fun c5 => ?_)
  · have hx : 0 ≤ x ∧ x < M 57 75 := Decidable.byContradiction (fun h9 => by rw [if_neg h9] at hr; omega)
    have i2 := hi.2.1 x.toNat (by omega)
    have e11 : ((11 : Int) + x).toNat = 11 + x.toNat := by omega
    refine x_aload_n 12 rfl dX11_leavesKept_11 0 rfl rfl ?_
    refine x_iload_n 13 rfl dX11_leavesKept_12 1 rfl rfl ?_
    refine x_cVi 16 rfl lX11_118 dX11_leavesKept_13 (lyl55 hL) (lys55 hL) (c_X11_isAboard hL hi (by omega)) rfl rfl (Nat.le_of_ble_eq_true rfl) (fun r2 M2 hr2 => ?_)
    obtain ⟨hr3, hM2⟩ := hr2
    rw [hM2]
    refine x_if_ne 19 22 rfl dX11_leavesKept_16 (by decide) (fun c16 => ?_) (fun c16 => ?_)
    · refine x_aload_n 23 rfl dX11_leavesKept_22 0 rfl rfl ?_
      refine x_iconst 24 rfl dX11_leavesKept_23 (by decide) ?_
      refine x_cVu 27 rfl lX11_337 dX11_leavesKept_24 (lyl55 hL) (lys55 hL) (c_X11_keeps hL hn0) rfl rfl (Nat.le_of_ble_eq_true rfl) (fun M5 hr5 => ?_)
      have hr5 : M5 = zKp M _ := hr5
      rw [hr5]
      have hk5 : ∀ x, zKp M x 57 = M 57 := fun x => zKp_ne (by decide) (by decide)
      refine x_aload_n 28 rfl dX11_leavesKept_27 0 rfl rfl ?_
      refine x_getr 31 rfl fX11_24 dX11_leavesKept_28 (lyl55 hL) (lys55 hL) (by decide) (57) rfl ?_
      refine x_bipush 33 rfl dX11_leavesKept_31 (by decide) ?_
      refine x_iload_n 34 rfl dX11_leavesKept_33 1 rfl rfl ?_
      refine y_iadd 35 rfl dX11_leavesKept_34 (by omega) ?_
      refine x_iconst 36 rfl dX11_leavesKept_35 (by decide) ?_
      refine x_iast 37 rfl dX11_leavesKept_36 (lyl57 hL) (lys57 hL) (by omega) (by omega) ?_
      refine z_mem (M' := z_mup (zKp M 3) 57 (kLeave (M 57) x.toNat)) (by rw [e11, z_upm, hk5]; rfl) ?_
      refine x_aload_n 38 rfl dX11_leavesKept_37 0 rfl rfl ?_
      refine x_cVi 41 rfl lX11_108 dX11_leavesKept_38 (lyl55 hL) (lys55 hL) (c_X11_crewNow (M := z_mup (zKp M 3) 57 (kLeave (M 57) x.toNat)) hL (by rw [z_mup_eq]; exact kLeave_KI hi (by omega))) rfl rfl (Nat.le_of_ble_eq_true rfl) (fun r6 M6 hr6 => ?_)
      obtain ⟨hr7, hM6⟩ := hr6
      rw [z_mup_eq] at hr7
      refine x_reti dX11_leavesKept_41 rfl ?_
      exact Or.inr (Or.inr ⟨hx, by omega, hr7, hM6⟩)
    · refine x_bipush 21 rfl dX11_leavesKept_19 (by decide) ?_
      refine x_reti dX11_leavesKept_21 rfl ?_
      exact Or.inr (Or.inl ⟨hx, by omega, rfl, rfl⟩)
  · refine x_bipush 10 rfl dX11_leavesKept_8 (by decide) ?_
    refine x_reti dX11_leavesKept_10 rfl ?_
    refine Or.inl ⟨fun h9 => ?_, rfl, rfl⟩
    rw [if_pos h9] at hr
    omega
