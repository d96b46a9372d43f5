/-! best -/
def zhm (k : Nat → Int) (o : Nat) (m : Int) : Int := (o : Int) * zprice k m * 1000000
def zthen (k C : Nat → Int) (g o w : Nat) : Nat := (min (k 73) ((o : Int) + (w : Int) * C g)).toNat
def zas (k C f : Nat → Int) (g o : Nat) : Nat → Int
  | 0 => 0
  | n + 1 => zas k C f g o n + k (39 + 3 * g + n) * f (zthen k C g o (n + 1))
def znn (k : Nat → Int) (g : Nat) : Nat → Int
  | 0 => 10
  | n + 1 => znn k g n - k (39 + 3 * g + n)
def zav (k C f : Nat → Int) (g o : Nat) : Int := (zas k C f g o 3 + znn k g 3 * f o) / 10
def zBd : Int := 98901000000
def zfB (f : Nat → Int) (H : Int) : Prop := ∀ o : Nat, (o : Int) ≤ H → 0 ≤ f o ∧ f o ≤ 98901000000
theorem zhm_in {k : Nat → Int} (hi : KI k) {o : Nat} (ho : (o : Int) ≤ k 73) {m : Int} (hm : 0 ≤ m ∧ m < 72) : 0 ≤ (o : Int) * zprice k m ∧ (o : Int) * zprice k m ≤ 98901 ∧ 0 ≤ zhm k o m ∧ zhm k o m ≤ 98901000000 := by
  have i1 := hi.1
  have hp := zprice_in hi hm
  have h1 : 0 ≤ (o : Int) * zprice k m := Int.mul_nonneg (by omega) hp.1
  have h2 := Int.mul_le_mul (a := (o : Int)) (b := zprice k m) (c := 999) (d := 99) (by omega) hp.2 hp.1 (by omega)
  unfold zhm
  omega
theorem zthen_in {k C : Nat → Int} (hi : KI k) {g o w : Nat} (hC : 0 ≤ C g) : ((zthen k C g o w : Nat) : Int) ≤ k 73 ∧ ((zthen k C g o w : Nat) : Int) = min (k 73) ((o : Int) + (w : Int) * C g) := by
  have i1 := hi.1
  have h1 : 0 ≤ (w : Int) * C g := Int.mul_nonneg (by omega) hC
  unfold zthen
  omega
theorem zmb {a x : Int} (h : 0 ≤ a) (hx : 0 ≤ x ∧ x ≤ 98901000000) : 0 ≤ a * x ∧ a * x ≤ a * 98901000000 := ⟨Int.mul_nonneg h hx.1, Int.mul_le_mul_of_nonneg_left hx.2 h⟩
theorem zav_in {k C f : Nat → Int} (hi : KI k) (hf : zfB f (k 73)) {g o : Nat} (hg : g < 4) (hC : 0 ≤ C g) (ho : (o : Int) ≤ k 73) : (∀ n, n ≤ 3 → 0 ≤ zas k C f g o n ∧ zas k C f g o n ≤ (10 - znn k g n) * 98901000000 ∧ 0 ≤ znn k g n ∧ znn k g n ≤ 10) ∧ 0 ≤ zav k C f g o ∧ zav k C f g o ≤ 98901000000 := by
  have i2 := hi.2.2.1 g hg
  have t := fun w => (zthen_in (k := k) (C := C) hi (g := g) (o := o) (w := w) hC).1
  have m0 := zmb i2.2.1 (hf _ (t 1))
  have m1 := zmb i2.2.2.1 (hf _ (t 2))
  have m2 := zmb i2.2.2.2.1 (hf _ (t 3))
  have e0 : zas k C f g o 0 = 0 := rfl
  have e1 : zas k C f g o 1 = 0 + k (39 + 3 * g) * f (zthen k C g o 1) := rfl
  have e2 : zas k C f g o 2 = zas k C f g o 1 + k (39 + 3 * g + 1) * f (zthen k C g o 2) := rfl
  have e3 : zas k C f g o 3 = zas k C f g o 2 + k (39 + 3 * g + 2) * f (zthen k C g o 3) := rfl
  have n0 : znn k g 0 = 10 := rfl
  have n1 : znn k g 1 = 10 - k (39 + 3 * g) := rfl
  have n2 : znn k g 2 = znn k g 1 - k (39 + 3 * g + 1) := rfl
  have n3 : znn k g 3 = znn k g 2 - k (39 + 3 * g + 2) := rfl
  have a : ∀ n, n ≤ 3 → 0 ≤ zas k C f g o n ∧ zas k C f g o n ≤ (10 - znn k g n) * 98901000000 ∧ 0 ≤ znn k g n ∧ znn k g n ≤ 10 := fun n hn => by
    have : n = 0 ∨ n = 1 ∨ n = 2 ∨ n = 3 := by omega
    rcases this with rfl | rfl | rfl | rfl
    · omega
    · omega
    · omega
    · omega
  have a3 := a 3 (Nat.le_refl _)
  have m3 := zmb a3.2.2.1 (hf o ho)
  refine ⟨a, ?_⟩
  unfold zav
  omega
theorem zas_congr {k C f f' : Nat → Int} (hi : KI k) (h : ∀ o : Nat, (o : Int) ≤ k 73 → f o = f' o) {g o : Nat} (hC : 0 ≤ C g) : ∀ n, zas k C f g o n = zas k C f' g o n
  | 0 => rfl
  | n + 1 => by
    show zas k C f g o n + _ = zas k C f' g o n + _
    rw [zas_congr hi h hC n, h _ (zthen_in hi hC).1]
theorem zav_congr {k C f f' : Nat → Int} (hi : KI k) (h : ∀ o : Nat, (o : Int) ≤ k 73 → f o = f' o) {g o : Nat} (hC : 0 ≤ C g) (ho : (o : Int) ≤ k 73) : zav k C f g o = zav k C f' g o := by
  unfold zav
  rw [zas_congr hi h hC, h o ho]
/-- the choice among the first grounds, and its worth -/
def zcs (k C f : Nat → Int) (o : Nat) (h0 : Int) : Nat → Int × Int
  | 0 => (100, h0)
  | g + 1 => if (zcs k C f o h0 g).2 < zav k C f g o then ((g : Int), zav k C f g o) else zcs k C f o h0 g
theorem zcs_y {k C f : Nat → Int} {o g : Nat} {h0 a b : Int} (e : zcs k C f o h0 g = (a, b)) (h : b < zav k C f g o) : zcs k C f o h0 (g + 1) = ((g : Int), zav k C f g o) := by
  have e2 : zcs k C f o h0 (g + 1) = if (zcs k C f o h0 g).2 < zav k C f g o then ((g : Int), zav k C f g o) else zcs k C f o h0 g := rfl
  rw [e2, e]
  exact if_pos h
theorem zcs_n {k C f : Nat → Int} {o g : Nat} {h0 a b : Int} (e : zcs k C f o h0 g = (a, b)) (h : ¬ b < zav k C f g o) : zcs k C f o h0 (g + 1) = (a, b) := by
  have e2 : zcs k C f o h0 (g + 1) = if (zcs k C f o h0 g).2 < zav k C f g o then ((g : Int), zav k C f g o) else zcs k C f o h0 g := rfl
  rw [e2, e]
  exact if_neg h
theorem zcs_in {k C f : Nat → Int} (hi : KI k) (hf : zfB f (k 73)) (hC : ∀ g, g < 4 → 0 ≤ C g) {o : Nat} (ho : (o : Int) ≤ k 73) {h0 : Int} (hh : 0 ≤ h0 ∧ h0 ≤ 98901000000) : ∀ g, g ≤ 4 → (((zcs k C f o h0 g).1 = 100 ∧ (zcs k C f o h0 g).2 = h0) ∨ (0 ≤ (zcs k C f o h0 g).1 ∧ (zcs k C f o h0 g).1 < (g : Int) ∧ (zcs k C f o h0 g).2 = zav k C f (zcs k C f o h0 g).1.toNat o)) ∧ 0 ≤ (zcs k C f o h0 g).2 ∧ (zcs k C f o h0 g).2 ≤ 98901000000
  | 0, _ => ⟨Or.inl ⟨rfl, rfl⟩, hh⟩
  | g + 1, hg => by
    have ih := zcs_in hi hf hC ho hh g (by omega)
    rcases e : zcs k C f o h0 g with ⟨a, b⟩
    rw [e] at ih
    have ih : ((a = 100 ∧ b = h0) ∨ (0 ≤ a ∧ a < (g : Int) ∧ b = zav k C f a.toNat o)) ∧ 0 ≤ b ∧ b ≤ 98901000000 := ih
    rcases Classical.em (b < zav k C f g o) with h | h
    · rw [zcs_y e h]
      refine ⟨Or.inr ⟨?_, ?_, rfl⟩, (zav_in hi hf (by omega) (hC g (by omega)) ho).2⟩
      · show (0 : Int) ≤ (g : Int); omega
      · show (g : Int) < ((g + 1 : Nat) : Int); omega
    · rw [zcs_n e h]
      refine ⟨?_, ih.2⟩
      rcases ih.1 with h1 | h1
      · exact Or.inl h1
      · exact Or.inr ⟨h1.1, by show a < ((g + 1 : Nat) : Int); omega, h1.2.2⟩
theorem zcs_congr {k C f f' : Nat → Int} (hi : KI k) (h : ∀ o : Nat, (o : Int) ≤ k 73 → f o = f' o) (hC : ∀ g, g < 4 → 0 ≤ C g) {o : Nat} (ho : (o : Int) ≤ k 73) {h0 : Int} : ∀ g, g ≤ 4 → zcs k C f o h0 g = zcs k C f' o h0 g
  | 0, _ => rfl
  | g + 1, hg => by
    have ih := zcs_congr hi h hC ho (h0 := h0) g (by omega)
    have e2 : zcs k C f o h0 (g + 1) = if (zcs k C f o h0 g).2 < zav k C f g o then ((g : Int), zav k C f g o) else zcs k C f o h0 g := rfl
    rw [e2, ih, zav_congr hi h (hC g (by omega)) ho]
    rfl
/-- the most from j months ahead of the last on -/
def zWr (k C : Nat → Int) (last : Int) : Nat → Nat → Int
  | 0 => fun o => zhm k o last
  | j + 1 => fun o => (zcs k C (zWr k C last j) o (zhm k o (last - 1 - (j : Int))) (k 76).toNat).2
theorem zWr_in {k C : Nat → Int} (hi : KI k) (hC : ∀ g, g < 4 → 0 ≤ C g) {last : Int} (hl : last < 72) : ∀ j : Nat, 0 ≤ last - (j : Int) → zfB (zWr k C last j) (k 73)
  | 0, h => fun o ho => (zhm_in hi ho (by omega)).2.2
  | j + 1, h => fun o ho => by
    have i1 := hi.1
    exact (zcs_in hi (zWr_in hi hC hl j (by omega)) hC ho (zhm_in hi ho (by omega)).2.2 (k 76).toNat (by omega)).2

set_option maxRecDepth 100000 in
set_option maxHeartbeats 4000000 in
theorem c_X11_homeWorth {d sz : Nat} {S : zSh} {M : zMem} (hL : LY S sz) (hi : KI (M 57)) {n : Nat} (hn : (n : Int) ≤ M 57 73) {m : Int} (hm : 0 ≤ m ∧ m < 72) : zX (d + 1) 0 0 mX11_homeWorth [zn 55, zi (n : Int), zi m] sz S M (zJ sz S (fun r M' => r = zhm (M 57) n m ∧ M' = M)) := by
  have i1 := hi.1
  have hz := zhm_in hi hn hm
  have hp := zprice_in hi hm
  refine zX_of pl_RX11 [some (zn 55), some (zi (n : Int)), some (zi m)] 0 rfl rfl ?_
  refine x_iload_n 1 rfl dX11_homeWorth_0 1 rfl rfl ?_
  refine x_i2l 2 rfl dX11_homeWorth_1 ?_
  refine x_aload_n 3 rfl dX11_homeWorth_2 0 rfl rfl ?_
  refine x_iload_n 4 rfl dX11_homeWorth_3 2 rfl rfl ?_
  refine x_cVi 7 rfl lX11_344 dX11_homeWorth_4 (lyl55 hL) (lys55 hL) (c_X11_priceIn hL hi hm) rfl rfl (Nat.le_of_ble_eq_true rfl) (fun r1 M1 hr1 => ?_)
  obtain ⟨hr2, hM1⟩ := hr1
  rw [hM1]
  subst hr2
  refine x_i2l 8 rfl dX11_homeWorth_7 ?_
  refine y_lmul 9 rfl dX11_homeWorth_8 (by omega) ?_
  refine x_ldc2 (x := 1000000) 12 rfl klX11_377 (by decide) dX11_homeWorth_9 ?_
  refine y_lmul 13 rfl dX11_homeWorth_12 (by omega) ?_
  refine x_retj dX11_homeWorth_13 rfl ?_
  exact ⟨rfl, rfl⟩

set_option maxRecDepth 100000 in
set_option maxHeartbeats 4000000 in
theorem c_X11_huntWorth {d sz : Nat} {S : zSh} {M : zMem} (hL : LY S sz) (hi : KI (M 57)) {b : Nat} (hb : b ≤ 1) (hf : zfB (fun i => M 71 (1000 * b + i)) (M 57 73)) (hC : ∀ g, g < 4 → 0 ≤ M 72 g ∧ M 72 g ≤ 99) {n : Nat} (hn : (n : Int) ≤ M 57 73) {g : Nat} (hg : g < 4) : zX (d + 1) 0 0 mX11_huntWorth [zn 55, zi (g : Int), zi (n : Int), zi (b : Int)] sz S M (zJ sz S (fun r M' => r = zav (M 57) (M 72) (fun i => M 71 (1000 * b + i)) g n ∧ M' = M)) := by
  have i1 := hi.1
  have i2 := hi.2.2.1 g hg
  have hcg := hC g hg
  have hz := zav_in (C := M 72) hi hf hg hcg.1 hn
  have hf0 := hf n hn
  have hf0 : 0 ≤ M 71 (1000 * b + n) ∧ M 71 (1000 * b + n) ≤ 98901000000 := hf0
  have loop : ∀ (q w : Nat) (s e : Int), 3 < q + w → w ≤ 3 → s = zas (M 57) (M 72) (fun i => M 71 (1000 * b + i)) g n w → e = znn (M 57) g w → zW mX11_huntWorth (d + 1) 0 0 [] (zJ sz S (fun r M' => r = zav (M 57) (M 72) (fun i => M 71 (1000 * b + i)) g n ∧ M' = M)) 10 [some (zn 55), some (zi (g : Int)), some (zi (n : Int)), some (zi (b : Int)), some (zl s), none, some (zi e), some (zi ((w : Int) + 1)), none] [] sz S M := by
    intro q
    induction q with
    | zero => intro w s e hq hw; omega
    | succ q ih =>
      intro w s e hq hw hs he
      have hzw := hz.1 w hw
      rw [← hs, ← he] at hzw
      have hww : 0 ≤ (w : Int) * M 72 g ∧ (w : Int) * M 72 g ≤ 300 := by
        have : w = 0 ∨ w = 1 ∨ w = 2 ∨ w = 3 := by omega
        rcases this with rfl | rfl | rfl | rfl <;> omega
      have hwm : ((w : Int) + 1) * M 72 g = (w : Int) * M 72 g + M 72 g := by rw [Int.add_mul, Int.one_mul]
      have hth := zthen_in (C := M 72) hi (g := g) (o := n) (w := w + 1) hcg.1
      rw [show ((w + 1 : Nat) : Int) = (w : Int) + 1 by omega] at hth
      have hft := hf _ hth.1
      have hft : 0 ≤ M 71 (1000 * b + zthen (M 57) (M 72) g n (w + 1)) ∧ M 71 (1000 * b + zthen (M 57) (M 72) g n (w + 1)) ≤ 98901000000 := hft
      refine x_iload 12 rfl dX11_huntWorth_10 rfl ?_
      refine x_iconst 13 rfl dX11_huntWorth_12 (by decide) ?_
      refine x_icmp_ge 16 88 rfl dX11_huntWorth_13 (by decide) (fun c13 => ?_) (fun c13 => ?_)
      · have ew : w = 3 := by omega
        subst ew
        have hmm := zmb hzw.2.2.1 hf0
        refine x_lload 90 rfl dX11_huntWorth_88 rfl ?_
        refine x_iload 92 rfl dX11_huntWorth_90 rfl ?_
        refine x_i2l 93 rfl dX11_huntWorth_92 ?_
        refine x_aload_n 94 rfl dX11_huntWorth_93 0 rfl rfl ?_
        refine x_getr 97 rfl fX11_71 dX11_huntWorth_94 (lyl55 hL) (lys55 hL) (by decide) (71) rfl ?_
        refine x_sipush 100 rfl dX11_huntWorth_97 (by decide) ?_
        refine x_iload_n 101 rfl dX11_huntWorth_100 3 rfl rfl ?_
        refine y_imul 102 rfl dX11_huntWorth_101 (by omega) ?_
        refine x_iload_n 103 rfl dX11_huntWorth_102 2 rfl rfl ?_
        refine y_iadd 104 rfl dX11_huntWorth_103 (by omega) ?_
        refine x_lald 105 rfl dX11_huntWorth_104 (lyl71 hL) (lys71 hL) (by omega) (by omega) ?_
        rw [show ((1000 : Int) * (b : Int) + (n : Int)).toNat = 1000 * b + n by omega]
        refine y_lmul 106 rfl dX11_huntWorth_105 (by omega) ?_
        refine y_ladd 107 rfl dX11_huntWorth_106 (by omega) ?_
        refine x_ldc2 (x := 10) 110 rfl klX11_379 (by decide) dX11_huntWorth_107 ?_
        refine x_ldiv 111 rfl dX11_huntWorth_110 (by decide) ?_
        refine x_retj dX11_huntWorth_111 rfl ?_
        refine ⟨?_, rfl⟩
        rw [z_ltdiv (by omega) (by omega) (by decide)]
        unfold zav
        rw [hs, he]
      · have hch : 0 ≤ M 57 (39 + 3 * g + w) ∧ M 57 (39 + 3 * g + w) ≤ 10 := by
          have : w = 0 ∨ w = 1 ∨ w = 2 := by omega
          rcases this with rfl | rfl | rfl <;> first | omega | (rw [Nat.add_zero]; omega)
        have hmm := zmb hch.1 hft
        have hz1 := hz.1 (w + 1) (by omega)
        have ezs : zas (M 57) (M 72) (fun i => M 71 (1000 * b + i)) g n (w + 1) = zas (M 57) (M 72) (fun i => M 71 (1000 * b + i)) g n w + M 57 (39 + 3 * g + w) * M 71 (1000 * b + zthen (M 57) (M 72) g n (w + 1)) := rfl
        have ezn : znn (M 57) g (w + 1) = znn (M 57) g w - M 57 (39 + 3 * g + w) := rfl
        rw [ezs, ezn, ← hs, ← he] at hz1
        refine x_aload_n 17 rfl dX11_huntWorth_16 0 rfl rfl ?_
        refine x_getr 20 rfl fX11_24 dX11_huntWorth_17 (lyl55 hL) (lys55 hL) (by decide) (57) rfl ?_
        refine x_bipush 22 rfl dX11_huntWorth_20 (by decide) ?_
        refine x_iconst 23 rfl dX11_huntWorth_22 (by decide) ?_
        refine x_iload_n 24 rfl dX11_huntWorth_23 1 rfl rfl ?_
        refine y_imul 25 rfl dX11_huntWorth_24 (by omega) ?_
        refine y_iadd 26 rfl dX11_huntWorth_25 (by omega) ?_
        refine x_iload 28 rfl dX11_huntWorth_26 rfl ?_
        refine y_iadd 29 rfl dX11_huntWorth_28 (by omega) ?_
        refine x_iconst 30 rfl dX11_huntWorth_29 (by decide) ?_
        refine y_isub 31 rfl dX11_huntWorth_30 (by omega) ?_
        refine x_iald 32 rfl dX11_huntWorth_31 (lyl57 hL) (lys57 hL) (by omega) (by omega) ?_
        rw [show ((39 : Int) + 3 * (g : Int) + ((w : Int) + 1) - 1).toNat = 39 + 3 * g + w by omega]
        refine y_istore 34 rfl dX11_huntWorth_32 rfl (ls' := [_, _, _, _, _, _, _, _, _]) rfl (by decide) ?_
        refine x_iload 36 rfl dX11_huntWorth_34 rfl ?_
        refine x_iload 38 rfl dX11_huntWorth_36 rfl ?_
        refine y_isub 39 rfl dX11_huntWorth_38 (by omega) ?_
        refine y_istore 41 rfl dX11_huntWorth_39 rfl (ls' := [_, _, _, _, _, _, _, _, _]) rfl (by decide) ?_
        refine x_lload 43 rfl dX11_huntWorth_41 rfl ?_
        refine x_iload 45 rfl dX11_huntWorth_43 rfl ?_
        refine x_i2l 46 rfl dX11_huntWorth_45 ?_
        refine x_aload_n 47 rfl dX11_huntWorth_46 0 rfl rfl ?_
        refine x_getr 50 rfl fX11_71 dX11_huntWorth_47 (lyl55 hL) (lys55 hL) (by decide) (71) rfl ?_
        refine x_sipush 53 rfl dX11_huntWorth_50 (by decide) ?_
        refine x_iload_n 54 rfl dX11_huntWorth_53 3 rfl rfl ?_
        refine y_imul 55 rfl dX11_huntWorth_54 (by omega) ?_
        refine x_aload_n 56 rfl dX11_huntWorth_55 0 rfl rfl ?_
        refine x_getr 59 rfl fX11_24 dX11_huntWorth_56 (lyl55 hL) (lys55 hL) (by decide) (57) rfl ?_
        refine x_bipush 61 rfl dX11_huntWorth_59 (by decide) ?_
        refine x_ialk 62 rfl dX11_huntWorth_61 (lyl57 hL) (lys57 hL) 73 rfl (by decide) ?_
        refine x_iload_n 63 rfl dX11_huntWorth_62 2 rfl rfl ?_
        refine x_iload 65 rfl dX11_huntWorth_63 rfl ?_
        refine x_aload_n 66 rfl dX11_huntWorth_65 0 rfl rfl ?_
        refine x_getr 69 rfl fX11_75 dX11_huntWorth_66 (lyl55 hL) (lys55 hL) (by decide) (72) rfl ?_
        refine x_iload_n 70 rfl dX11_huntWorth_69 1 rfl rfl ?_
        refine x_iald 71 rfl dX11_huntWorth_70 (lyl72 hL) (lys72 hL) (by omega) (by omega) ?_
        rw [show ((g : Int)).toNat = g by omega]
        refine y_imul 72 rfl dX11_huntWorth_71 (by omega) ?_
        refine y_iadd 73 rfl dX11_huntWorth_72 (by omega) ?_
        refine x_cSi 76 rfl lX11_325 dX11_huntWorth_73 c_X11_lesser rfl rfl (Nat.le_of_ble_eq_true rfl) (fun r1 M1 hr1 => ?_)
        obtain ⟨hr2, hM1⟩ := hr1
        rw [hM1]
        subst hr2
        refine y_iadd 77 rfl dX11_huntWorth_76 (by omega) ?_
        refine x_lald 78 rfl dX11_huntWorth_77 (lyl71 hL) (lys71 hL) (by omega) (by omega) ?_
        rw [show ((1000 : Int) * (b : Int) + min (M 57 73) ((n : Int) + ((w : Int) + 1) * M 72 g)).toNat = 1000 * b + zthen (M 57) (M 72) g n (w + 1) by omega]
        refine y_lmul 79 rfl dX11_huntWorth_78 (by omega) ?_
        refine y_ladd 80 rfl dX11_huntWorth_79 (by omega) ?_
        refine y_lstore 82 rfl dX11_huntWorth_80 rfl (ls' := [_, _, _, _, _, _, _, _, _]) rfl (by decide) ?_
        refine w_iinc 85 rfl dX11_huntWorth_82 rfl (by decide) (by omega) rfl (ls' := [_, _, _, _, _, _, _, _, _]) rfl (by decide) ?_
        refine x_goto 10 dX11_huntWorth_85 (by decide) ?_
        refine z_wk (ls' := [some (zn 55), some (zi (g : Int)), some (zi (n : Int)), some (zi (b : Int)), some (zl _), none, some (zi _), some (zi (((w + 1 : Nat) : Int) + 1)), none]) ⟨rfl, rfl, rfl, rfl, rfl, rfl, z_e (by omega), trivial⟩ (ih (w + 1) _ _ (by omega) (by omega) (by rw [ezs, ← hs]) (by rw [ezn, ← he]))
  refine zX_of pl_RX11 [some (zn 55), some (zi (g : Int)), some (zi (n : Int)), some (zi (b : Int)), none, none, none, none, none] 5 rfl rfl ?_
  refine x_lconst (x := 0) 1 rfl dX11_huntWorth_0 rfl ?_
  refine y_lstore 3 rfl dX11_huntWorth_1 rfl (ls' := [_, _, _, _, _, _, _, _, _]) rfl (by decide) ?_
  refine x_bipush 5 rfl dX11_huntWorth_3 (by decide) ?_
  refine y_istore 7 rfl dX11_huntWorth_5 rfl (ls' := [_, _, _, _, _, _, _, _, _]) rfl (by decide) ?_
  refine x_iconst 8 rfl dX11_huntWorth_7 (by decide) ?_
  refine y_istore 10 rfl dX11_huntWorth_8 rfl (ls' := [_, _, _, _, _, _, _, _, _]) rfl (by decide) ?_
  exact loop 4 0 0 10 (by omega) (by omega) rfl rfl
