/-! odds, on the class's side -/
def zful (k : Nat → Int) (e n : Int) : Nat := (min (3 * n) ((k 73 - k 0 + e - 1) / e)).toNat
def zot (k : Nat → Int) (e : Int) (t : Nat) : Int := min (k 73) (k 0 + (t : Int) * e)
def zods (k : Nat → Int) (e : Int) (g : Nat) (n y : Int) : Int := zsum (fun t => if y ≤ zot k e t then zcr (zful k e n) (zch k g) n.toNat t else 0) (zful k e n + 1)
def zodds (Lw : List gC) (k : Nat → Int) (g n y : Int) : Int := if (0 ≤ g ∧ g < k 76) ∧ (0 ≤ n ∧ n ≤ 24) ∧ (0 ≤ y ∧ y ≤ 999) then zods k (zcasks Lw k g.toNat (zcrew k)) g.toNat n y else -1
theorem zful_in {k : Nat → Int} (hi : KI k) {e n : Int} (he : 1 ≤ e ∧ e ≤ 99) (hn : 0 ≤ n ∧ n ≤ 24) : ((zful k e n : Nat) : Int) = min (3 * n) ((k 73 - k 0 + e - 1) / e) ∧ 0 ≤ (k 73 - k 0 + e - 1) / e ∧ zful k e n ≤ 72 := by
  have i1 := hi.1
  have h1 : 0 ≤ (k 73 - k 0 + e - 1) / e := Int.ediv_nonneg (by omega) (by omega)
  unfold zful
  omega
theorem zRow_congr {full : Nat} {c c' : Nat → Int} (h : ∀ s, s ≤ full → c' s = c s) (hc : zRow full c) : zRow full c' := by
  have e : ∀ n, n ≤ full + 1 → zsum c' n = zsum c n := by
    intro n
    induction n with
    | zero => intro _; rfl
    | succ n ih => intro hn; rw [zsum_s, zsum_s, ih (by omega), h n (by omega)]
  exact ⟨fun s hs => by rw [h s hs]; exact hc.1 s hs, by rw [e _ (Nat.le_refl _)]; exact hc.2⟩
/-- the class's scratch for odds apart, nothing has changed -/
def oF (M M' : zMem) : Prop := (∀ i, i ≠ 41 → i ≠ 42 → i ≠ 53 → M' i = M i) ∧ v42 M'
theorem oF_one {M M1 M2 : zMem} (h : oF M M1) (h1 : ∀ i, i ≠ 53 → M2 i = M1 i) : oF M M2 := ⟨fun i a b c => (h1 i c).trans (h.1 i a b c), fun j hj => by rw [h1 42 (by decide)]; exact h.2 j hj⟩
theorem oF_SR {M M1 : zMem} {k : Nat → Int} (hs : SR M 1 k) (h : oF M M1) : SR M1 1 k := SR_frame hs (fun i a b => h.1 i (by omega) (by omega) (by omega))

set_option maxRecDepth 100000 in
set_option maxHeartbeats 4000000 in
theorem c_X5_chanceOfOil {d sz : Nat} {S : zSh} {M : zMem} (hL : LY S sz) {k : Nat → Int} (hs : SR M 1 k) (hi : KI k) {Lw : List gC} (hLw : LwC S sz M 1 k Lw) (hv : v42 M) {g : Nat} (hg : (g : Int) < k 76) {n y : Int} (hn : 0 ≤ n ∧ n ≤ 24) (hy : 0 ≤ y ∧ y ≤ 999) : zX (d + 4) 0 0 mX5_chanceOfOil [zn 49, zn 1, zi (g : Int), zi n, zi y] sz S M (zJ sz S (fun r M' => r = zods k (zcasks Lw k g (zcrew k)) g n y ∧ oF M M')) := by
  have i1 := hi.1
  have e71 := hs.2.1.2.1
  have e8 := hs.1.2.2.2.1
  have hcr := zcrew_in hi
  have hch := zch_Ch hi (g := g) (by omega)
  obtain ⟨e, he⟩ : ∃ e, zcasks Lw k g (zcrew k) = e := ⟨_, rfl⟩
  have heb := zcasks_in (Lw := Lw) (k := k) (g := g) (crew := zcrew k)
  rw [he] at heb
  obtain ⟨full, hfu⟩ : ∃ full, zful k e n = full := ⟨_, rfl⟩
  have hfi := zful_in hi heb hn
  rw [hfu] at hfi
  have hte : ∀ t : Nat, t ≤ full → 0 ≤ (t : Int) * e ∧ (t : Int) * e ≤ 7128 := fun t ht => ⟨Int.mul_nonneg (by omega) (by omega), by have := Int.mul_le_mul (a := (t : Int)) (b := e) (c := 72) (d := 99) (by omega) heb.2 (by omega) (by omega); omega⟩
  have sum : ∀ M1 : zMem, (∀ s, s ≤ full → M1 53 s = zcr full (zch k g) n.toNat s) → oF M M1 → ∀ (q t : Nat) (v : Int), full + 1 < q + t → t ≤ full + 1 → v = zsum (fun t => if y ≤ zot k e t then zcr full (zch k g) n.toNat t else 0) t → zW mX5_chanceOfOil (d + 4) 0 0 [] (zJ sz S (fun r M' => r = zods k (zcasks Lw k g (zcrew k)) g n y ∧ oF M M')) 112 [some (zn 49), some (zn 1), some (zi (g : Int)), some (zi n), some (zi y), some (zi (k 73)), some (zi e), some (zi (full : Int)), some (zl v), none, some (zi t)] [] sz S M1 := by
    intro M1 h1 hF q
    have hs1 := oF_SR hs hF
    have e81 := hs1.1.2.2.2.1
    have hrw := zcr_row (full := full) hch n.toNat
    have hnn : ∀ t, t ≤ full → 0 ≤ (if y ≤ zot k e t then zcr full (zch k g) n.toNat t else 0) := fun t ht => by split; exact hrw.1 t ht; exact Int.le_refl _
    have hle : ∀ t, t ≤ full → (if y ≤ zot k e t then zcr full (zch k g) n.toNat t else 0) ≤ zcr full (zch k g) n.toNat t := fun t ht => by split; exact Int.le_refl _; exact hrw.1 t ht
    have hlt : ∀ t, t ≤ full + 1 → zsum (fun t => if y ≤ zot k e t then zcr full (zch k g) n.toNat t else 0) t ≤ zsum (zcr full (zch k g) n.toNat) t := by
      intro t
      induction t with
      | zero => intro _; exact Int.le_refl _
      | succ t ih => intro ht; rw [zsum_s, zsum_s]; have := ih (by omega); have := hle t (by omega); omega
    induction q with
    | zero => intro t v hq ht; omega
    | succ q ih =>
      intro t v hq ht hv
      have hv0 : 0 ≤ v ∧ v ≤ 1000000000000 := by
        rw [hv]
        have a1 := zsum_nn (f := fun t => if y ≤ zot k e t then zcr full (zch k g) n.toNat t else 0) t (fun s hs => hnn s (by omega))
        have a2 := hlt t ht
        have a3 := zsum_mono (f := zcr full (zch k g) n.toNat) t (full + 1 - t) (fun s hs => hrw.1 s (by omega))
        rw [show t + (full + 1 - t) = full + 1 by omega] at a3
        have a4 := hrw.2
        omega
      refine x_iload 114 rfl dX5_chanceOfOil_112 rfl ?_
      refine x_iload 116 rfl dX5_chanceOfOil_114 rfl ?_
      refine x_icmp_gt 119 157 rfl dX5_chanceOfOil_116 (by decide) (fun c116 => ?_) (fun c116 => ?_)
      · refine x_lload 159 rfl dX5_chanceOfOil_157 rfl ?_
        refine x_retj dX5_chanceOfOil_159 rfl ?_
        refine ⟨?_, hF⟩
        unfold zods
        rw [he, hfu, hv, show t = full + 1 by omega]
      · have htt := hte t (by omega)
        have hz9 := hrw.1 t (by omega)
        have hz8 := zsum_le (f := zcr full (zch k g) n.toNat) (full + 1) (fun s hs => hrw.1 s (by omega)) t (by omega)
        have hz7 := hrw.2
        refine x_iload 121 rfl dX5_chanceOfOil_119 rfl ?_
        refine x_aload_n 122 rfl dX5_chanceOfOil_121 1 rfl rfl ?_
        refine x_geti 125 rfl fX5_62 dX5_chanceOfOil_122 (lyl1 hL) (lys1 hL) (by decide) ?_
        rw [e81]
        refine x_iload 127 rfl dX5_chanceOfOil_125 rfl ?_
        refine x_iload 129 rfl dX5_chanceOfOil_127 rfl ?_
        refine y_imul 130 rfl dX5_chanceOfOil_129 (by omega) ?_
        refine y_iadd 131 rfl dX5_chanceOfOil_130 (by omega) ?_
        refine x_cSi 134 rfl lX5_34 dX5_chanceOfOil_131 c_min rfl rfl (Nat.le_of_ble_eq_true rfl) (fun r1 M2 hr1 => ?_)
        obtain ⟨hr2, hM2⟩ := hr1
        rw [hM2]
        have hr2 : r1 = zot k e t := hr2
        refine x_iload 136 rfl dX5_chanceOfOil_134 rfl ?_
        refine x_icmp_lt 139 151 rfl dX5_chanceOfOil_136 (by decide) (fun c136 => ?_) (fun c136 => ?_)
        · refine w_iinc 154 rfl dX5_chanceOfOil_151 rfl (by decide) (by omega) rfl (ls' := [_, _, _, _, _, _, _, _, _, _, _]) rfl (by decide) ?_
          refine x_goto 112 dX5_chanceOfOil_154 (by decide) ?_
          refine ih (t + 1) v (by omega) (by omega) ?_
          rw [zsum_s, ← hv, if_neg (by omega)]; omega
        · refine x_lload 141 rfl dX5_chanceOfOil_139 rfl ?_
          refine x_aload_n 142 rfl dX5_chanceOfOil_141 0 rfl rfl ?_
          refine x_getr 145 rfl fX5_22 dX5_chanceOfOil_142 (lyl49 hL) (lys49 hL) (by decide) (53) rfl ?_
          refine x_iload 147 rfl dX5_chanceOfOil_145 rfl ?_
          refine x_lald 148 rfl dX5_chanceOfOil_147 (lyl53 hL) (lys53 hL) (by omega) (by omega) ?_
          rw [show ((t : Int)).toNat = t by omega, h1 t (by omega)]
          refine y_ladd 149 rfl dX5_chanceOfOil_148 (by omega) ?_
          refine y_lstore 151 rfl dX5_chanceOfOil_149 rfl (ls' := [_, _, _, _, _, _, _, _, _, _, _]) rfl (by decide) ?_
          refine w_iinc 154 rfl dX5_chanceOfOil_151 rfl (by decide) (by omega) rfl (ls' := [_, _, _, _, _, _, _, _, _, _, _]) rfl (by decide) ?_
          refine x_goto 112 dX5_chanceOfOil_154 (by decide) ?_
          refine ih (t + 1) _ (by omega) (by omega) ?_
          rw [zsum_s, ← hv, if_pos (by omega)]
  have mon : ∀ (q j : Nat) (M1 : zMem), n.toNat < q + j → j ≤ n.toNat → (∀ s, s ≤ full → M1 53 s = zcr full (zch k g) j s) → oF M M1 → zW mX5_chanceOfOil (d + 4) 0 0 [] (zJ sz S (fun r M' => r = zods k (zcasks Lw k g (zcrew k)) g n y ∧ oF M M')) 86 [some (zn 49), some (zn 1), some (zi (g : Int)), some (zi n), some (zi y), some (zi (k 73)), some (zi e), some (zi (full : Int)), some (zi j), none, none] [] sz S M1 := by
    intro q
    induction q with
    | zero => intro j M1 hq hj; omega
    | succ q ih =>
      intro j M1 hq hj h1 hF
      have hs1 := oF_SR hs hF
      refine x_iload 88 rfl dX5_chanceOfOil_86 rfl ?_
      refine x_iload_n 89 rfl dX5_chanceOfOil_88 3 rfl rfl ?_
      refine x_icmp_ge 92 106 rfl dX5_chanceOfOil_89 (by decide) (fun c89 => ?_) (fun c89 => ?_)
      · refine x_lconst (x := 0) 107 rfl dX5_chanceOfOil_106 rfl ?_
        refine y_lstore 109 rfl dX5_chanceOfOil_107 rfl (ls' := [_, _, _, _, _, _, _, _, _, _, _]) rfl (by decide) ?_
        refine x_iconst 110 rfl dX5_chanceOfOil_109 (by decide) ?_
        refine y_istore 112 rfl dX5_chanceOfOil_110 rfl (ls' := [_, _, _, _, _, _, _, _, _, _, _]) rfl (by decide) ?_
        have ej : j = n.toNat := by omega
        subst ej
        refine z_wk (ls' := [some (zn 49), some (zn 1), some (zi (g : Int)), some (zi n), some (zi y), some (zi (k 73)), some (zi e), some (zi (full : Int)), some (zl 0), none, some (zi ((0 : Nat) : Int))]) ⟨rfl, rfl, rfl, rfl, rfl, rfl, rfl, rfl, rfl, rfl, trivial⟩ (sum M1 h1 hF (full + 2) 0 0 (by omega) (by omega) rfl)
      · refine x_aload_n 93 rfl dX5_chanceOfOil_92 0 rfl rfl ?_
        refine x_aload_n 94 rfl dX5_chanceOfOil_93 1 rfl rfl ?_
        refine x_iload_n 95 rfl dX5_chanceOfOil_94 2 rfl rfl ?_
        refine x_iload 97 rfl dX5_chanceOfOil_95 rfl ?_
        refine x_cVu 100 rfl lX5_91 dX5_chanceOfOil_97 (lyl49 hL) (lys49 hL) (c_X5_spread hL hs1 hi (g := g) (by omega) hfi.2.2 (zRow_congr h1 (zcr_row hch j))) rfl rfl (Nat.le_of_ble_eq_true rfl) (fun M3 hr3 => ?_)
        obtain ⟨hr4, hF3⟩ := hr3
        refine w_iinc 103 rfl dX5_chanceOfOil_100 rfl (by decide) (by omega) rfl (ls' := [_, _, _, _, _, _, _, _, _, _, _]) rfl (by decide) ?_
        refine x_goto 86 dX5_chanceOfOil_103 (by decide) ?_
        refine z_wk (ls' := [some (zn 49), some (zn 1), some (zi (g : Int)), some (zi n), some (zi y), some (zi (k 73)), some (zi e), some (zi (full : Int)), some (zi ((j + 1 : Nat) : Int)), none, none]) ⟨rfl, rfl, rfl, rfl, rfl, rfl, rfl, rfl, rfl, trivial⟩ (ih (j + 1) M3 (by omega) (by omega) (fun s hs9 => ?_) (oF_one hF hF3))
        rw [hr4 s hs9]
        exact zsu_congr h1 _ (Nat.le_refl _)
  have fill : ∀ (q t : Nat) (M1 : zMem), full + 1 < q + t → t ≤ full + 1 → (∀ s, s < t → M1 53 s = 0) → oF M M1 → zW mX5_chanceOfOil (d + 4) 0 0 [] (zJ sz S (fun r M' => r = zods k (zcasks Lw k g (zcrew k)) g n y ∧ oF M M')) 53 [some (zn 49), some (zn 1), some (zi (g : Int)), some (zi n), some (zi y), some (zi (k 73)), some (zi e), some (zi (full : Int)), some (zi t), none, none] [] sz S M1 := by
    intro q
    induction q with
    | zero => intro t M1 hq ht; omega
    | succ q ih =>
      intro t M1 hq ht h1 hF
      refine x_iload 55 rfl dX5_chanceOfOil_53 rfl ?_
      refine x_iload 57 rfl dX5_chanceOfOil_55 rfl ?_
      refine x_icmp_gt 60 74 rfl dX5_chanceOfOil_57 (by decide) (fun c57 => ?_) (fun c57 => ?_)
      · refine x_aload_n 75 rfl dX5_chanceOfOil_74 0 rfl rfl ?_
        refine x_getr 78 rfl fX5_22 dX5_chanceOfOil_75 (lyl49 hL) (lys49 hL) (by decide) (53) rfl ?_
        refine x_iconst 79 rfl dX5_chanceOfOil_78 (by decide) ?_
        refine x_ldc2 (x := 1000000000000) 82 rfl klX5_89 (by decide) dX5_chanceOfOil_79 ?_
        refine x_last 83 rfl dX5_chanceOfOil_82 (lyl53 hL) (lys53 hL) (by omega) (by omega) ?_
        refine x_iconst 84 rfl dX5_chanceOfOil_83 (by decide) ?_
        refine y_istore 86 rfl dX5_chanceOfOil_84 rfl (ls' := [_, _, _, _, _, _, _, _, _, _, _]) rfl (by decide) ?_
        refine z_wk (ls' := [some (zn 49), some (zn 1), some (zi (g : Int)), some (zi n), some (zi y), some (zi (k 73)), some (zi e), some (zi (full : Int)), some (zi ((0 : Nat) : Int)), none, none]) ⟨rfl, rfl, rfl, rfl, rfl, rfl, rfl, rfl, rfl, trivial⟩ (mon (n.toNat + 1) 0 _ (by omega) (by omega) (fun s hs9 => ?_) (oF_one hF (fun i a => z_up_ne a)))
        show _ = (if s = 0 then (1000000000000 : Int) else 0)
        by_cases e0 : s = 0
        · rw [e0, if_pos rfl]; exact z_up_eq
        · rw [if_neg e0, z_up_nk (by omega)]; exact h1 s (by omega)
      · refine x_aload_n 61 rfl dX5_chanceOfOil_60 0 rfl rfl ?_
        refine x_getr 64 rfl fX5_22 dX5_chanceOfOil_61 (lyl49 hL) (lys49 hL) (by decide) (53) rfl ?_
        refine x_iload 66 rfl dX5_chanceOfOil_64 rfl ?_
        refine x_lconst (x := 0) 67 rfl dX5_chanceOfOil_66 rfl ?_
        refine x_last 68 rfl dX5_chanceOfOil_67 (lyl53 hL) (lys53 hL) (by omega) (by omega) ?_
        rw [show ((t : Int)).toNat = t by omega]
        refine w_iinc 71 rfl dX5_chanceOfOil_68 rfl (by decide) (by omega) rfl (ls' := [_, _, _, _, _, _, _, _, _, _, _]) rfl (by decide) ?_
        refine x_goto 53 dX5_chanceOfOil_71 (by decide) ?_
        refine ih (t + 1) _ (by omega) (by omega) (fun s hs9 => ?_) (oF_one hF (fun i a => z_up_ne a))
        by_cases e0 : s = t
        · rw [e0, z_up_eq]
        · rw [z_up_nk e0]; exact h1 s (by omega)
  refine zX_of pl_RX5 [some (zn 49), some (zn 1), some (zi (g : Int)), some (zi n), some (zi y), none, none, none, none, none, none] 6 rfl rfl ?_
  refine x_aload_n 1 rfl dX5_chanceOfOil_0 1 rfl rfl ?_
  refine x_getr 4 rfl fX5_29 dX5_chanceOfOil_1 (lyl1 hL) (lys1 hL) (by decide) (8) rfl ?_
  refine x_iconst 5 rfl dX5_chanceOfOil_4 (by decide) ?_
  refine x_ialk 6 rfl dX5_chanceOfOil_5 (lyl8 hL) (lys8 hL) 1 rfl (by decide) ?_
  rw [e71]
  refine y_istore 8 rfl dX5_chanceOfOil_6 rfl (ls' := [_, _, _, _, _, _, _, _, _, _, _]) rfl (by decide) ?_
  refine x_iconst 9 rfl dX5_chanceOfOil_8 (by decide) ?_
  refine x_aload_n 10 rfl dX5_chanceOfOil_9 0 rfl rfl ?_
  refine x_getr 13 rfl fX5_25 dX5_chanceOfOil_10 (lyl49 hL) (lys49 hL) (by decide) (39) rfl ?_
  refine x_aload_n 14 rfl dX5_chanceOfOil_13 1 rfl rfl ?_
  refine x_iload_n 15 rfl dX5_chanceOfOil_14 2 rfl rfl ?_
  refine x_aload_n 16 rfl dX5_chanceOfOil_15 1 rfl rfl ?_
  refine x_cVi 19 rfl lX5_44 dX5_chanceOfOil_16 (lyl1 hL) (lys1 hL) (c_X7_crewSize (ly_sh1 hL) hs hi) rfl rfl (Nat.le_of_ble_eq_true rfl) (fun a1 M8 ha1 => ?_)
  obtain ⟨ha2, hM8⟩ := ha1
  rw [hM8]
  subst ha2
  refine x_cVi 22 rfl lX5_48 dX5_chanceOfOil_19 (lyl39 hL) (lys39 hL) (c_X1_casksOf (Lw := Lw) hL (ly_sh1 hL) (by decide) hs hi hLw hv (by omega) (by omega)) rfl rfl (Nat.le_of_ble_eq_true rfl) (fun a3 M7 ha3 => ?_)
  obtain ⟨ha4, hF7⟩ := ha3
  rw [show ((g : Int)).toNat = g by omega, he] at ha4
  have e87 : M7 1 8 = k 0 := by rw [hF7.1 1 (by decide) (by decide)]; exact e8
  refine x_cSi 25 rfl lX5_87 dX5_chanceOfOil_22 c_max rfl rfl (Nat.le_of_ble_eq_true rfl) (fun a5 M6 ha5 => ?_)
  obtain ⟨ha6, hM6⟩ := ha5
  rw [hM6]
  rw [ha4, show max 1 e = e by omega] at ha6
  subst ha6
  refine y_istore 27 rfl dX5_chanceOfOil_25 rfl (ls' := [_, _, _, _, _, _, _, _, _, _, _]) rfl (by decide) ?_
  refine x_iload_n 28 rfl dX5_chanceOfOil_27 3 rfl rfl ?_
  refine x_iconst 29 rfl dX5_chanceOfOil_28 (by decide) ?_
  refine y_imul 30 rfl dX5_chanceOfOil_29 (by omega) ?_
  refine x_iload 32 rfl dX5_chanceOfOil_30 rfl ?_
  refine x_aload_n 33 rfl dX5_chanceOfOil_32 1 rfl rfl ?_
  refine x_geti 36 rfl fX5_62 dX5_chanceOfOil_33 (lyl1 hL) (lys1 hL) (by decide) ?_
  rw [e87]
  refine y_isub 37 rfl dX5_chanceOfOil_36 (by omega) ?_
  refine x_iload 39 rfl dX5_chanceOfOil_37 rfl ?_
  refine y_iadd 40 rfl dX5_chanceOfOil_39 (by omega) ?_
  refine x_iconst 41 rfl dX5_chanceOfOil_40 (by decide) ?_
  refine y_isub 42 rfl dX5_chanceOfOil_41 (by omega) ?_
  refine x_iload 44 rfl dX5_chanceOfOil_42 rfl ?_
  refine x_idiv 45 rfl dX5_chanceOfOil_44 (by omega) ?_
  rw [z_tdiv (by omega) (by omega) (by omega)]
  refine x_cSi 48 rfl lX5_34 dX5_chanceOfOil_45 c_min rfl rfl (Nat.le_of_ble_eq_true rfl) (fun a7 M5 ha7 => ?_)
  obtain ⟨ha8, hM5⟩ := ha7
  rw [hM5]
  have ha8 : a7 = (full : Int) := by rw [ha8, hfi.1]; congr 1; omega
  subst ha8
  refine y_istore 50 rfl dX5_chanceOfOil_48 rfl (ls' := [_, _, _, _, _, _, _, _, _, _, _]) rfl (by decide) ?_
  refine x_iconst 51 rfl dX5_chanceOfOil_50 (by decide) ?_
  refine y_istore 53 rfl dX5_chanceOfOil_51 rfl (ls' := [_, _, _, _, _, _, _, _, _, _, _]) rfl (by decide) ?_
  exact fill (full + 2) 0 M7 (by omega) (by omega) (fun s hs9 => by omega) ⟨fun i a b c => hF7.1 i a b, hF7.2⟩

theorem odds_x {d sz : Nat} {S : zSh} {M : zMem} (hL : LY S sz) {k : Nat → Int} (hs : SR M 1 k) (hi : KI k) {Lw : List gC} (hLw : LwC S sz M 1 k Lw) (hv : v42 M) {x n y : Int} (hx : 0 ≤ x ∧ x < k 76) (hn : 0 ≤ n ∧ n ≤ 24) (hy : 0 ≤ y ∧ y ≤ 999) : zX (d + 4) 0 0 mX5_chanceOfOil [zn 49, zn 1, zi x, zi n, zi y] sz S M (zJ sz S (fun r M' => r = zods k (zcasks Lw k x.toNat (zcrew k)) x.toNat n y ∧ oF M M')) := by
  have h := c_X5_chanceOfOil (d := d) hL hs hi hLw hv (g := x.toNat) (by omega) hn hy
  rwa [show ((x.toNat : Nat) : Int) = x by omega] at h

set_option maxRecDepth 100000 in
set_option maxHeartbeats 4000000 in
theorem c_X10_odds {d sz : Nat} {S : zSh} {M : zMem} (hL : LY S sz) {k : Nat → Int} (hs : SR M 1 k) (hi : KI k) {Lw : List gC} (hLw : LwC S sz M 1 k Lw) (hv : v42 M) {x y z : Int} : zX (d + 5) 0 0 mX10_odds [zn 0, zi x, zi y, zi z] sz S M (zJ sz S (fun r M' => r = zodds Lw k x y z ∧ oF M M')) := by
  have i1 := hi.1
  have oref : oF M M := ⟨fun _ _ _ _ => rfl, hv⟩
  refine zX_of pl_RX10 [some (zn 0), some (zi x), some (zi y), some (zi z)] 0 rfl rfl ?_
  refine x_aload_n 1 rfl dX10_odds_0 0 rfl rfl ?_
  refine x_getr 4 rfl fX10_10 dX10_odds_1 (lyl0 hL) (lys0 hL) (by decide) (1) rfl ?_
  refine x_iload_n 5 rfl dX10_odds_4 1 rfl rfl ?_
  refine x_cVi 8 rfl lX10_150 dX10_odds_5 (lyl1 hL) (lys1 hL) (c_X7_hasGround (ly_sh1 hL) hs hi) rfl rfl (Nat.le_of_ble_eq_true rfl) (fun a1 M9 ha1 => ?_)
  obtain ⟨ha2, hM9⟩ := ha1
  rw [hM9]
  refine x_if_eq 11 32 rfl dX10_odds_8 (by decide) (fun c8 => ?_) (fun c8 => ?_)
  · have hx : ¬ (0 ≤ x ∧ x < k 76) := fun h9 => by rw [if_pos h9] at ha2; omega
    refine x_ldc2 (x := -1) 35 rfl klX10_246 (by decide) dX10_odds_32 ?_
    refine x_retj dX10_odds_35 rfl ?_
    exact ⟨by unfold zodds; rw [if_neg (fun h9 => hx h9.1)], oref⟩
  · have hx : 0 ≤ x ∧ x < k 76 := Decidable.byContradiction (fun h9 => by rw [if_neg h9] at ha2; omega)
    refine x_iload_n 12 rfl dX10_odds_11 2 rfl rfl ?_
    refine x_if_lt 15 32 rfl dX10_odds_12 (by decide) (fun c12 => ?_) (fun c12 => ?_)
    · refine x_ldc2 (x := -1) 35 rfl klX10_246 (by decide) dX10_odds_32 ?_
      refine x_retj dX10_odds_35 rfl ?_
      exact ⟨by unfold zodds; rw [if_neg (fun h9 => by omega)], oref⟩
    · refine x_iload_n 16 rfl dX10_odds_15 2 rfl rfl ?_
      refine x_bipush 18 rfl dX10_odds_16 (by decide) ?_
      refine x_icmp_gt 21 32 rfl dX10_odds_18 (by decide) (fun c18 => ?_) (fun c18 => ?_)
      · refine x_ldc2 (x := -1) 35 rfl klX10_246 (by decide) dX10_odds_32 ?_
        refine x_retj dX10_odds_35 rfl ?_
        exact ⟨by unfold zodds; rw [if_neg (fun h9 => by omega)], oref⟩
      · refine x_iload_n 22 rfl dX10_odds_21 3 rfl rfl ?_
        refine x_if_lt 25 32 rfl dX10_odds_22 (by decide) (fun c22 => ?_) (fun c22 => ?_)
        · refine x_ldc2 (x := -1) 35 rfl klX10_246 (by decide) dX10_odds_32 ?_
          refine x_retj dX10_odds_35 rfl ?_
          exact ⟨by unfold zodds; rw [if_neg (fun h9 => by omega)], oref⟩
        · refine x_iload_n 26 rfl dX10_odds_25 3 rfl rfl ?_
          refine x_sipush 29 rfl dX10_odds_26 (by decide) ?_
          refine x_icmp_le 32 36 rfl dX10_odds_29 (by decide) (fun c29 => ?_) (fun c29 => ?_)
          · refine x_aload_n 37 rfl dX10_odds_36 0 rfl rfl ?_
            refine x_getr 40 rfl fX10_75 dX10_odds_37 (lyl0 hL) (lys0 hL) (by decide) (49) rfl ?_
            refine x_aload_n 41 rfl dX10_odds_40 0 rfl rfl ?_
            refine x_getr 44 rfl fX10_10 dX10_odds_41 (lyl0 hL) (lys0 hL) (by decide) (1) rfl ?_
            refine x_iload_n 45 rfl dX10_odds_44 1 rfl rfl ?_
            refine x_iload_n 46 rfl dX10_odds_45 2 rfl rfl ?_
            refine x_iload_n 47 rfl dX10_odds_46 3 rfl rfl ?_
            refine x_cVj 50 rfl lX10_252 dX10_odds_47 (lyl49 hL) (lys49 hL) (odds_x (Lw := Lw) hL hs hi hLw hv hx (by omega) (by omega)) rfl rfl (Nat.le_of_ble_eq_true rfl) (fun r1 M1 hr1 => ?_)
            obtain ⟨hr2, hF1⟩ := hr1
            refine x_retj dX10_odds_50 rfl ?_
            refine ⟨?_, hF1⟩
            unfold zodds
            rw [if_pos ⟨hx, by omega, by omega⟩]
            exact hr2
          · refine x_ldc2 (x := -1) 35 rfl klX10_246 (by decide) dX10_odds_32 ?_
            refine x_retj dX10_odds_35 rfl ?_
            exact ⟨by unfold zodds; rw [if_neg (fun h9 => by omega)], oref⟩
