/-! crew, on the class's side -/
theorem zbt_s {s : Nat} (hs : s < 256) {h : Nat} (hh : h < 8) : zand (zshr (s : Int) (h : Int)) 1 = 1 ↔ zbf s h = 1 := by
  have := zbt (zbf01 (s := s)) hh
  rwa [zbf_mk s hs] at this
theorem zor_new : ∀ s : Nat, s < 9 → ∀ N : Nat, N < 2 ^ s → zor (N : Int) (zshl 1 (s : Int)) = (N : Int) + 2 ^ s := by decide +kernel
theorem zbit_9 : ∀ p : Nat, p < 9 → ∀ N : Nat, N < 512 → zand (zshr (N : Int) (p : Int)) 1 = ((N / 2 ^ p % 2 : Nat) : Int) := by decide +kernel
def zsz (Lw : List gC) (k : Nat → Int) (g : Nat) (c : Int) : Nat → Nat
  | 0 => 0
  | n + 1 => zsz Lw k g c n + (if c ≤ zcasks Lw k g ((n : Int) + 1) then 2 ^ (n + 1) else 0)
theorem zsz_lt {Lw : List gC} {k : Nat → Int} {g : Nat} {c : Int} : ∀ n, zsz Lw k g c n < 2 ^ (n + 1)
  | 0 => by show 0 < 2 ^ 1; decide
  | n + 1 => by
    have ih := zsz_lt (Lw := Lw) (k := k) (g := g) (c := c) n
    have e : zsz Lw k g c (n + 1) = zsz Lw k g c n + (if c ≤ zcasks Lw k g ((n : Int) + 1) then 2 ^ (n + 1) else 0) := rfl
    have e2 : 2 ^ (n + 1 + 1) = 2 ^ (n + 1) * 2 := Nat.pow_succ ..
    rw [e]
    split <;> omega
theorem zsz_bit {Lw : List gC} {k : Nat → Int} {g : Nat} {c : Int} : ∀ n p, 1 ≤ p → p ≤ n → (zsz Lw k g c n / 2 ^ p % 2 = 1 ↔ c ≤ zcasks Lw k g (p : Int))
  | 0, p, h1, h2 => by omega
  | n + 1, p, h1, h2 => by
    have hlt := zsz_lt (Lw := Lw) (k := k) (g := g) (c := c) n
    have e : zsz Lw k g c (n + 1) = zsz Lw k g c n + (if c ≤ zcasks Lw k g ((n : Int) + 1) then 2 ^ (n + 1) else 0) := rfl
    rw [e]
    rcases Nat.lt_or_ge p (n + 1) with h3 | h3
    · have ih := zsz_bit (Lw := Lw) (k := k) (g := g) (c := c) n p h1 (by omega)
      rw [← ih]
      split
      · have e3 : 2 ^ (n + 1) = 2 ^ p * (2 * 2 ^ (n - p)) := by
          rw [← Nat.mul_assoc, ← Nat.pow_succ, ← Nat.pow_add]
          congr 1
          omega
        rw [e3, Nat.add_mul_div_left _ _ (Nat.pos_of_ne_zero (by have := Nat.one_le_two_pow (n := p); omega))]
        omega
      · rw [Nat.add_zero]
    · have ep : p = n + 1 := by omega
      subst ep
      have e4 : ((n + 1 : Nat) : Int) = (n : Int) + 1 := by omega
      rw [e4]
      split
      · rename_i h5
        rw [Nat.add_div_right _ (Nat.pos_of_ne_zero (by have := Nat.one_le_two_pow (n := n + 1); omega)), Nat.div_eq_of_lt hlt]
        exact ⟨fun _ => h5, fun _ => rfl⟩
      · rename_i h5
        rw [Nat.add_zero, Nat.div_eq_of_lt hlt]
        exact ⟨fun h6 => by omega, fun h6 => absurd h6 h5⟩

set_option maxRecDepth 100000 in
set_option maxHeartbeats 4000000 in
theorem c_X5_partsOfSet {d sz : Nat} {S : zSh} {M : zMem} (hL : LY S sz) {k : Nat → Int} (hs : SR M 1 k) (hi : KI k) {s : Nat} (h8 : s < 256) : zX (d + 1) 0 0 mX5_partsOfSet [zn 1, zi (s : Int)] sz S M (zJ sz S (fun r M' => r = zlays k (zbf s) ∧ M' = M)) := by
  have i1 := hi.1
  have e0 := hs.1.1
  have loop : ∀ (q n : Nat) (y : Int), (k 75).toNat < q + n → n ≤ (k 75).toNat → y = zsum (zly k (zbf s)) n → zW mX5_partsOfSet (d + 1) 0 0 [] (zJ sz S (fun r M' => r = zlays k (zbf s) ∧ M' = M)) 5 [some (zn 1), some (zi (s : Int)), some (zl y), none, some (zi n)] [] sz S M := by
    intro q
    induction q with
    | zero => intro n y hq hn; omega
    | succ q ih =>
      intro n y hq hn h1
      have hz := zlays_in (g := zbf s) hi n hn
      refine x_iload 7 rfl dX5_partsOfSet_5 rfl ?_
      refine x_aload_n 8 rfl dX5_partsOfSet_7 0 rfl rfl ?_
      refine x_geti 11 rfl fX5_98 dX5_partsOfSet_8 (lyl1 hL) (lys1 hL) (by decide) ?_
      rw [e0]
      refine x_icmp_ge 14 39 rfl dX5_partsOfSet_11 (by decide) (fun c11 => ?_) (fun c11 => ?_)
      · refine x_lload_n 40 rfl dX5_partsOfSet_39 2 rfl rfl ?_
        refine x_retj dX5_partsOfSet_40 rfl ?_
        refine ⟨?_, rfl⟩
        rw [h1, show n = (k 75).toNat by omega]
        rfl
      · have hz1 := zly_in (g := zbf s) hi (h := n) (by omega)
        have hb := zbt_s h8 (h := n) (by omega)
        have h01 := zbf01 (s := s) n (by omega)
        refine x_iload_n 15 rfl dX5_partsOfSet_14 1 rfl rfl ?_
        refine x_iload 17 rfl dX5_partsOfSet_15 rfl ?_
        refine x_ishr 18 rfl dX5_partsOfSet_17 ?_
        refine x_iconst 19 rfl dX5_partsOfSet_18 (by decide) ?_
        refine x_iand 20 rfl dX5_partsOfSet_19 ?_
        refine x_iconst 21 rfl dX5_partsOfSet_20 (by decide) ?_
        refine x_icmp_ne 24 33 rfl dX5_partsOfSet_21 (by decide) (fun c21 => ?_) (fun c21 => ?_)
        · refine w_iinc 36 rfl dX5_partsOfSet_33 rfl (by decide) (by omega) rfl (ls' := [_, _, _, _, _]) rfl (by decide) ?_
          refine x_goto 5 dX5_partsOfSet_36 (by decide) ?_
          exact ih (n + 1) _ (by omega) (by omega) (by simp only [zsum]; rw [h1]; unfold zly; rw [if_neg (fun h9 => c21 (hb.2 h9))]; omega)
        · refine x_lload_n 25 rfl dX5_partsOfSet_24 2 rfl rfl ?_
          refine x_aload_n 26 rfl dX5_partsOfSet_25 0 rfl rfl ?_
          refine x_iload 28 rfl dX5_partsOfSet_26 rfl ?_
          refine x_cVj 31 rfl lX5_119 dX5_partsOfSet_28 (lyl1 hL) (lys1 hL) (c_X7_partsOf (ly_sh1 hL) hs hi (by omega)) rfl rfl (Nat.le_of_ble_eq_true rfl) (fun r1 M1 hr1 => ?_)
          obtain ⟨hr2, hM1⟩ := hr1
          rw [hM1]
          rw [show ((n : Int)).toNat = n by omega] at hr2
          have hzv : zly k (zbf s) n = r1 := by unfold zly; rw [if_pos (hb.1 c21), hr2]
          refine y_ladd 32 rfl dX5_partsOfSet_31 (by omega) ?_
          refine y_lstore_n 33 rfl dX5_partsOfSet_32 rfl rfl (ls' := [_, _, _, _, _]) rfl (by decide) ?_
          refine w_iinc 36 rfl dX5_partsOfSet_33 rfl (by decide) (by omega) rfl (ls' := [_, _, _, _, _]) rfl (by decide) ?_
          refine x_goto 5 dX5_partsOfSet_36 (by decide) ?_
          exact ih (n + 1) _ (by omega) (by omega) (by simp only [zsum]; rw [h1, hzv])
  refine zX_of pl_RX5 [some (zn 1), some (zi (s : Int)), none, none, none] 3 rfl rfl ?_
  refine x_lconst (x := 0) 1 rfl dX5_partsOfSet_0 rfl ?_
  refine y_lstore_n 2 rfl dX5_partsOfSet_1 rfl rfl (ls' := [_, _, _, _, _]) rfl (by decide) ?_
  refine x_iconst 3 rfl dX5_partsOfSet_2 (by decide) ?_
  refine y_istore 5 rfl dX5_partsOfSet_3 rfl (ls' := [_, _, _, _, _]) rfl (by decide) ?_
  exact loop ((k 75).toNat + 1) 0 0 (by omega) (by omega) rfl

set_option maxRecDepth 100000 in
set_option maxHeartbeats 4000000 in
theorem c_X5_cheapestCrew {d sz : Nat} {S : zSh} {M : zMem} (hL : LY S sz) {k : Nat → Int} (hs : SR M 1 k) (hi : KI k) {Lw : List gC} (hLw : LwC S sz M 1 k Lw) (hv : v42 M) {x y t : Int} (hx : 0 ≤ x ∧ x < k 76) (ht : t = 0 ∨ t = 1) : zX (d + 4) 0 0 mX5_cheapestCrew [zn 49, zn 1, zi x, zi y, zi t] sz S M (zJ sz S (fun r M' => r = (if t = 0 then (zcF Lw k x.toNat y (zmask k).toNat).1 else (zcF Lw k x.toNat y (zmask k).toNat).2) ∧ jF M M')) := by
  have i1 := hi.1
  have hm := zmask_in hi
  have hcr := zcrew_in hi
  have hzl := zsz_lt (Lw := Lw) (k := k) (g := x.toNat) (c := y) (zcrew k).toNat
  have hzl9 : zsz Lw k x.toNat y (zcrew k).toNat < 512 := Nat.lt_of_lt_of_le hzl (by have := Nat.pow_le_pow_right (n := 2) (by decide) (show (zcrew k).toNat + 1 ≤ 9 by omega); omega)
  have loop2 : ∀ (q s : Nat) (a b : Int) (M2 : zMem), 256 < q + s → 1 ≤ s → (s : Int) ≤ zmask k + 1 → zcF Lw k x.toNat y (s - 1) = (a, b) → jF M M2 → zW mX5_cheapestCrew (d + 4) 0 0 [] (zJ sz S (fun r M' => r = (if t = 0 then (zcF Lw k x.toNat y (zmask k).toNat).1 else (zcF Lw k x.toNat y (zmask k).toNat).2) ∧ jF M M')) 56 [some (zn 49), some (zn 1), some (zi x), some (zi y), some (zi t), some (zi ((zsz Lw k x.toNat y (zcrew k).toNat : Nat) : Int)), some (zi a), some (zl b), none, some (zi s), none, none, none] [] sz S M2 := by
    intro q s a b M2 hq h1 h2 hz hF2
    have hs2 : SR M2 1 k := (SR_frame hs (fun i a b => hF2.1 i (by omega) (by omega)))
    have e4 := hs2.1.2.1
    induction q generalizing s a b with
    | zero => omega
    | succ q ih =>
      have ih := fun (s : Nat) (a b : Int) (p1 : 256 < q + s) (p2 : 1 ≤ s) (p3 : (s : Int) ≤ zmask k + 1) (p4 : zcF Lw k x.toNat y (s - 1) = (a, b)) => ih s a b p1 p2 p3 p4
      have hin := zcF_in (Lw := Lw) (g := x.toNat) (c := y) hi (s - 1)
      rw [hz] at hin
      have hin : a = -1 ∧ b = -1 ∨ (1 ≤ a ∧ a ≤ ((s - 1 : Nat) : Int) ∧ 0 ≤ b ∧ b ≤ 8000000000000) := hin
      have hs1 : s = s - 1 + 1 := by omega
      refine x_iload 58 rfl dX5_cheapestCrew_56 rfl ?_
      refine x_aload_n 59 rfl dX5_cheapestCrew_58 1 rfl rfl ?_
      refine x_geti 62 rfl fX5_95 dX5_cheapestCrew_59 (lyl1 hL) (lys1 hL) (by decide) ?_
      rw [e4]
      refine x_icmp_gt 65 148 rfl dX5_cheapestCrew_62 (by decide) (fun c62 => ?_) (fun c62 => ?_)
      · refine x_iload 150 rfl dX5_cheapestCrew_148 rfl ?_
        refine x_if_eq 153 158 rfl dX5_cheapestCrew_150 (by decide) (fun c150 => ?_) (fun c150 => ?_)
        · refine x_iload 160 rfl dX5_cheapestCrew_158 rfl ?_
          refine x_i2l 161 rfl dX5_cheapestCrew_160 ?_
          refine x_retj dX5_cheapestCrew_161 rfl ?_
          refine ⟨?_, hF2⟩
          rw [show (zmask k).toNat = s - 1 by omega, hz]
          first | (rw [if_neg (by omega)]; done) | (rw [if_pos (by omega)]; done)
        · refine x_lload 155 rfl dX5_cheapestCrew_153 rfl ?_
          refine x_goto 161 dX5_cheapestCrew_155 (by decide) ?_
          refine x_retj dX5_cheapestCrew_161 rfl ?_
          refine ⟨?_, hF2⟩
          rw [show (zmask k).toNat = s - 1 by omega, hz]
          first | (rw [if_neg (by omega)]; done) | (rw [if_pos (by omega)]; done)
      · have hs8 : s < 256 := by omega
        have hgn : 0 ≤ zgone (zbf s) ∧ zgone (zbf s) ≤ 8 := z01_sum (zbf01 (s := s))
        have hpp := zpop_gn (zbf01 (s := s))
        rw [zbf_mk s hs8] at hpp
        have hz2 := zlays_b (g := zbf s) hi
        refine x_iload 67 rfl dX5_cheapestCrew_65 rfl ?_
        refine x_aload_n 68 rfl dX5_cheapestCrew_67 1 rfl rfl ?_
        refine x_geti 71 rfl fX5_95 dX5_cheapestCrew_68 (lyl1 hL) (lys1 hL) (by decide) ?_
        rw [e4]
        refine x_iconst 72 rfl dX5_cheapestCrew_71 (by decide) ?_
        refine x_ixor 73 rfl dX5_cheapestCrew_72 ?_
        refine x_iand 74 rfl dX5_cheapestCrew_73 ?_
        refine x_if_ne 77 95 rfl dX5_cheapestCrew_74 (by decide) (fun c74 => ?_) (fun c74 => ?_)
        · refine x_iconst 96 rfl dX5_cheapestCrew_95 (by decide) ?_
          refine y_istore 98 rfl dX5_cheapestCrew_96 rfl (ls' := [_, _, _, _, _, _, _, _, _, _, _, _, _]) rfl (by decide) ?_
          refine x_iload 100 rfl dX5_cheapestCrew_98 rfl ?_
          refine x_if_eq 103 112 rfl dX5_cheapestCrew_100 (by decide) (fun c100 => ?_) (fun c100 => ?_)
          · refine x_lconst (x := 0) 113 rfl dX5_cheapestCrew_112 rfl ?_
            refine y_lstore 115 rfl dX5_cheapestCrew_113 rfl (ls' := [_, _, _, _, _, _, _, _, _, _, _, _, _]) rfl (by decide) ?_
            refine x_iload 117 rfl dX5_cheapestCrew_115 rfl ?_
            refine x_if_eq 120 142 rfl dX5_cheapestCrew_117 (by decide) (fun c117 => ?_) (fun c117 => ?_)
            · refine w_iinc 145 rfl dX5_cheapestCrew_142 rfl (by decide) (by omega) rfl (ls' := [_, _, _, _, _, _, _, _, _, _, _, _, _]) rfl (by decide) ?_
              refine x_goto 56 dX5_cheapestCrew_145 (by decide) ?_
              refine z_wk (ls' := [some (zn 49), some (zn 1), some (zi x), some (zi y), some (zi t), some (zi ((zsz Lw k x.toNat y (zcrew k).toNat : Nat) : Int)), some (zi _), some (zl _), none, some (zi ((s + 1 : Nat) : Int)), none, none, none]) ⟨rfl, rfl, rfl, rfl, rfl, rfl, rfl, rfl, rfl, trivial⟩ (ih (s + 1) _ _ (by omega) (by omega) (by omega) (by rw [show s + 1 - 1 = s - 1 + 1 by omega]; exact zcF_n hz (fun h8 => by rw [← hs1] at h8; have h7 := h8.1; unfold zwl at h7; rw [if_neg (fun h6 => c74 h6.1)] at h7; omega)))
            · exfalso; omega
          · exfalso; omega
        · have hsb := zsub hi hs8 c74
          have hpo := zbf_pos h1 hs8
          have hbt := zsz_bit (Lw := Lw) (k := k) (g := x.toNat) (c := y) (zcrew k).toNat (zgone (zbf s)).toNat (by omega) (by omega)
          rw [show (((zgone (zbf s)).toNat : Nat) : Int) = zgone (zbf s) by omega] at hbt
          have hb9 := zbit_9 (zgone (zbf s)).toNat (by omega) _ hzl9
          rw [show (((zgone (zbf s)).toNat : Nat) : Int) = zgone (zbf s) by omega] at hb9
          refine x_iload 79 rfl dX5_cheapestCrew_77 rfl ?_
          refine x_iload 81 rfl dX5_cheapestCrew_79 rfl ?_
          refine x_cSi 84 rfl lX5_104 dX5_cheapestCrew_81 (c_bitCount (by omega)) rfl rfl (Nat.le_of_ble_eq_true rfl) (fun r5 M5 hr5 => ?_)
          obtain ⟨hr6, hM5⟩ := hr5
          rw [hM5]
          rw [hpp] at hr6
          subst hr6
          refine x_ishr 85 rfl dX5_cheapestCrew_84 ?_
          refine x_iconst 86 rfl dX5_cheapestCrew_85 (by decide) ?_
          refine x_iand 87 rfl dX5_cheapestCrew_86 ?_
          refine x_iconst 88 rfl dX5_cheapestCrew_87 (by decide) ?_
          refine x_icmp_ne 91 95 rfl dX5_cheapestCrew_88 (by decide) (fun c88 => ?_) (fun c88 => ?_)
          · refine x_iconst 96 rfl dX5_cheapestCrew_95 (by decide) ?_
            refine y_istore 98 rfl dX5_cheapestCrew_96 rfl (ls' := [_, _, _, _, _, _, _, _, _, _, _, _, _]) rfl (by decide) ?_
            refine x_iload 100 rfl dX5_cheapestCrew_98 rfl ?_
            refine x_if_eq 103 112 rfl dX5_cheapestCrew_100 (by decide) (fun c100 => ?_) (fun c100 => ?_)
            · refine x_lconst (x := 0) 113 rfl dX5_cheapestCrew_112 rfl ?_
              refine y_lstore 115 rfl dX5_cheapestCrew_113 rfl (ls' := [_, _, _, _, _, _, _, _, _, _, _, _, _]) rfl (by decide) ?_
              refine x_iload 117 rfl dX5_cheapestCrew_115 rfl ?_
              refine x_if_eq 120 142 rfl dX5_cheapestCrew_117 (by decide) (fun c117 => ?_) (fun c117 => ?_)
              · refine w_iinc 145 rfl dX5_cheapestCrew_142 rfl (by decide) (by omega) rfl (ls' := [_, _, _, _, _, _, _, _, _, _, _, _, _]) rfl (by decide) ?_
                refine x_goto 56 dX5_cheapestCrew_145 (by decide) ?_
                refine z_wk (ls' := [some (zn 49), some (zn 1), some (zi x), some (zi y), some (zi t), some (zi ((zsz Lw k x.toNat y (zcrew k).toNat : Nat) : Int)), some (zi _), some (zl _), none, some (zi ((s + 1 : Nat) : Int)), none, none, none]) ⟨rfl, rfl, rfl, rfl, rfl, rfl, rfl, rfl, rfl, trivial⟩ (ih (s + 1) _ _ (by omega) (by omega) (by omega) (by rw [show s + 1 - 1 = s - 1 + 1 by omega]; exact zcF_n hz (fun h8 => by rw [← hs1] at h8; have h7 := h8.1; unfold zwl at h7; rw [if_neg (fun h6 => c88 (by rw [hb9]; have := hbt.2 h6.2; omega))] at h7; omega)))
              · exfalso; omega
            · exfalso; omega
          · have hwl : zwl Lw k x.toNat y s = 1 := by unfold zwl; exact if_pos ⟨c74, hbt.1 (by rw [hb9] at c88; omega)⟩
            refine x_iconst 92 rfl dX5_cheapestCrew_91 (by decide) ?_
            refine x_goto 96 dX5_cheapestCrew_92 (by decide) ?_
            refine y_istore 98 rfl dX5_cheapestCrew_96 rfl (ls' := [_, _, _, _, _, _, _, _, _, _, _, _, _]) rfl (by decide) ?_
            refine x_iload 100 rfl dX5_cheapestCrew_98 rfl ?_
            refine x_if_eq 103 112 rfl dX5_cheapestCrew_100 (by decide) (fun c100 => ?_) (fun c100 => ?_)
            · exfalso; omega
            · refine x_aload_n 104 rfl dX5_cheapestCrew_103 1 rfl rfl ?_
              refine x_iload 106 rfl dX5_cheapestCrew_104 rfl ?_
              refine x_cSj 109 rfl lX5_115 dX5_cheapestCrew_106 (c_X5_partsOfSet hL hs2 hi hs8) rfl rfl (Nat.le_of_ble_eq_true rfl) (fun r7 M6 hr7 => ?_)
              obtain ⟨hr8, hM6⟩ := hr7
              rw [hM6]
              subst hr8
              refine x_goto 113 dX5_cheapestCrew_109 (by decide) ?_
              refine y_lstore 115 rfl dX5_cheapestCrew_113 rfl (ls' := [_, _, _, _, _, _, _, _, _, _, _, _, _]) rfl (by decide) ?_
              refine x_iload 117 rfl dX5_cheapestCrew_115 rfl ?_
              refine x_if_eq 120 142 rfl dX5_cheapestCrew_117 (by decide) (fun c117 => ?_) (fun c117 => ?_)
              · exfalso; omega
              · refine x_iload 122 rfl dX5_cheapestCrew_120 rfl ?_
                refine x_iconst 123 rfl dX5_cheapestCrew_122 (by decide) ?_
                refine x_icmp_eq 126 134 rfl dX5_cheapestCrew_123 (by decide) (fun c123 => ?_) (fun c123 => ?_)
                · refine x_iload 136 rfl dX5_cheapestCrew_134 rfl ?_
                  refine y_istore 138 rfl dX5_cheapestCrew_136 rfl (ls' := [_, _, _, _, _, _, _, _, _, _, _, _, _]) rfl (by decide) ?_
                  refine x_lload 140 rfl dX5_cheapestCrew_138 rfl ?_
                  refine y_lstore 142 rfl dX5_cheapestCrew_140 rfl (ls' := [_, _, _, _, _, _, _, _, _, _, _, _, _]) rfl (by decide) ?_
                  refine w_iinc 145 rfl dX5_cheapestCrew_142 rfl (by decide) (by omega) rfl (ls' := [_, _, _, _, _, _, _, _, _, _, _, _, _]) rfl (by decide) ?_
                  refine x_goto 56 dX5_cheapestCrew_145 (by decide) ?_
                  refine z_wk (ls' := [some (zn 49), some (zn 1), some (zi x), some (zi y), some (zi t), some (zi ((zsz Lw k x.toNat y (zcrew k).toNat : Nat) : Int)), some (zi _), some (zl _), none, some (zi ((s + 1 : Nat) : Int)), none, none, none]) ⟨rfl, rfl, rfl, rfl, rfl, rfl, rfl, rfl, rfl, trivial⟩ (ih (s + 1) _ _ (by omega) (by omega) (by omega) (by rw [show s + 1 - 1 = s - 1 + 1 by omega, zcF_y hz (by rw [← hs1]; exact hwl) (Or.inl c123), ← hs1]))
                · refine x_lload 128 rfl dX5_cheapestCrew_126 rfl ?_
                  refine x_lload 130 rfl dX5_cheapestCrew_128 rfl ?_
                  refine x_lcmp 131 rfl dX5_cheapestCrew_130 ?_
                  refine x_if_ge 134 142 rfl dX5_cheapestCrew_131 (by decide) (fun c131 => ?_) (fun c131 => ?_)
                  · have c131 := zcmp_ge.1 c131
                    refine w_iinc 145 rfl dX5_cheapestCrew_142 rfl (by decide) (by omega) rfl (ls' := [_, _, _, _, _, _, _, _, _, _, _, _, _]) rfl (by decide) ?_
                    refine x_goto 56 dX5_cheapestCrew_145 (by decide) ?_
                    refine z_wk (ls' := [some (zn 49), some (zn 1), some (zi x), some (zi y), some (zi t), some (zi ((zsz Lw k x.toNat y (zcrew k).toNat : Nat) : Int)), some (zi _), some (zl _), none, some (zi ((s + 1 : Nat) : Int)), none, none, none]) ⟨rfl, rfl, rfl, rfl, rfl, rfl, rfl, rfl, rfl, trivial⟩ (ih (s + 1) _ _ (by omega) (by omega) (by omega) (by rw [show s + 1 - 1 = s - 1 + 1 by omega]; exact zcF_n hz (fun h8 => by rw [← hs1] at h8; rcases h8.2 with h | h; exact c123 h; omega)))
                  · have c131 : zlays k (zbf s) < b := Int.not_le.1 (fun h => c131 (zcmp_ge.2 h))
                    refine x_iload 136 rfl dX5_cheapestCrew_134 rfl ?_
                    refine y_istore 138 rfl dX5_cheapestCrew_136 rfl (ls' := [_, _, _, _, _, _, _, _, _, _, _, _, _]) rfl (by decide) ?_
                    refine x_lload 140 rfl dX5_cheapestCrew_138 rfl ?_
                    refine y_lstore 142 rfl dX5_cheapestCrew_140 rfl (ls' := [_, _, _, _, _, _, _, _, _, _, _, _, _]) rfl (by decide) ?_
                    refine w_iinc 145 rfl dX5_cheapestCrew_142 rfl (by decide) (by omega) rfl (ls' := [_, _, _, _, _, _, _, _, _, _, _, _, _]) rfl (by decide) ?_
                    refine x_goto 56 dX5_cheapestCrew_145 (by decide) ?_
                    refine z_wk (ls' := [some (zn 49), some (zn 1), some (zi x), some (zi y), some (zi t), some (zi ((zsz Lw k x.toNat y (zcrew k).toNat : Nat) : Int)), some (zi _), some (zl _), none, some (zi ((s + 1 : Nat) : Int)), none, none, none]) ⟨rfl, rfl, rfl, rfl, rfl, rfl, rfl, rfl, rfl, trivial⟩ (ih (s + 1) _ _ (by omega) (by omega) (by omega) (by rw [show s + 1 - 1 = s - 1 + 1 by omega, zcF_y hz (by rw [← hs1]; exact hwl) (Or.inr (by rw [← hs1]; exact c131)), ← hs1]))
  have loop1 : ∀ (q n : Nat) (M2 : zMem), 10 < q + n → 1 ≤ n → (n : Int) ≤ zcrew k + 1 → jF M M2 → zW mX5_cheapestCrew (d + 4) 0 0 [] (zJ sz S (fun r M' => r = (if t = 0 then (zcF Lw k x.toNat y (zmask k).toNat).1 else (zcF Lw k x.toNat y (zmask k).toNat).2) ∧ jF M M')) 6 [some (zn 49), some (zn 1), some (zi x), some (zi y), some (zi t), some (zi ((zsz Lw k x.toNat y (n - 1) : Nat) : Int)), some (zi n), none, none, none, none, none, none] [] sz S M2 := by
    intro q
    induction q with
    | zero => intro n M2 hq h1 h2; omega
    | succ q ih =>
      intro n M2 hq h1 h2 hF2
      have hs2 : SR M2 1 k := (SR_frame hs (fun i a b => hF2.1 i (by omega) (by omega)))
      have hn1 : n = n - 1 + 1 := by omega
      have hzn := zsz_lt (Lw := Lw) (k := k) (g := x.toNat) (c := y) (n - 1)
      rw [← hn1] at hzn
      have ezn : zsz Lw k x.toNat y n = zsz Lw k x.toNat y (n - 1) + (if y ≤ zcasks Lw k x.toNat (n : Int) then 2 ^ n else 0) := by rw [show zsz Lw k x.toNat y n = zsz Lw k x.toNat y (n - 1 + 1) by rw [← hn1]]; show _ + (if y ≤ zcasks Lw k x.toNat (((n - 1 : Nat) : Int) + 1) then 2 ^ (n - 1 + 1) else 0) = _; rw [show ((n - 1 : Nat) : Int) + 1 = (n : Int) by omega, ← hn1]
      refine x_iload 8 rfl dX5_cheapestCrew_6 rfl ?_
      refine x_aload_n 9 rfl dX5_cheapestCrew_8 1 rfl rfl ?_
      refine x_cVi 12 rfl lX5_44 dX5_cheapestCrew_9 (lyl1 hL) (lys1 hL) (c_X7_crewSize (ly_sh1 hL) hs2 hi) rfl rfl (Nat.le_of_ble_eq_true rfl) (fun r1 M3 hr1 => ?_)
      obtain ⟨hr2, hM3⟩ := hr1
      rw [hM3]
      subst hr2
      refine x_icmp_gt 15 45 rfl dX5_cheapestCrew_12 (by decide) (fun c12 => ?_) (fun c12 => ?_)
      · refine x_iconst 46 rfl dX5_cheapestCrew_45 (by decide) ?_
        refine y_istore 48 rfl dX5_cheapestCrew_46 rfl (ls' := [_, _, _, _, _, _, _, _, _, _, _, _, _]) rfl (by decide) ?_
        refine x_ldc2 (x := -1) 51 rfl klX5_113 (by decide) dX5_cheapestCrew_48 ?_
        refine y_lstore 53 rfl dX5_cheapestCrew_51 rfl (ls' := [_, _, _, _, _, _, _, _, _, _, _, _, _]) rfl (by decide) ?_
        refine x_iconst 54 rfl dX5_cheapestCrew_53 (by decide) ?_
        refine y_istore 56 rfl dX5_cheapestCrew_54 rfl (ls' := [_, _, _, _, _, _, _, _, _, _, _, _, _]) rfl (by decide) ?_
        refine z_wk (ls' := [some (zn 49), some (zn 1), some (zi x), some (zi y), some (zi t), some (zi ((zsz Lw k x.toNat y (zcrew k).toNat : Nat) : Int)), some (zi (-1)), some (zl (-1)), none, some (zi ((1 : Nat) : Int)), none, none, none]) ⟨rfl, rfl, rfl, rfl, rfl, z_e (by rw [show n - 1 = (zcrew k).toNat by omega]), rfl, rfl, rfl, trivial⟩ (loop2 256 1 (-1) (-1) M2 (by omega) (by omega) (by omega) rfl hF2)
      · refine x_aload_n 16 rfl dX5_cheapestCrew_15 0 rfl rfl ?_
        refine x_getr 19 rfl fX5_25 dX5_cheapestCrew_16 (lyl49 hL) (lys49 hL) (by decide) (39) rfl ?_
        refine x_aload_n 20 rfl dX5_cheapestCrew_19 1 rfl rfl ?_
        refine x_iload_n 21 rfl dX5_cheapestCrew_20 2 rfl rfl ?_
        refine x_iload 23 rfl dX5_cheapestCrew_21 rfl ?_
        refine x_cVi 26 rfl lX5_48 dX5_cheapestCrew_23 (lyl39 hL) (lys39 hL) (c_X1_casksOf (Lw := Lw) hL (ly_sh1 hL) (by decide) hs2 hi (LwC_frame hLw rfl (hF2.1 11 (by decide) (by decide)) (fun i h => hF2.1 i (by omega) (by omega))) hF2.2 (by omega) (by omega)) rfl rfl (Nat.le_of_ble_eq_true rfl) (fun r3 M4 hr3 => ?_)
        obtain ⟨hr4, hF4⟩ := hr3
        subst hr4
        have hF5 := jF_trans hF2 hF4
        refine x_iload_n 27 rfl dX5_cheapestCrew_26 3 rfl rfl ?_
        refine x_icmp_lt 30 39 rfl dX5_cheapestCrew_27 (by decide) (fun c27 => ?_) (fun c27 => ?_)
        · refine w_iinc 42 rfl dX5_cheapestCrew_39 rfl (by decide) (by omega) rfl (ls' := [_, _, _, _, _, _, _, _, _, _, _, _, _]) rfl (by decide) ?_
          refine x_goto 6 dX5_cheapestCrew_42 (by decide) ?_
          refine z_wk (ls' := [some (zn 49), some (zn 1), some (zi x), some (zi y), some (zi t), some (zi ((zsz Lw k x.toNat y (n + 1 - 1) : Nat) : Int)), some (zi ((n + 1 : Nat) : Int)), none, none, none, none, none, none]) ⟨rfl, rfl, rfl, rfl, rfl, z_e (by rw [Nat.add_sub_cancel, ezn, if_neg (by omega)]; omega), rfl, trivial⟩ (ih (n + 1) M4 (by omega) (by omega) (by omega) hF5)
        · refine x_iload 32 rfl dX5_cheapestCrew_30 rfl ?_
          refine x_iconst 33 rfl dX5_cheapestCrew_32 (by decide) ?_
          refine x_iload 35 rfl dX5_cheapestCrew_33 rfl ?_
          refine x_ishl 36 rfl dX5_cheapestCrew_35 ?_
          refine x_ior 37 rfl dX5_cheapestCrew_36 ?_
          refine y_istore 39 rfl dX5_cheapestCrew_37 rfl (ls' := [_, _, _, _, _, _, _, _, _, _, _, _, _]) rfl (by decide) ?_
          refine w_iinc 42 rfl dX5_cheapestCrew_39 rfl (by decide) (by omega) rfl (ls' := [_, _, _, _, _, _, _, _, _, _, _, _, _]) rfl (by decide) ?_
          refine x_goto 6 dX5_cheapestCrew_42 (by decide) ?_
          refine z_wk (ls' := [some (zn 49), some (zn 1), some (zi x), some (zi y), some (zi t), some (zi ((zsz Lw k x.toNat y (n + 1 - 1) : Nat) : Int)), some (zi ((n + 1 : Nat) : Int)), none, none, none, none, none, none]) ⟨rfl, rfl, rfl, rfl, rfl, z_e (by rw [zor_new n (by omega) _ hzn, Nat.add_sub_cancel, ezn, if_pos (by omega)]; push_cast; rfl), rfl, trivial⟩ (ih (n + 1) M4 (by omega) (by omega) (by omega) hF5)
  refine zX_of pl_RX5 [some (zn 49), some (zn 1), some (zi x), some (zi y), some (zi t), none, none, none, none, none, none, none, none] 8 rfl rfl ?_
  refine x_iconst 1 rfl dX5_cheapestCrew_0 (by decide) ?_
  refine y_istore 3 rfl dX5_cheapestCrew_1 rfl (ls' := [_, _, _, _, _, _, _, _, _, _, _, _, _]) rfl (by decide) ?_
  refine x_iconst 4 rfl dX5_cheapestCrew_3 (by decide) ?_
  refine y_istore 6 rfl dX5_cheapestCrew_4 rfl (ls' := [_, _, _, _, _, _, _, _, _, _, _, _, _]) rfl (by decide) ?_
  exact loop1 10 1 M (by omega) (by omega) (by omega) (jF_refl hv)

set_option maxRecDepth 100000 in
set_option maxHeartbeats 4000000 in
theorem c_X10_crew {d sz : Nat} {S : zSh} {M : zMem} (hL : LY S sz) {k : Nat → Int} (hs : SR M 1 k) (hi : KI k) {Lw : List gC} (hLw : LwC S sz M 1 k Lw) (hv : v42 M) {x y z : Int} : zX (d + 5) 0 0 mX10_crew [zn 0, zi x, zi y, zi z] sz S M (zJ sz S (fun r M' => r = zcrewA Lw k x y z ∧ jF M M')) := by
  have i1 := hi.1
  refine zX_of pl_RX10 [some (zn 0), some (zi x), some (zi y), some (zi z)] 0 rfl rfl ?_
  refine x_aload_n 1 rfl dX10_crew_0 0 rfl rfl ?_
  refine x_getr 4 rfl fX10_10 dX10_crew_1 (lyl0 hL) (lys0 hL) (by decide) (1) rfl ?_
  refine x_iload_n 5 rfl dX10_crew_4 1 rfl rfl ?_
  refine x_cVi 8 rfl lX10_150 dX10_crew_5 (lyl1 hL) (lys1 hL) (c_X7_hasGround (ly_sh1 hL) hs hi) rfl rfl (Nat.le_of_ble_eq_true rfl) (fun a1 M9 ha1 => ?_)
  obtain ⟨ha2, hM9⟩ := ha1
  rw [hM9]
  refine x_if_eq 11 31 rfl dX10_crew_8 (by decide) (fun c8 => ?_) (fun c8 => ?_)
  · have hx : ¬ (0 ≤ x ∧ x < k 76) := fun h9 => by rw [if_pos h9] at ha2; omega
    refine x_ldc2 (x := -1) 34 rfl klX10_246 (by decide) dX10_crew_31 ?_
    refine x_retj dX10_crew_34 rfl ?_
    exact ⟨by unfold zcrewA; rw [if_neg (fun h9 => hx h9.1)], jF_refl hv⟩
  · have hx : 0 ≤ x ∧ x < k 76 := Decidable.byContradiction (fun h9 => by rw [if_neg h9] at ha2; omega)
    refine x_iload_n 12 rfl dX10_crew_11 2 rfl rfl ?_
    refine x_iconst 13 rfl dX10_crew_12 (by decide) ?_
    refine x_icmp_lt 16 31 rfl dX10_crew_13 (by decide) (fun c13 => ?_) (fun c13 => ?_)
    · refine x_ldc2 (x := -1) 34 rfl klX10_246 (by decide) dX10_crew_31 ?_
      refine x_retj dX10_crew_34 rfl ?_
      exact ⟨by unfold zcrewA; rw [if_neg (fun h9 => by omega)], jF_refl hv⟩
    · refine x_iload_n 17 rfl dX10_crew_16 2 rfl rfl ?_
      refine x_bipush 19 rfl dX10_crew_17 (by decide) ?_
      refine x_icmp_gt 22 31 rfl dX10_crew_19 (by decide) (fun c19 => ?_) (fun c19 => ?_)
      · refine x_ldc2 (x := -1) 34 rfl klX10_246 (by decide) dX10_crew_31 ?_
        refine x_retj dX10_crew_34 rfl ?_
        exact ⟨by unfold zcrewA; rw [if_neg (fun h9 => by omega)], jF_refl hv⟩
      · refine x_iload_n 23 rfl dX10_crew_22 3 rfl rfl ?_
        refine x_if_lt 26 31 rfl dX10_crew_23 (by decide) (fun c23 => ?_) (fun c23 => ?_)
        · refine x_ldc2 (x := -1) 34 rfl klX10_246 (by decide) dX10_crew_31 ?_
          refine x_retj dX10_crew_34 rfl ?_
          exact ⟨by unfold zcrewA; rw [if_neg (fun h9 => by omega)], jF_refl hv⟩
        · refine x_iload_n 27 rfl dX10_crew_26 3 rfl rfl ?_
          refine x_iconst 28 rfl dX10_crew_27 (by decide) ?_
          refine x_icmp_le 31 35 rfl dX10_crew_28 (by decide) (fun c28 => ?_) (fun c28 => ?_)
          · refine x_aload_n 36 rfl dX10_crew_35 0 rfl rfl ?_
            refine x_getr 39 rfl fX10_75 dX10_crew_36 (lyl0 hL) (lys0 hL) (by decide) (49) rfl ?_
            refine x_aload_n 40 rfl dX10_crew_39 0 rfl rfl ?_
            refine x_getr 43 rfl fX10_10 dX10_crew_40 (lyl0 hL) (lys0 hL) (by decide) (1) rfl ?_
            refine x_iload_n 44 rfl dX10_crew_43 1 rfl rfl ?_
            refine x_iload_n 45 rfl dX10_crew_44 2 rfl rfl ?_
            refine x_iload_n 46 rfl dX10_crew_45 3 rfl rfl ?_
            refine x_iconst 47 rfl dX10_crew_46 (by decide) ?_
            refine x_icmp_ne 50 54 rfl dX10_crew_47 (by decide) (fun c47 => ?_) (fun c47 => ?_)
            · refine x_iconst 55 rfl dX10_crew_54 (by decide) ?_
              refine x_cVj 58 rfl lX10_263 dX10_crew_55 (lyl49 hL) (lys49 hL) (c_X5_cheapestCrew (Lw := Lw) hL hs hi hLw hv hx (by omega)) rfl rfl (Nat.le_of_ble_eq_true rfl) (fun r1 M1 hr1 => ?_)
              obtain ⟨hr2, hF1⟩ := hr1
              refine x_retj dX10_crew_58 rfl ?_
              refine ⟨?_, hF1⟩
              unfold zcrewA
              rw [if_pos ⟨hx, by omega, by omega⟩]
              first | (rw [if_pos rfl] at hr2; rw [hr2, if_pos (by omega)]; done) | (rw [if_neg (by decide)] at hr2; rw [hr2, if_neg (by omega)]; done)
            · refine x_iconst 51 rfl dX10_crew_50 (by decide) ?_
              refine x_goto 55 dX10_crew_51 (by decide) ?_
              refine x_cVj 58 rfl lX10_263 dX10_crew_55 (lyl49 hL) (lys49 hL) (c_X5_cheapestCrew (Lw := Lw) hL hs hi hLw hv hx (by omega)) rfl rfl (Nat.le_of_ble_eq_true rfl) (fun r1 M1 hr1 => ?_)
              obtain ⟨hr2, hF1⟩ := hr1
              refine x_retj dX10_crew_58 rfl ?_
              refine ⟨?_, hF1⟩
              unfold zcrewA
              rw [if_pos ⟨hx, by omega, by omega⟩]
              first | (rw [if_pos rfl] at hr2; rw [hr2, if_pos (by omega)]; done) | (rw [if_neg (by decide)] at hr2; rw [hr2, if_neg (by omega)]; done)
          · refine x_ldc2 (x := -1) 34 rfl klX10_246 (by decide) dX10_crew_31 ?_
            refine x_retj dX10_crew_34 rfl ?_
            exact ⟨by unfold zcrewA; rw [if_neg (fun h9 => by omega)], jF_refl hv⟩
