/-! orders -/
/-- what the words of orders stand for -/
def oE (k : Nat → Int) (dn gn : Int) : Int → Int → Int := fun c j => if c = 14 then (if 0 ≤ j ∧ j < k 75 then k (3 + j.toNat) else -1) else if c = 15 then (if 0 ≤ j ∧ j < k 76 then k (19 + j.toNat) else -1) else if c = 16 then k 0 else if c = 17 then k 2 else if c = 18 then dn else if c = 19 then gn else k 1
theorem oE_mE {M : zMem} : mE M true = oE (M 57) (M 55 27) (M 55 28) := by
  funext c j
  unfold mE oE
  rw [if_pos rfl]
def oV (V k : Nat → Int) (dn gn : Int) : Prop := V 10 = dn ∧ V 11 = gn ∧ V 6 = k 0 ∧ V 8 = k 2 ∧ V 12 = k 1 ∧ (∀ h : Nat, h < 8 → V (13 + h) = if (h : Int) < k 75 then k (3 + h) else -1) ∧ (∀ g : Nat, g < 4 → V (21 + g) = if (g : Int) < k 76 then k (19 + g) else -1)
theorem oV_EV {V k : Nat → Int} {dn gn : Int} (h : oV V k dn gn) : EV true V (oE k dn gn) := by
  obtain ⟨h1, h2, h3, h4, h5, h6, h7⟩ := h
  refine ⟨fun x h10 h11 => ?_, fun _ => ⟨fun j a b => ?_, fun j a b => ?_⟩⟩
  · rw [if_pos rfl] at h10 h11
    have : x = 16 ∨ x = 17 ∨ x = 18 ∨ x = 19 ∨ x = 20 := by omega
    rcases this with rfl | rfl | rfl | rfl | rfl
    · exact h3
    · exact h4
    · exact h1
    · exact h2
    · exact h5
  · have e := h6 j.toNat (by omega)
    rw [show (13 + j).toNat = 13 + j.toNat by omega, e]
    show _ = (if 0 ≤ j ∧ j < k 75 then k (3 + j.toNat) else -1)
    by_cases hj : j < k 75
    · rw [if_pos (by omega), if_pos ⟨a, hj⟩]
    · rw [if_neg (by omega), if_neg (fun q => hj q.2)]
  · have e := h7 j.toNat (by omega)
    rw [show (21 + j).toNat = 21 + j.toNat by omega, e]
    show _ = (if 0 ≤ j ∧ j < k 76 then k (19 + j.toNat) else -1)
    by_cases hj : j < k 76
    · rw [if_pos (by omega), if_pos ⟨a, hj⟩]
    · rw [if_neg (by omega), if_neg (fun q => hj q.2)]
theorem oE_nb {k : Nat → Int} (hi : KI k) {dn gn : Int} (hd : 0 ≤ dn) (hg : -1 ≤ gn) : eNB (oE k dn gn) := by
  have i1 := hi.1
  intro c j
  unfold oE zBK
  split
  · split
    · have := hi.2.1 j.toNat (by omega); omega
    · decide
  · split
    · split
      · have := hi.2.2.1 j.toNat (by omega); omega
      · decide
    · split
      · omega
      · split
        · omega
        · split
          · omega
          · split <;> omega
/-- what an act answers, as a function -/
def zactF (Lw : List gC) (k : Nat → Int) (K x y : Int) : Int × (Nat → Int) :=
  if K = 16 then (if ¬ (0 ≤ y ∧ y ≤ 3) then (-1, k) else if ¬ (0 ≤ x ∧ x < k 76) then (-2, k) else if ¬ (0 < zcrew k ∧ k 2 < 71 ∧ y ≤ k (19 + x.toNat)) then (-3, k) else (zgone (zoffI Lw (kH1 Lw k x.toNat y)), kH2 Lw (kH1 Lw k x.toNat y)))
  else if K = 17 then (if ¬ (1 ≤ x ∧ x ≤ 999) then (-1, k) else if k 0 < x then (-3, k) else (kSell k x 1, kSell k x))
  else if K = 18 then (if ¬ (1 ≤ y ∧ y ≤ 9999) then (-1, k) else if ¬ (0 ≤ x ∧ x < k 75) then (-2, k) else if k (11 + x.toNat) = 0 ∨ k 1 < y then (-3, k) else (kAdv k x.toNat y (3 + x.toNat), kAdv k x.toNat y))
  else (if ¬ (0 ≤ x ∧ x < k 75) then (-2, k) else if k (11 + x.toNat) = 0 then (-3, k) else (zcrew (kLeave k x.toNat), kLeave k x.toNat))
theorem actR_F {Lw : List gC} {k k' : Nat → Int} {K x y r : Int} (hK : 16 ≤ K ∧ K ≤ 19) (h : actR Lw k K x y r k') : zactF Lw k K x y = (r, k') := by
  obtain ⟨hA, hB, hC, hD⟩ := h
  have : K = 16 ∨ K = 17 ∨ K = 18 ∨ K = 19 := by omega
  unfold zactF
  rcases this with e | e | e | e
  · rw [if_pos e]
    rcases hA e with ⟨h1, h2, h3⟩ | ⟨h1, h0, h2, h3⟩ | ⟨h1, h0, h2, h3, h4⟩ | ⟨h1, h0, h2, h3, h4⟩
    · rw [if_pos h1, h2, h3]
    · rw [if_neg (fun q => q h1), if_pos h0, h2, h3]
    · rw [if_neg (fun q => q h1), if_neg (fun q => q h0), if_pos h2, h3, h4]
    · rw [if_neg (fun q => q h1), if_neg (fun q => q h0), if_neg (fun q => q h2), h3, h4]
  · rw [if_neg (by omega), if_pos e]
    rcases hB e with ⟨h1, h2, h3⟩ | ⟨h1, h2, h3, h4⟩ | ⟨h1, h2, h3, h4⟩
    · rw [if_pos h1, h2, h3]
    · rw [if_neg (fun q => q h1), if_pos h2, h3, h4]
    · rw [if_neg (fun q => q h1), if_neg (by omega), h3, h4]
  · rw [if_neg (by omega), if_neg (by omega), if_pos e]
    rcases hC e with ⟨h1, h2, h3⟩ | ⟨h1, h0, h2, h3⟩ | ⟨h1, h0, h2, h3, h4⟩ | ⟨h1, h0, h2, h3, h4, h5⟩
    · rw [if_pos h1, h2, h3]
    · rw [if_neg (fun q => q h1), if_pos h0, h2, h3]
    · rw [if_neg (fun q => q h1), if_neg (fun q => q h0), if_pos h2, h3, h4]
    · rw [if_neg (fun q => q h1), if_neg (fun q => q h0), if_neg (by omega), h4, h5]
  · rw [if_neg (by omega), if_neg (by omega), if_neg (by omega)]
    rcases hD e with ⟨h1, h2, h3⟩ | ⟨h1, h2, h3, h4⟩ | ⟨h1, h2, h3, h4⟩
    · rw [if_pos h1, h2, h3]
    · rw [if_neg (fun q => q h1), if_pos h2, h3, h4]
    · rw [if_neg (fun q => q h1), if_neg (by omega), h3, h4]
/-- numbers, what is left, how many acts are left, done, gone -/
abbrev oS : Type := (Nat → Int) × (Nat → Nat → Int) × Nat × Int × Int
/-- a clause is run once -/
def zo1 (Lw : List gC) (x : gC) (s : oS) : Option oS :=
  if x.2.2.2 (oE s.1 s.2.2.2.1 s.2.2.2.2) = some 1 then
    (match x.2.1 (oE s.1 s.2.2.2.1 s.2.2.2.2), x.2.2.1 (oE s.1 s.2.2.2.1 s.2.2.2.2) with
      | some a, some b => if (zactF Lw s.1 x.1.1 a b).1 < 0 then none else some ((zactF Lw s.1 x.1.1 a b).2, lpush s.2.1 s.2.2.1 s.1 (x.1.1 - 16), min (s.2.2.1 + 1) 16, s.2.2.2.1 + 1, if x.1.1 = 16 then (zactF Lw s.1 x.1.1 a b).1 else s.2.2.2.2)
      | _, _ => none)
  else some s
def zoT (Lw : List gC) (x : gC) : Nat → oS → Option oS
  | 0, s => some s
  | n + 1, s => (zo1 Lw x s).bind (zoT Lw x n)
def zoL (Lw : List gC) : List gC → Nat → oS → Nat ⊕ oS
  | [], _, s => .inr s
  | x :: t, i, s => match zoT Lw x x.1.2.2.2.2.toNat s with
    | none => .inl i
    | some s' => zoL Lw t (i + 1) s'

set_option maxRecDepth 100000 in
set_option maxHeartbeats 4000000 in
theorem c_X0_look {d sz : Nat} {S : zSh} {M : zMem} (hL : LY S sz) {k : Nat → Int} (hs : SR M 1 k) (hi : KI k) {dn gn : Int} (h10 : M 48 10 = dn) (h11 : M 48 11 = gn) : zX (d + 1) 0 0 mX0_look [zn 45, zn 1] sz S M (zU sz S (fun M' => oV (M' 48) k dn gn ∧ (∀ i, i ≠ 48 → M' i = M i) ∧ (∀ j, (j < 6 ∨ j = 7 ∨ j = 9) → M' 48 j = M 48 j))) := by
  have i1 := hi.1
  have e70 := hs.2.1.1
  have e8 := hs.1.2.2.2.1
  have e9 := hs.1.2.2.2.2.1
  have lp2 : ∀ (q n : Nat) (M1 : zMem), 4 < q + n → n ≤ 4 → (M1 48 10 = dn ∧ M1 48 11 = gn ∧ M1 48 6 = k 0 ∧ M1 48 8 = k 2 ∧ M1 48 12 = k 1 ∧ (∀ h : Nat, h < 8 → M1 48 (13 + h) = if (h : Int) < k 75 then k (3 + h) else -1) ∧ (∀ g : Nat, g < n → M1 48 (21 + g) = if (g : Int) < k 76 then k (19 + g) else -1)) → (∀ i, i ≠ 48 → M1 i = M i) → (∀ j, (j < 6 ∨ j = 7 ∨ j = 9) → M1 48 j = M 48 j) → zW mX0_look (d + 1) 0 0 [] (zU sz S (fun M' => oV (M' 48) k dn gn ∧ (∀ i, i ≠ 48 → M' i = M i) ∧ (∀ j, (j < 6 ∨ j = 7 ∨ j = 9) → M' 48 j = M 48 j))) 78 [some (zn 45), some (zn 1), some (zi n)] [] sz S M1 := by
    intro q
    induction q with
    | zero => intro n M1 hq hn; omega
    | succ q ih =>
      intro n M1 hq hn h1 hF hG
      have hs1 : SR M1 1 k := SR_frame hs (fun i a b => hF i (by omega))
      have e5 := hs1.1.2.2.1
      obtain ⟨a1, a2, a3, a4, a5, a6, a7⟩ := h1
      refine x_iload_n 79 rfl dX0_look_78 2 rfl rfl ?_
      refine x_iconst 80 rfl dX0_look_79 (by decide) ?_
      refine x_icmp_ge 83 116 rfl dX0_look_80 (by decide) (fun c80 => ?_) (fun c80 => ?_)
      · refine x_retu dX0_look_116 rfl ?_
        refine ⟨⟨a1, a2, a3, a4, a5, a6, fun g hg => a7 g (by omega)⟩, hF, hG⟩
      · refine x_aload_n 84 rfl dX0_look_83 0 rfl rfl ?_
        refine x_getr 87 rfl fX0_18 dX0_look_84 (lyl45 hL) (lys45 hL) (by decide) (48) rfl ?_
        refine x_bipush 89 rfl dX0_look_87 (by decide) ?_
        refine x_iload_n 90 rfl dX0_look_89 2 rfl rfl ?_
        refine y_iadd 91 rfl dX0_look_90 (by omega) ?_
        refine x_iload_n 92 rfl dX0_look_91 2 rfl rfl ?_
        refine x_aload_n 93 rfl dX0_look_92 1 rfl rfl ?_
        refine x_geti 96 rfl fX0_78 dX0_look_93 (lyl1 hL) (lys1 hL) (by decide) ?_
        rw [e5]
        refine x_icmp_ge 99 108 rfl dX0_look_96 (by decide) (fun c96 => ?_) (fun c96 => ?_)
        · refine x_iconst 109 rfl dX0_look_108 (by decide) ?_
          refine x_iast 110 rfl dX0_look_109 (lyl48 hL) (lys48 hL) (by omega) (by omega) ?_
          rw [show ((21 : Int) + (n : Int)).toNat = 21 + n by omega]
          refine w_iinc 113 rfl dX0_look_110 rfl (by decide) (by omega) rfl (ls' := [_, _, _]) rfl (by decide) ?_
          refine x_goto 78 dX0_look_113 (by decide) ?_
          refine ih (n + 1) _ (by omega) (by omega) ⟨by rw [z_up_nk (by omega)]; exact a1, by rw [z_up_nk (by omega)]; exact a2, by rw [z_up_nk (by omega)]; exact a3, by rw [z_up_nk (by omega)]; exact a4, by rw [z_up_nk (by omega)]; exact a5, fun h hh => by rw [z_up_nk (by omega)]; exact a6 h hh, fun g hg => ?_⟩ (fun i a => by rw [z_up_ne a]; exact hF i a) (fun j hj => by rw [z_up_nk (by omega)]; exact hG j hj)
          by_cases e : g = n
          · rw [e, z_up_eq, if_neg (by omega)]
          · rw [z_up_nk (by omega)]; exact a7 g (by omega)
        · refine x_aload_n 100 rfl dX0_look_99 1 rfl rfl ?_
          refine x_getr 103 rfl fX0_81 dX0_look_100 (lyl1 hL) (lys1 hL) (by decide) (5) rfl ?_
          refine x_iload_n 104 rfl dX0_look_103 2 rfl rfl ?_
          refine x_iald 105 rfl dX0_look_104 (lyl5 hL) (lys5 hL) (by omega) (by omega) ?_
          rw [show ((n : Int)).toNat = n by omega, hs1.2.2.2.2.2.1 n (by omega)]
          refine x_goto 109 dX0_look_105 (by decide) ?_
          refine x_iast 110 rfl dX0_look_109 (lyl48 hL) (lys48 hL) (by omega) (by omega) ?_
          rw [show ((21 : Int) + (n : Int)).toNat = 21 + n by omega]
          refine w_iinc 113 rfl dX0_look_110 rfl (by decide) (by omega) rfl (ls' := [_, _, _]) rfl (by decide) ?_
          refine x_goto 78 dX0_look_113 (by decide) ?_
          refine ih (n + 1) _ (by omega) (by omega) ⟨by rw [z_up_nk (by omega)]; exact a1, by rw [z_up_nk (by omega)]; exact a2, by rw [z_up_nk (by omega)]; exact a3, by rw [z_up_nk (by omega)]; exact a4, by rw [z_up_nk (by omega)]; exact a5, fun h hh => by rw [z_up_nk (by omega)]; exact a6 h hh, fun g hg => ?_⟩ (fun i a => by rw [z_up_ne a]; exact hF i a) (fun j hj => by rw [z_up_nk (by omega)]; exact hG j hj)
          by_cases e : g = n
          · rw [e, z_up_eq, if_pos (by omega)]
          · rw [z_up_nk (by omega)]; exact a7 g (by omega)
  have lp1 : ∀ (q n : Nat) (M1 : zMem), 8 < q + n → n ≤ 8 → (M1 48 10 = dn ∧ M1 48 11 = gn ∧ M1 48 6 = k 0 ∧ M1 48 8 = k 2 ∧ M1 48 12 = k 1 ∧ (∀ h : Nat, h < n → M1 48 (13 + h) = if (h : Int) < k 75 then k (3 + h) else -1)) → (∀ i, i ≠ 48 → M1 i = M i) → (∀ j, (j < 6 ∨ j = 7 ∨ j = 9) → M1 48 j = M 48 j) → zW mX0_look (d + 1) 0 0 [] (zU sz S (fun M' => oV (M' 48) k dn gn ∧ (∀ i, i ≠ 48 → M' i = M i) ∧ (∀ j, (j < 6 ∨ j = 7 ∨ j = 9) → M' 48 j = M 48 j))) 37 [some (zn 45), some (zn 1), some (zi n)] [] sz S M1 := by
    intro q
    induction q with
    | zero => intro n M1 hq hn; omega
    | succ q ih =>
      intro n M1 hq hn h1 hF hG
      have hs1 : SR M1 1 k := SR_frame hs (fun i a b => hF i (by omega))
      have e0 := hs1.1.1
      obtain ⟨a1, a2, a3, a4, a5, a6⟩ := h1
      refine x_iload_n 38 rfl dX0_look_37 2 rfl rfl ?_
      refine x_bipush 40 rfl dX0_look_38 (by decide) ?_
      refine x_icmp_ge 43 76 rfl dX0_look_40 (by decide) (fun c40 => ?_) (fun c40 => ?_)
      · refine x_iconst 77 rfl dX0_look_76 (by decide) ?_
        refine y_istore_n 78 rfl dX0_look_77 rfl rfl (ls' := [_, _, _]) rfl (by decide) ?_
        exact lp2 5 0 M1 (by omega) (by omega) ⟨a1, a2, a3, a4, a5, fun h hh => a6 h (by omega), fun g hg => by omega⟩ hF hG
      · refine x_aload_n 44 rfl dX0_look_43 0 rfl rfl ?_
        refine x_getr 47 rfl fX0_18 dX0_look_44 (lyl45 hL) (lys45 hL) (by decide) (48) rfl ?_
        refine x_bipush 49 rfl dX0_look_47 (by decide) ?_
        refine x_iload_n 50 rfl dX0_look_49 2 rfl rfl ?_
        refine y_iadd 51 rfl dX0_look_50 (by omega) ?_
        refine x_iload_n 52 rfl dX0_look_51 2 rfl rfl ?_
        refine x_aload_n 53 rfl dX0_look_52 1 rfl rfl ?_
        refine x_geti 56 rfl fX0_72 dX0_look_53 (lyl1 hL) (lys1 hL) (by decide) ?_
        rw [e0]
        refine x_icmp_ge 59 68 rfl dX0_look_56 (by decide) (fun c56 => ?_) (fun c56 => ?_)
        · refine x_iconst 69 rfl dX0_look_68 (by decide) ?_
          refine x_iast 70 rfl dX0_look_69 (lyl48 hL) (lys48 hL) (by omega) (by omega) ?_
          rw [show ((13 : Int) + (n : Int)).toNat = 13 + n by omega]
          refine w_iinc 73 rfl dX0_look_70 rfl (by decide) (by omega) rfl (ls' := [_, _, _]) rfl (by decide) ?_
          refine x_goto 37 dX0_look_73 (by decide) ?_
          refine ih (n + 1) _ (by omega) (by omega) ⟨by rw [z_up_nk (by omega)]; exact a1, by rw [z_up_nk (by omega)]; exact a2, by rw [z_up_nk (by omega)]; exact a3, by rw [z_up_nk (by omega)]; exact a4, by rw [z_up_nk (by omega)]; exact a5, fun h hh => ?_⟩ (fun i a => by rw [z_up_ne a]; exact hF i a) (fun j hj => by rw [z_up_nk (by omega)]; exact hG j hj)
          by_cases e : h = n
          · rw [e, z_up_eq, if_neg (by omega)]
          · rw [z_up_nk (by omega)]; exact a6 h (by omega)
        · refine x_aload_n 60 rfl dX0_look_59 1 rfl rfl ?_
          refine x_getr 63 rfl fX0_75 dX0_look_60 (lyl1 hL) (lys1 hL) (by decide) (3) rfl ?_
          refine x_iload_n 64 rfl dX0_look_63 2 rfl rfl ?_
          refine x_iald 65 rfl dX0_look_64 (lyl3 hL) (lys3 hL) (by omega) (by omega) ?_
          rw [show ((n : Int)).toNat = n by omega, hs1.2.2.2.1 n (by omega)]
          refine x_goto 69 dX0_look_65 (by decide) ?_
          refine x_iast 70 rfl dX0_look_69 (lyl48 hL) (lys48 hL) (by omega) (by omega) ?_
          rw [show ((13 : Int) + (n : Int)).toNat = 13 + n by omega]
          refine w_iinc 73 rfl dX0_look_70 rfl (by decide) (by omega) rfl (ls' := [_, _, _]) rfl (by decide) ?_
          refine x_goto 37 dX0_look_73 (by decide) ?_
          refine ih (n + 1) _ (by omega) (by omega) ⟨by rw [z_up_nk (by omega)]; exact a1, by rw [z_up_nk (by omega)]; exact a2, by rw [z_up_nk (by omega)]; exact a3, by rw [z_up_nk (by omega)]; exact a4, by rw [z_up_nk (by omega)]; exact a5, fun h hh => ?_⟩ (fun i a => by rw [z_up_ne a]; exact hF i a) (fun j hj => by rw [z_up_nk (by omega)]; exact hG j hj)
          by_cases e : h = n
          · rw [e, z_up_eq, if_pos (by omega)]
          · rw [z_up_nk (by omega)]; exact a6 h (by omega)
  refine zX_of pl_RX0 [some (zn 45), some (zn 1), none] 1 rfl rfl ?_
  refine x_aload_n 1 rfl dX0_look_0 0 rfl rfl ?_
  refine x_getr 4 rfl fX0_18 dX0_look_1 (lyl45 hL) (lys45 hL) (by decide) (48) rfl ?_
  refine x_bipush 6 rfl dX0_look_4 (by decide) ?_
  refine x_aload_n 7 rfl dX0_look_6 1 rfl rfl ?_
  refine x_getr 10 rfl fX0_61 dX0_look_7 (lyl1 hL) (lys1 hL) (by decide) (8) rfl ?_
  refine x_iconst 11 rfl dX0_look_10 (by decide) ?_
  refine x_ialk 12 rfl dX0_look_11 (lyl8 hL) (lys8 hL) 0 rfl (by decide) ?_
  rw [e70]
  refine x_iastk 13 rfl dX0_look_12 (lyl48 hL) (lys48 hL) 8 rfl (by decide) ?_
  refine x_aload_n 14 rfl dX0_look_13 0 rfl rfl ?_
  refine x_getr 17 rfl fX0_18 dX0_look_14 (lyl45 hL) (lys45 hL) (by decide) (48) rfl ?_
  refine x_bipush 19 rfl dX0_look_17 (by decide) ?_
  refine x_aload_n 20 rfl dX0_look_19 1 rfl rfl ?_
  refine x_geti 23 rfl fX0_66 dX0_look_20 (lyl1 hL) (lys1 hL) (by decide) ?_
  rw [z_up_ne (by decide), e8]
  refine x_iastk 24 rfl dX0_look_23 (lyl48 hL) (lys48 hL) 6 rfl (by decide) ?_
  refine x_aload_n 25 rfl dX0_look_24 0 rfl rfl ?_
  refine x_getr 28 rfl fX0_18 dX0_look_25 (lyl45 hL) (lys45 hL) (by decide) (48) rfl ?_
  refine x_bipush 30 rfl dX0_look_28 (by decide) ?_
  refine x_aload_n 31 rfl dX0_look_30 1 rfl rfl ?_
  refine x_geti 34 rfl fX0_69 dX0_look_31 (lyl1 hL) (lys1 hL) (by decide) ?_
  rw [z_up_ne (by decide), z_up_ne (by decide), e9]
  refine x_iastk 35 rfl dX0_look_34 (lyl48 hL) (lys48 hL) 12 rfl (by decide) ?_
  refine x_iconst 36 rfl dX0_look_35 (by decide) ?_
  refine y_istore_n 37 rfl dX0_look_36 rfl rfl (ls' := [_, _, _]) rfl (by decide) ?_
  exact lp1 9 0 _ (by omega) (by omega) ⟨by rw [z_up_nk (by decide), z_up_nk (by decide), z_up_nk (by decide)]; exact h10, by rw [z_up_nk (by decide), z_up_nk (by decide), z_up_nk (by decide)]; exact h11, by rw [z_up_nk (by decide), z_up_eq], by rw [z_up_nk (by decide), z_up_nk (by decide), z_up_eq], z_up_eq, fun h hh => by omega⟩ (fun i a => by rw [z_up_ne a, z_up_ne a, z_up_ne a]) (fun j hj => by rw [z_up_nk (by omega), z_up_nk (by omega), z_up_nk (by omega)])
