/-! reference: orders -/
theorem kLs_s6 {k c v : Nat → Int} {t i : Nat} {n : Int} (ht : t < 7) (hi : i < 400) : ku (ku (kLs k t c v n i) (87 + 400 * t + i) (c i)) (2887 + 400 * t + i) (v i) = kLs k t c v n (i + 1) := by
  funext j
  unfold kLs ku
  by_cases h1 : j = 2887 + 400 * t + i
  · rw [if_pos h1, if_neg (by omega), if_neg (by omega), if_pos (by omega), show j - (2887 + 400 * t) = i by omega]
  · rw [if_neg h1]
    by_cases h2 : j = 87 + 400 * t + i
    · rw [if_pos h2, if_neg (by omega), if_pos (by omega), show j - (87 + 400 * t) = i by omega]
    · rw [if_neg h2]
      show (if j = 80 + t then n else if 87 + 400 * t ≤ j ∧ j < 87 + 400 * t + i then c (j - (87 + 400 * t)) else if 2887 + 400 * t ≤ j ∧ j < 2887 + 400 * t + i then v (j - (2887 + 400 * t)) else k j) = _
      by_cases h3 : j = 80 + t
      · rw [if_pos h3, if_pos h3]
      · rw [if_neg h3, if_neg h3]
        by_cases h4 : 87 + 400 * t ≤ j ∧ j < 87 + 400 * t + i
        · rw [if_pos h4, if_pos (by omega)]
        · rw [if_neg h4, if_neg (c := 87 + 400 * t ≤ j ∧ j < 87 + 400 * t + (i + 1)) (by omega)]
          by_cases h5 : 2887 + 400 * t ≤ j ∧ j < 2887 + 400 * t + i
          · rw [if_pos h5, if_pos (by omega)]
          · rw [if_neg h5, if_neg (by omega)]

set_option maxRecDepth 100000 in
set_option maxHeartbeats 4000000 in
theorem c_X11_lays6 {d sz : Nat} {S : zSh} {M : zMem} (hL : LY S sz) {x : Int} (hx : 0 ≤ x ∧ x < 7) {n : Nat} (hn : M 55 18 = (n : Int)) (hn4 : n ≤ 400) : zX d 0 0 mX11_lays [zn 55, zi x] sz S M (zU sz S (fun M' => M' = z_mup M 57 (kLs (M 57) x.toNat (M 64) (M 65) (n : Int) n))) := by
  have loop : ∀ (q i : Nat), n < q + i → i ≤ n → zW mX11_lays d 0 0 [] (zU sz S (fun M' => M' = z_mup M 57 (kLs (M 57) x.toNat (M 64) (M 65) (n : Int) n))) 15 [some (zn 55), some (zi x), some (zi i)] [] sz S (z_mup M 57 (kLs (M 57) x.toNat (M 64) (M 65) (n : Int) i)) := by
    intro q
    induction q with
    | zero => intro i hq hi; omega
    | succ q ih =>
      intro i hq hi
      refine x_iload_n 16 rfl dX11_lays_15 2 rfl rfl ?_
      refine x_aload_n 17 rfl dX11_lays_16 0 rfl rfl ?_
      refine x_geti 20 rfl fX11_149 dX11_lays_17 (lyl55 hL) (lys55 hL) (by decide) ?_
      try simp (disch := omega) only [z_up_ne, z_up_nk, z_up_eq, z_mup_ne, z_mup_eq, Int.reduceToNat, Int.toNat_natCast]
      rw [hn]
      refine x_icmp_ge 23 72 rfl dX11_lays_20 (by decide) (fun c20 => ?_) (fun c20 => ?_)
      · refine x_retu dX11_lays_72 rfl ?_
        rw [show n = i by omega]
      · refine x_aload_n 24 rfl dX11_lays_23 0 rfl rfl ?_
        refine x_getr 27 rfl fX11_24 dX11_lays_24 (lyl55 hL) (lys55 hL) (by decide) (57) rfl ?_
        refine x_bipush 29 rfl dX11_lays_27 (by decide) ?_
        refine x_sipush 32 rfl dX11_lays_29 (by decide) ?_
        refine x_iload_n 33 rfl dX11_lays_32 1 rfl rfl ?_
        refine y_imul 34 rfl dX11_lays_33 (by omega) ?_
        refine y_iadd 35 rfl dX11_lays_34 (by omega) ?_
        refine x_iload_n 36 rfl dX11_lays_35 2 rfl rfl ?_
        refine y_iadd 37 rfl dX11_lays_36 (by omega) ?_
        refine x_aload_n 38 rfl dX11_lays_37 0 rfl rfl ?_
        refine x_getr 41 rfl fX11_50 dX11_lays_38 (lyl55 hL) (lys55 hL) (by decide) (64) rfl ?_
        refine x_iload_n 42 rfl dX11_lays_41 2 rfl rfl ?_
        refine x_iald 43 rfl dX11_lays_42 (lyl64 hL) (lys64 hL) (by omega) (by omega) ?_
        try simp (disch := omega) only [z_up_ne, z_up_nk, z_up_eq, z_mup_ne, z_mup_eq, Int.reduceToNat, Int.toNat_natCast]
        refine x_iast 44 rfl dX11_lays_43 (lyl57 hL) (lys57 hL) (by omega) (by omega) ?_
        refine x_aload_n 45 rfl dX11_lays_44 0 rfl rfl ?_
        refine x_getr 48 rfl fX11_24 dX11_lays_45 (lyl55 hL) (lys55 hL) (by decide) (57) rfl ?_
        refine x_sipush 51 rfl dX11_lays_48 (by decide) ?_
        refine x_sipush 54 rfl dX11_lays_51 (by decide) ?_
        refine x_iload_n 55 rfl dX11_lays_54 1 rfl rfl ?_
        refine y_imul 56 rfl dX11_lays_55 (by omega) ?_
        refine y_iadd 57 rfl dX11_lays_56 (by omega) ?_
        refine x_iload_n 58 rfl dX11_lays_57 2 rfl rfl ?_
        refine y_iadd 59 rfl dX11_lays_58 (by omega) ?_
        refine x_aload_n 60 rfl dX11_lays_59 0 rfl rfl ?_
        refine x_getr 63 rfl fX11_53 dX11_lays_60 (lyl55 hL) (lys55 hL) (by decide) (65) rfl ?_
        refine x_iload_n 64 rfl dX11_lays_63 2 rfl rfl ?_
        refine x_iald 65 rfl dX11_lays_64 (lyl65 hL) (lys65 hL) (by omega) (by omega) ?_
        try simp (disch := omega) only [z_up_ne, z_up_nk, z_up_eq, z_mup_ne, z_mup_eq, Int.reduceToNat, Int.toNat_natCast]
        refine x_iast 66 rfl dX11_lays_65 (lyl57 hL) (lys57 hL) (by omega) (by omega) ?_
        refine z_mem (M' := z_mup M 57 (kLs (M 57) x.toNat (M 64) (M 65) (n : Int) (i + 1))) ?_ ?_
        · rw [show ((87 : Int) + 400 * x + (i : Int)).toNat = 87 + 400 * x.toNat + i by omega, show ((2887 : Int) + 400 * x + (i : Int)).toNat = 2887 + 400 * x.toNat + i by omega, ← kLs_s6 (by omega) (by omega)]
          simp only [z_upm, z_mup2, z_mup_eq]
        refine w_iinc 69 rfl dX11_lays_66 rfl (by decide) (by omega) rfl (ls' := [_, _, _]) rfl (by decide) ?_
        refine x_goto 15 dX11_lays_69 (by decide) ?_
        exact ih (i + 1) (by omega) (by omega)
  refine zX_of pl_RX11 [some (zn 55), some (zi x), none] 1 rfl rfl ?_
  refine x_aload_n 1 rfl dX11_lays_0 0 rfl rfl ?_
  refine x_getr 4 rfl fX11_24 dX11_lays_1 (lyl55 hL) (lys55 hL) (by decide) (57) rfl ?_
  refine x_bipush 6 rfl dX11_lays_4 (by decide) ?_
  refine x_iload_n 7 rfl dX11_lays_6 1 rfl rfl ?_
  refine y_iadd 8 rfl dX11_lays_7 (by omega) ?_
  refine x_aload_n 9 rfl dX11_lays_8 0 rfl rfl ?_
  refine x_geti 12 rfl fX11_149 dX11_lays_9 (lyl55 hL) (lys55 hL) (by decide) ?_
  try simp (disch := omega) only [z_up_ne, z_up_nk, z_up_eq, z_mup_ne, z_mup_eq, Int.reduceToNat, Int.toNat_natCast]
  rw [hn]
  refine x_iast 13 rfl dX11_lays_12 (lyl57 hL) (lys57 hL) (by omega) (by omega) ?_
  refine z_mem (M' := z_mup M 57 (kLs (M 57) x.toNat (M 64) (M 65) (n : Int) 0)) ?_ ?_
  · rw [show ((80 : Int) + x).toNat = 80 + x.toNat by omega, ← kLs_0, z_upm]
  refine x_iconst 14 rfl dX11_lays_13 (by decide) ?_
  refine y_istore_n 15 rfl dX11_lays_14 rfl rfl (ls' := [_, _, _]) rfl (by decide) ?_
  exact loop (n + 1) 0 (by omega) (by omega)

/-- the numbers with the orders' tokens laid behind the laws' -/
def k6 (k c v : Nat → Int) (n : Nat) : Nat → Int := kLs k 6 c v (n : Int) n
theorem k6_lo {k c v : Nat → Int} {n j : Nat} (h : j < 86) : k6 k c v n j = k j := by
  unfold k6 kLs
  rw [if_neg (by omega), if_neg (by omega), if_neg (by omega)]
theorem k6_86 {k c v : Nat → Int} {n : Nat} : k6 k c v n 86 = (n : Int) := by unfold k6 kLs; rw [if_pos rfl]
theorem k6_law {k c v : Nat → Int} {n j : Nat} (h : (87 ≤ j ∧ j < 2487) ∨ (2887 ≤ j ∧ j < 5287)) (hn : n ≤ 400) : k6 k c v n j = k j := by
  unfold k6 kLs
  rw [if_neg (by omega), if_neg (by omega), if_neg (by omega)]
theorem k6_c {k c v : Nat → Int} {n i : Nat} (h : i < n) : k6 k c v n (87 + (2400 + i)) = c i := by
  unfold k6 kLs
  rw [if_neg (by omega), if_pos (by omega), show 87 + (2400 + i) - (87 + 400 * 6) = i by omega]
theorem k6_v {k c v : Nat → Int} {n i : Nat} (h : i < n) (hn : n ≤ 400) : k6 k c v n (2887 + (2400 + i)) = v i := by
  unfold k6 kLs
  rw [if_neg (by omega), if_neg (by omega), if_pos (by omega), show 2887 + (2400 + i) - (2887 + 400 * 6) = i by omega]
theorem KI_k6 {k c v : Nat → Int} {n : Nat} (h : KI k) (hn : n ≤ 400) : KI (k6 k c v n) := by
  obtain ⟨h1, h2, h3, h4, h5, h6⟩ := h
  refine ⟨?_, fun q hq => ?_, fun q hq => ?_, fun q hq => ?_, fun q hq => ?_, fun t ht => ?_⟩
  · simp (disch := omega) only [k6_lo]; exact h1
  · simp (disch := omega) only [k6_lo]; exact h2 q hq
  · simp (disch := omega) only [k6_lo]; exact h3 q hq
  · simp (disch := omega) only [k6_lo]; exact h4 q hq
  · simp (disch := omega) only [k6_lo]; exact h5 q hq
  · by_cases h : t = 6
    · subst h; rw [show 80 + 6 = 86 from rfl, k6_86]; omega
    · rw [k6_lo (by omega)]; exact h6 t ht
theorem LwI_k6 {k c v : Nat → Int} {n : Nat} {Lw : List gC} (hi : KI k) (h : LwI k Lw) (hn : n ≤ 400) : LwI (k6 k c v n) Lw := by
  intro h79
  rw [k6_lo (by decide)] at h79 ⊢
  have i1 := hi.1
  obtain ⟨c1, v1, n1, cd0, s', h1, h2, h3, h4, h5⟩ := h h79
  have h20 := h2.1
  exact ⟨c1, v1, n1, cd0, s', by rw [k6_lo (by omega)]; exact h1, h2, fun i hi => by rw [k6_law (by omega) hn]; exact h3 i hi, fun i hi => by rw [k6_law (by omega) hn]; exact h4 i hi, h5⟩
theorem ruF_trans {M M1 M2 : zMem} (h : ruF M M1) (h1 : ruF M1 M2) : ruF M M2 := ⟨fun i a b c d e f => (h1.1 i a b c d e f).trans (h.1 i a b c d e f), fun j a => (h1.2.1 j a).trans (h.2.1 j a), fun i a => (h1.2.2 i a).trans (h.2.2 i a)⟩
theorem ruI_self {M M1 : zMem} {a d : Int} {st : oS} (h : ruI M a d st M1) : ruI M1 a d st M1 := ⟨ruF_refl, h.2⟩
theorem ruI_trans {M M1 M2 : zMem} {a a' d d' : Int} {st st' : oS} (h : ruI M a d st M1) (h1 : ruI M1 a' d' st' M2) : ruI M a' d' st' M2 := ⟨ruF_trans h.1 h1.1, h1.2⟩
theorem g_pre {o : Bool} {c v : Nat → Int} {n : Nat} : ∀ (f : Nat) (s s' : gS) (L L' : List gC), g_text o c v n f s L = .inr (s', L') → ∃ r, L' = L ++ r
  | 0, _, _, _, _, h => by cases h
  | f + 1, s, s', L, L', h => by
    obtain ⟨s1, x, -, h2⟩ := g_text_inv h
    rcases g_more_inv h2 with ⟨-, h3⟩ | ⟨-, h3⟩
    · obtain ⟨r, hr⟩ := g_pre f _ _ _ _ h3
      exact ⟨x :: r, by rw [hr, List.append_assoc]; rfl⟩
    · exact ⟨[x], h3⟩
theorem g_pre2 {o : Bool} {c v : Nat → Int} {n f : Nat} {s s' : gS} {L L' : List gC} (h : g_more o c v n f s L = .inr (s', L')) : ∃ r, L' = L ++ r := by
  rcases g_more_inv h with ⟨-, h3⟩ | ⟨-, h3⟩
  · exact g_pre f _ _ _ _ h3
  · exact ⟨[], by rw [h3, List.append_nil]⟩
/-- behind the orders' reading -/
def orB (M : zMem) (k5 : Nat → Int) (M5 : zMem) : Prop := (∀ i, (i < 55 ∨ i = 56 ∨ i = 58 ∨ i = 59 ∨ i = 61 ∨ i = 62 ∨ i = 63 ∨ i = 67 ∨ i = 68 ∨ i = 69 ∨ 71 ≤ i) → M5 i = M i) ∧ (∀ j, (j < 8 ∨ 41 ≤ j) → M5 55 j = M 55 j) ∧ M5 55 13 = 0 ∧ M5 55 14 = -1 ∧ M5 55 35 = -1 ∧ M5 57 = k5 ∧ (∀ i, i < 23 → M5 60 i = M 57 i) ∧ (∀ i, i < 384 → M5 70 i = M 69 i)
/-- what orders keep of the reference's memory -/
def orK (M N : zMem) : Prop := (∀ i, (i < 55 ∨ i = 56 ∨ i = 58 ∨ i = 59 ∨ i = 61 ∨ i = 62 ∨ i = 63 ∨ i = 71 ∨ i = 72 ∨ 74 ≤ i) → N i = M i) ∧ (∀ j, (j < 8 ∨ 41 ≤ j) → N 55 j = M 55 j) ∧ N 55 13 = 0 ∧ N 55 14 = -1
def rorQ (Lw : List gC) (M : zMem) (k5 : Nat → Int) (l : Nat → Nat → Int) (n0 : Nat) (L : List gC) (r : Int) (M' : zMem) : Prop := ∃ N : zMem, orK M N ∧ match zoL Lw L 0 (k5, l, n0, 0, -1) with
  | .inl j => r = -3 ∧ N 57 = k5 ∧ lR (N 69) l n0 ∧ N 55 32 = (n0 : Int) ∧ N 55 35 = (j : Int) ∧ M' = zRef N (-3)
  | .inr s => r = s.2.2.2.1 ∧ N 57 = s.1 ∧ KI s.1 ∧ (∀ i, 23 ≤ i → s.1 i = k5 i) ∧ lR (N 69) s.2.1 s.2.2.1 ∧ N 55 32 = (s.2.2.1 : Int) ∧ N 55 35 = -1 ∧ M' = z_up N 55 0 0
theorem orK_of {M M5 N : zMem} {k5 : Nat → Int} (h : orB M k5 M5) (h1 : ruF M5 N) : orK M N := by
  obtain ⟨a1, a2, a3, a4, a5, a6, a7, a8⟩ := h
  exact ⟨fun i hi => (h1.1 i (by omega) (by omega) (by omega) (by omega) (by omega) (by omega)).trans (a1 i (by omega)), fun j hj => (h1.2.1 j (by omega)).trans (a2 j hj), (h1.2.1 13 (by omega)).trans a3, (h1.2.1 14 (by omega)).trans a4⟩
theorem or_ok {Lw : List gC} {M M5 N : zMem} {k5 : Nat → Int} {l : Nat → Nat → Int} {n0 : Nat} {L : List gC} {st : oS} {a d r : Int} (h : orB M k5 M5) (h1 : ruI M5 a d st N) (hz : zoL Lw L 0 (k5, l, n0, 0, -1) = .inr st) (hr : r = st.2.2.2.1) : rorQ Lw M k5 l n0 L r (z_up N 55 0 0) := by
  refine ⟨N, orK_of h h1.1, ?_⟩
  rw [hz]
  obtain ⟨g1, g2, g3, g4, g5, g6, g7, g8, g9, g10⟩ := h1
  exact ⟨hr, g2, g3, fun i hi => by rw [← g2, g1.2.2 i hi, h.2.2.2.2.2.1], g4, g5, (g1.2.1 35 (by omega)).trans h.2.2.2.2.1, rfl⟩
theorem or_no {Lw : List gC} {M M5 N : zMem} {k c v : Nat → Int} {n : Nat} {l : Nat → Nat → Int} {n0 : Nat} {L : List gC} {j : Nat} (hk : M 57 = k) (h : orB M (k6 k c v n) M5) (h1 : ruF M5 N) (hl : lR (M 69) l n0) (hz : zoL Lw L 0 (k6 k c v n, l, n0, 0, -1) = .inl j) {N1 N2 : zMem} (hN1 : N1 = z_mup N 57 (zblk (N 57) (fun i => N 60 (23 * (0 : Int).toNat + i)) 0 23)) (hN2 : N2 = z_mup N1 69 (zblk (N1 69) (N1 70) 0 384)) : rorQ Lw M (k6 k c v n) l n0 L (-3) (zRef (z_up (z_up N2 55 32 (n0 : Int)) 55 35 (j : Int)) (-3)) := by
  have hK := orK_of h h1
  refine ⟨z_up (z_up N2 55 32 (n0 : Int)) 55 35 (j : Int), ⟨fun i hi => ?_, fun q hq => ?_, ?_, ?_⟩, ?_⟩
  · rw [z_up_ne (by omega), z_up_ne (by omega), hN2, z_mup_ne (by omega), hN1, z_mup_ne (by omega)]; exact hK.1 i hi
  · rw [z_up_nk (by omega), z_up_nk (by omega), hN2, z_mup_ne (by omega), hN1, z_mup_ne (by omega)]; exact hK.2.1 q hq
  · rw [z_up_nk (by omega), z_up_nk (by omega), hN2, z_mup_ne (by omega), hN1, z_mup_ne (by omega)]; exact hK.2.2.1
  · rw [z_up_nk (by omega), z_up_nk (by omega), hN2, z_mup_ne (by omega), hN1, z_mup_ne (by omega)]; exact hK.2.2.2
  rw [hz]
  refine ⟨rfl, ?_, ?_, by rw [z_up_nk (by decide), z_up_eq], z_up_eq, rfl⟩
  · rw [z_up_ne (by decide), z_up_ne (by decide), hN2, z_mup_ne (by decide), hN1, z_mup_eq]
    funext i
    by_cases hi : i < 23
    · have e := zblk_in (g := N 57) (f := fun i => N 60 (23 * (0 : Int).toNat + i)) (B := 0) hi
      rw [Nat.zero_add] at e
      rw [e, k6_lo (by omega)]
      show N 60 (23 * 0 + i) = _
      rw [Nat.mul_zero, Nat.zero_add, h1.1 60 (by decide) (by decide) (by decide) (by decide) (by decide) (by decide), h.2.2.2.2.2.2.1 i hi, hk]
    · rw [zblk_out (by omega), h1.2.2 i (by omega), h.2.2.2.2.2.1]
  · refine ⟨hl.1, fun a ha b hb => ?_⟩
    have hh := hl.1
    rw [z_up_ne (by decide), z_up_ne (by decide), hN2, z_mup_eq]
    have e := zblk_in (g := N1 69) (f := N1 70) (B := 0) (show 24 * a + b < 384 by omega)
    rw [Nat.zero_add] at e
    rw [e, hN1, z_mup_ne (by decide), h1.1 70 (by decide) (by decide) (by decide) (by decide) (by decide) (by decide), h.2.2.2.2.2.2.2 _ (by omega)]
    exact hl.2 a ha b hb
theorem orB_of {M M1 : zMem} {k cf vf : Nat → Int} {n : Nat} (hk : M 57 = k) (h1 : ∀ i, i ≠ 55 → i ≠ 60 → i ≠ 64 → i ≠ 65 → i ≠ 66 → i ≠ 70 → M1 i = M i) (h2 : ∀ j, (j < 8 ∨ 41 ≤ j) → M1 55 j = M 55 j) (h13 : M1 55 13 = 0) (h14 : M1 55 14 = -1) (h35 : M1 55 35 = -1) (h60 : ∀ i, i < 23 → M1 60 i = M 57 i) (h70 : ∀ i, i < 384 → M1 70 i = M 69 i) (hc : M1 64 = cf) (hv : M1 65 = vf) : orB M (k6 k cf vf n) (z_up (z_up (z_up (z_mup M1 57 (kLs (M1 57) 6 (M1 64) (M1 65) (n : Int) n)) 55 27 0) 55 28 (-1)) 55 36 2400) := by
  refine ⟨fun i hi => ?_, fun j hj => ?_, ?_, ?_, ?_, ?_, fun i hi => ?_, fun i hi => ?_⟩
  · rw [z_up_ne (by omega), z_up_ne (by omega), z_up_ne (by omega), z_mup_ne (by omega)]; exact h1 i (by omega) (by omega) (by omega) (by omega) (by omega) (by omega)
  · rw [z_up_nk (by omega), z_up_nk (by omega), z_up_nk (by omega), z_mup_ne (by omega)]; exact h2 j hj
  · rw [z_up_nk (by omega), z_up_nk (by omega), z_up_nk (by omega), z_mup_ne (by omega)]; exact h13
  · rw [z_up_nk (by omega), z_up_nk (by omega), z_up_nk (by omega), z_mup_ne (by omega)]; exact h14
  · rw [z_up_nk (by omega), z_up_nk (by omega), z_up_nk (by omega), z_mup_ne (by omega)]; exact h35
  · rw [z_up_ne (by decide), z_up_ne (by decide), z_up_ne (by decide), z_mup_eq, hc, hv, h1 57 (by decide) (by decide) (by decide) (by decide) (by decide) (by decide), hk]; rfl
  · rw [z_up_ne (by decide), z_up_ne (by decide), z_up_ne (by decide), z_mup_ne (by decide)]; exact h60 i hi
  · rw [z_up_ne (by decide), z_up_ne (by decide), z_up_ne (by decide), z_mup_ne (by decide)]; exact h70 i hi
