theorem zmask_moved (k e : Nat → Int) : zmask (kMoved k e) = zmask e := by simp [zmask, kMoved]

set_option maxRecDepth 100000 in
set_option maxHeartbeats 4000000 in
theorem c_X2_takeBack {d sz : Nat} {S : zSh} {M : zMem} {a b n : Nat} {k : Nat → Int} {l : Nat → Nat → Int} (h : LG S sz a) (hb : SH S sz b) (hd : a + 3 ≤ b ∨ b + 11 ≤ a) (hl : LR M a l n) (hs : SR M b k)  : zX (d + 1) 0 0 mX2_takeBack [zn a, zn b] sz S M (zI sz S (fun r M' => (n = 0 → r = -3 ∧ M' = M) ∧ (0 < n → r = l (n - 1) 23 ∧ (∀ i, ¬ (b ≤ i ∧ i < b + 11) → i ≠ a → M' i = M i) ∧ M' (b + 10) = M (b + 10) ∧ SR M' b (kMoved k (l (n - 1))) ∧ LR M' a l (n - 1)))) := by
  obtain ⟨l1, l2, l3, l4⟩ := id hl
  obtain ⟨s, hs1, hs2, hs3⟩ : ∃ s : Nat, (M a 2 + (M a 3 - 1)) % 17 = (s : Int) ∧ (0 < n → s = ((M a 2).toNat + (n - 1)) % 17) ∧ s < 17 := ⟨((M a 2 + (M a 3 - 1)) % 17).toNat, by omega, by omega, by omega⟩
  refine zX_of pl_RX2 [some (zn a), some (zn b), none, none, none] 3 rfl rfl ?_
  refine x_aload_n 1 rfl dX2_takeBack_0 0 rfl rfl ?_
  refine x_geti 4 rfl fX2_18 dX2_takeBack_1 (lgl0 h) (lgs0 h) (by decide) ?_
  refine x_if_ne 7 10 rfl dX2_takeBack_4 (by decide) (fun c4 => ?_) (fun c4 => ?_)
  · refine x_aload_n 11 rfl dX2_takeBack_10 0 rfl rfl ?_
    refine x_dupr 12 rfl dX2_takeBack_11 ?_
    refine x_geti 15 rfl fX2_18 dX2_takeBack_12 (lgl0 h) (lgs0 h) (by decide) ?_
    refine x_iconst 16 rfl dX2_takeBack_15 (by decide) ?_
    refine y_isub 17 rfl dX2_takeBack_16 (by omega) ?_
    refine x_puti 20 rfl fX2_18 dX2_takeBack_17 (lgl0 h) (lgs0 h) (by decide) ?_
    refine x_aload_n 21 rfl dX2_takeBack_20 0 rfl rfl ?_
    refine x_geti 24 rfl fX2_28 dX2_takeBack_21 (lgl0 h) (lgs0 h) (by decide) ?_
    try simp (disch := omega) only [z_up_ne, z_up_nk, z_up_eq, z_mup_ne, z_mup_eq, Int.reduceToNat]
    refine x_aload_n 25 rfl dX2_takeBack_24 0 rfl rfl ?_
    refine x_geti 28 rfl fX2_18 dX2_takeBack_25 (lgl0 h) (lgs0 h) (by decide) ?_
    try simp (disch := omega) only [z_up_ne, z_up_nk, z_up_eq, z_mup_ne, z_mup_eq, Int.reduceToNat]
    refine y_iadd 29 rfl dX2_takeBack_28 (by omega) ?_
    refine x_bipush 31 rfl dX2_takeBack_29 (by decide) ?_
    refine x_irem 32 rfl dX2_takeBack_31 (by omega) ?_
    rw [z_tmodn (by omega), hs1]
    refine x_istore_n 33 rfl dX2_takeBack_32 rfl (ls' := [_, _, _, _, _]) rfl (by decide) ?_
    refine x_iload_n 34 rfl dX2_takeBack_33 2 rfl rfl ?_
    refine x_bipush 36 rfl dX2_takeBack_34 (by decide) ?_
    refine y_imul 37 rfl dX2_takeBack_36 (by omega) ?_
    refine z_name (y' := ((16 * s : Nat) : Int)) (by omega) ?_
    refine x_istore_n 38 rfl dX2_takeBack_37 rfl (ls' := [_, _, _, _, _]) rfl (by decide) ?_
    refine x_aload_n 39 rfl dX2_takeBack_38 0 rfl rfl ?_
    refine x_getr 42 rfl fX2_15 dX2_takeBack_39 (lgl0 h) (lgs0 h) (by decide) (a + 2) rfl ?_
    refine x_iload_n 43 rfl dX2_takeBack_42 3 rfl rfl ?_
    refine x_aload_n 44 rfl dX2_takeBack_43 1 rfl rfl ?_
    refine x_getr 47 rfl fX2_31 dX2_takeBack_44 (shl0 hb) (shs0 hb) (by decide) (b + 2) rfl ?_
    refine x_iconst 48 rfl dX2_takeBack_47 (by decide) ?_
    refine x_bipush 50 rfl dX2_takeBack_48 (by decide) ?_
    refine x_copy 53 rfl lX2_22 w_nat w_natS w_natI dX2_takeBack_50 (Nat.le_of_ble_eq_true rfl) (lgl2 h) (lgs2 h) (shl2 hb) (shs2 hb) (by omega) (by omega) (by omega) (by omega) (by omega) ?_
    refine x_aload_n 54 rfl dX2_takeBack_53 0 rfl rfl ?_
    refine x_getr 57 rfl fX2_15 dX2_takeBack_54 (lgl0 h) (lgs0 h) (by decide) (a + 2) rfl ?_
    refine x_iload_n 58 rfl dX2_takeBack_57 3 rfl rfl ?_
    refine x_bipush 60 rfl dX2_takeBack_58 (by decide) ?_
    refine y_iadd 61 rfl dX2_takeBack_60 (by omega) ?_
    refine x_aload_n 62 rfl dX2_takeBack_61 1 rfl rfl ?_
    refine x_getr 65 rfl fX2_36 dX2_takeBack_62 (shl0 hb) (shs0 hb) (by decide) (b + 4) rfl ?_
    refine x_iconst 66 rfl dX2_takeBack_65 (by decide) ?_
    refine x_iconst 67 rfl dX2_takeBack_66 (by decide) ?_
    refine x_copy 70 rfl lX2_22 w_nat w_natS w_natI dX2_takeBack_67 (Nat.le_of_ble_eq_true rfl) (lgl2 h) (lgs2 h) (shl4 hb) (shs4 hb) (by omega) (by omega) (by omega) (by omega) (by omega) ?_
    refine x_iload_n 71 rfl dX2_takeBack_70 3 rfl rfl ?_
    refine x_bipush 73 rfl dX2_takeBack_71 (by decide) ?_
    refine y_iadd 74 rfl dX2_takeBack_73 (by omega) ?_
    refine x_iconst 75 rfl dX2_takeBack_74 (by decide) ?_
    refine y_iadd 76 rfl dX2_takeBack_75 (by omega) ?_
    refine x_istore 78 rfl dX2_takeBack_76 (ls' := [_, _, _, _, _]) rfl (by decide) ?_
    refine x_aload_n 79 rfl dX2_takeBack_78 1 rfl rfl ?_
    refine x_aload_n 80 rfl dX2_takeBack_79 0 rfl rfl ?_
    refine x_getr 83 rfl fX2_15 dX2_takeBack_80 (lgl0 h) (lgs0 h) (by decide) (a + 2) rfl ?_
    refine x_iload 85 rfl dX2_takeBack_83 rfl ?_
    refine x_iald 86 rfl dX2_takeBack_85 (lgl2 h) (lgs2 h) (by omega) (by omega) ?_
    try simp (disch := omega) only [z_up_ne, z_up_nk, z_up_eq, z_mup_ne, z_mup_eq, Int.reduceToNat]
    refine x_puti 89 rfl fX2_39 dX2_takeBack_86 (shl0 hb) (shs0 hb) (by decide) ?_
    refine x_aload_n 90 rfl dX2_takeBack_89 1 rfl rfl ?_
    refine x_aload_n 91 rfl dX2_takeBack_90 0 rfl rfl ?_
    refine x_getr 94 rfl fX2_15 dX2_takeBack_91 (lgl0 h) (lgs0 h) (by decide) (a + 2) rfl ?_
    refine x_iload 96 rfl dX2_takeBack_94 rfl ?_
    refine x_iconst 97 rfl dX2_takeBack_96 (by decide) ?_
    refine y_iadd 98 rfl dX2_takeBack_97 (by omega) ?_
    refine x_iald 99 rfl dX2_takeBack_98 (lgl2 h) (lgs2 h) (by omega) (by omega) ?_
    try simp (disch := omega) only [z_up_ne, z_up_nk, z_up_eq, z_mup_ne, z_mup_eq, Int.reduceToNat]
    refine x_puti 102 rfl fX2_42 dX2_takeBack_99 (shl0 hb) (shs0 hb) (by decide) ?_
    refine x_aload_n 103 rfl dX2_takeBack_102 1 rfl rfl ?_
    refine x_aload_n 104 rfl dX2_takeBack_103 0 rfl rfl ?_
    refine x_getr 107 rfl fX2_15 dX2_takeBack_104 (lgl0 h) (lgs0 h) (by decide) (a + 2) rfl ?_
    refine x_iload 109 rfl dX2_takeBack_107 rfl ?_
    refine x_iconst 110 rfl dX2_takeBack_109 (by decide) ?_
    refine y_iadd 111 rfl dX2_takeBack_110 (by omega) ?_
    refine x_iald 112 rfl dX2_takeBack_111 (lgl2 h) (lgs2 h) (by omega) (by omega) ?_
    try simp (disch := omega) only [z_up_ne, z_up_nk, z_up_eq, z_mup_ne, z_mup_eq, Int.reduceToNat]
    refine x_puti 115 rfl fX2_45 dX2_takeBack_112 (shl0 hb) (shs0 hb) (by decide) ?_
    refine x_aload_n 116 rfl dX2_takeBack_115 1 rfl rfl ?_
    refine x_getr 119 rfl fX2_48 dX2_takeBack_116 (shl0 hb) (shs0 hb) (by decide) (b + 7) rfl ?_
    refine x_iconst 120 rfl dX2_takeBack_119 (by decide) ?_
    refine x_aload_n 121 rfl dX2_takeBack_120 0 rfl rfl ?_
    refine x_getr 124 rfl fX2_15 dX2_takeBack_121 (lgl0 h) (lgs0 h) (by decide) (a + 2) rfl ?_
    refine x_iload 126 rfl dX2_takeBack_124 rfl ?_
    refine x_iconst 127 rfl dX2_takeBack_126 (by decide) ?_
    refine y_iadd 128 rfl dX2_takeBack_127 (by omega) ?_
    refine x_iald 129 rfl dX2_takeBack_128 (lgl2 h) (lgs2 h) (by omega) (by omega) ?_
    try simp (disch := omega) only [z_up_ne, z_up_nk, z_up_eq, z_mup_ne, z_mup_eq, Int.reduceToNat]
    refine x_iast 130 rfl dX2_takeBack_129 (shl7 hb) (shs7 hb) (by omega) (by omega) ?_
    refine x_aload_n 131 rfl dX2_takeBack_130 0 rfl rfl ?_
    refine x_getr 134 rfl fX2_11 dX2_takeBack_131 (lgl0 h) (lgs0 h) (by decide) (a + 1) rfl ?_
    refine x_iload_n 135 rfl dX2_takeBack_134 2 rfl rfl ?_
    refine x_iald 136 rfl dX2_takeBack_135 (lgl1 h) (lgs1 h) (by omega) (by omega) ?_
    try simp (disch := omega) only [z_up_ne, z_up_nk, z_up_eq, z_mup_ne, z_mup_eq, Int.reduceToNat]
    refine x_reti dX2_takeBack_136 rfl ?_
    refine ⟨fun h0 => by omega, fun h0 => ?_⟩
    have hs2 := hs2 h0
    have l5 := l4 (n - 1) (by omega)
    rw [← hs2] at l5
    simp only [show (((16 * s : Nat) : Int)).toNat = 16 * s from Int.toNat_natCast _, show ((s : Int)).toNat = s from Int.toNat_natCast _, show (((16 * s : Nat) : Int) + 8).toNat = 16 * s + 8 by omega, show (((16 * s : Nat) : Int) + 8 + 4).toNat = 16 * s + 12 by omega, show (((16 * s : Nat) : Int) + 8 + 4 + 1).toNat = 16 * s + 13 by omega, show (((16 * s : Nat) : Int) + 8 + 4 + 2).toNat = 16 * s + 14 by omega, show (((16 * s : Nat) : Int) + 8 + 4 + 3).toNat = 16 * s + 15 by omega, Int.reduceToNat]
    obtain ⟨g1, g2, g3, g4, g5, g6⟩ := l5.1
    generalize hN : z_up _ (b + 7) 0 _ = N
    refine ⟨?_, fun i h1 h2 => by rw [← hN]; simp (disch := omega) only [z_up_ne, z_up_nk, z_up_eq, z_mup_ne, z_mup_eq, Int.reduceToNat], by rw [← hN]; simp (disch := omega) only [z_up_ne, z_up_nk, z_up_eq, z_mup_ne, z_mup_eq, Int.reduceToNat], ?_, ?_⟩
    · exact l5.2
    · obtain ⟨⟨s1, s2, s3, s4, s5, s6, s7, s8⟩, ⟨s9, s10, s11⟩, q1, q2, q3, q4, q5, q6, q7, q8⟩ := hs
      refine ⟨⟨?_, ?_, ?_, ?_, ?_, ?_, ?_, ?_⟩, ⟨?_, ?_, ?_⟩, ?_, ?_, ?_, ?_, ?_, ?_, ?_, ?_⟩
      · rw [← hN]; simp (disch := omega) only [z_up_ne, z_up_nk, z_up_eq, z_mup_ne, z_mup_eq, Int.reduceToNat]; exact s1
      · rw [← hN, zmask_moved]; simp (disch := omega) only [z_up_ne, z_up_nk, z_up_eq, z_mup_ne, z_mup_eq, Int.reduceToNat]; exact g3
      · rw [← hN]; simp (disch := omega) only [z_up_ne, z_up_nk, z_up_eq, z_mup_ne, z_mup_eq, Int.reduceToNat]; exact s3
      · rw [← hN]; simp (disch := omega) only [z_up_ne, z_up_nk, z_up_eq, z_mup_ne, z_mup_eq, Int.reduceToNat]; exact g4
      · rw [← hN]; simp (disch := omega) only [z_up_ne, z_up_nk, z_up_eq, z_mup_ne, z_mup_eq, Int.reduceToNat]; exact g5
      · rw [← hN]; simp (disch := omega) only [z_up_ne, z_up_nk, z_up_eq, z_mup_ne, z_mup_eq, Int.reduceToNat]; exact s6
      · rw [← hN]; simp (disch := omega) only [z_up_ne, z_up_nk, z_up_eq, z_mup_ne, z_mup_eq, Int.reduceToNat]; exact s7
      · rw [← hN]; simp (disch := omega) only [z_up_ne, z_up_nk, z_up_eq, z_mup_ne, z_mup_eq, Int.reduceToNat]; exact s8
      · rw [← hN]; simp (disch := omega) only [z_up_ne, z_up_nk, z_up_eq, z_mup_ne, z_mup_eq, Int.reduceToNat]; exact g6
      · rw [← hN]; simp (disch := omega) only [z_up_ne, z_up_nk, z_up_eq, z_mup_ne, z_mup_eq, Int.reduceToNat]; exact s10
      · rw [← hN]; simp (disch := omega) only [z_up_ne, z_up_nk, z_up_eq, z_mup_ne, z_mup_eq, Int.reduceToNat]; exact s11
      · intro j hj; rw [← hN]; simp (disch := omega) only [z_up_ne, z_up_nk, z_up_eq, z_mup_ne, z_mup_eq, Int.reduceToNat]; simp only [kMoved]; rw [if_neg (by omega)]; exact q1 j hj
      · intro j hj; rw [← hN]; simp (disch := omega) only [z_up_ne, z_up_nk, z_up_eq, z_mup_ne, z_mup_eq, Int.reduceToNat]; simp only [kMoved]; rw [if_pos (by omega)]; unfold z_cpy; rw [if_pos (by omega)]; exact g1 j hj
      · intro j hj; rw [← hN]; simp (disch := omega) only [z_up_ne, z_up_nk, z_up_eq, z_mup_ne, z_mup_eq, Int.reduceToNat]; simp only [kMoved]; rw [if_neg (by omega)]; exact q3 j hj
      · intro j hj; rw [← hN]; simp (disch := omega) only [z_up_ne, z_up_nk, z_up_eq, z_mup_ne, z_mup_eq, Int.reduceToNat]; simp only [kMoved]; rw [if_pos (by omega)]; unfold z_cpy; rw [if_pos (by omega)]; exact g2 j hj
      · intro j hj; rw [← hN]; simp (disch := omega) only [z_up_ne, z_up_nk, z_up_eq, z_mup_ne, z_mup_eq, Int.reduceToNat]; simp only [kMoved]; rw [if_neg (by omega)]; exact q5 j hj
      · intro j hj; rw [← hN]; simp (disch := omega) only [z_up_ne, z_up_nk, z_up_eq, z_mup_ne, z_mup_eq, Int.reduceToNat]; simp only [kMoved]; rw [if_neg (by omega)]; exact q6 j hj
      · intro j hj; rw [← hN]; simp (disch := omega) only [z_up_ne, z_up_nk, z_up_eq, z_mup_ne, z_mup_eq, Int.reduceToNat]; simp only [kMoved]; rw [if_neg (by omega)]; exact q7 j hj
      · intro j hj; rw [← hN]; simp (disch := omega) only [z_up_ne, z_up_nk, z_up_eq, z_mup_ne, z_mup_eq, Int.reduceToNat]; simp only [kMoved]; rw [if_neg (by omega)]; exact q8 j hj
    · have ea2 : N a 2 = M a 2 := by rw [← hN]; simp (disch := omega) only [z_up_ne, z_up_nk, z_up_eq, z_mup_ne, z_mup_eq, Int.reduceToNat]
      have er1 : N (a + 1) = M (a + 1) := by rw [← hN]; simp (disch := omega) only [z_up_ne, z_up_nk, z_up_eq, z_mup_ne, z_mup_eq, Int.reduceToNat]
      have er2 : N (a + 2) = M (a + 2) := by rw [← hN]; simp (disch := omega) only [z_up_ne, z_up_nk, z_up_eq, z_mup_ne, z_mup_eq, Int.reduceToNat]
      refine ⟨by rw [← hN]; simp (disch := omega) only [z_up_ne, z_up_nk, z_up_eq, z_mup_ne, z_mup_eq, Int.reduceToNat]; omega, by rw [ea2]; exact l2, by omega, fun j hj => ?_⟩
      rw [ea2, er1]
      exact ⟨slotK_row (l4 j (by omega)).1 (fun i _ _ => by rw [er2]), (l4 j (by omega)).2⟩
  · refine x_bipush 9 rfl dX2_takeBack_7 (by decide) ?_
    refine x_reti dX2_takeBack_9 rfl ?_
    exact ⟨fun _ => ⟨rfl, rfl⟩, fun h0 => by omega⟩

set_option maxRecDepth 100000 in
set_option maxHeartbeats 4000000 in
theorem c_X7_become {d sz : Nat} {S : zSh} {M : zMem} {a b : Nat} (h : SH S sz a) (hb : SH S sz b) (hd : a + 11 ≤ b ∨ b + 11 ≤ a) (hT : ∀ t, t < 6 → M (b + 10) t = -1 ∨ ∃ (r n2 : Nat) (f2 : Nat → Int), M (b + 10) t = (r : Int) ∧ r < sz ∧ S r = (9, n2, f2)) : zX (d + 1) 0 0 mX7_become [zn a, zn b] sz S M (zU sz S (fun M' => (∀ i, ¬ (a ≤ i ∧ i < a + 11) → M' i = M i) ∧ (∀ k, SR M b k → SR M' a k) ∧ ∀ t, t < 6 → M' (a + 10) t = M (b + 10) t)) := by
  have loop : ∀ (q n : Nat) (N : zMem), 6 < q + n → n ≤ 6 → (∀ i, ¬ (a ≤ i ∧ i < a + 11) → N i = M i) → (∀ k, SR M b k → SR (z_up N a 17 (M b 17)) a k) → (∀ t, t < n → N (a + 10) t = M (b + 10) t) → zW mX7_become (d + 1) 0 0 [] (zU sz S (fun M' => (∀ i, ¬ (a ≤ i ∧ i < a + 11) → M' i = M i) ∧ (∀ k, SR M b k → SR M' a k) ∧ ∀ t, t < 6 → M' (a + 10) t = M (b + 10) t)) 191 [some (zn a), some (zn b), some (zi n)] [] sz S N := by
    intro q
    induction q with
    | zero => intro n N hq hn; omega
    | succ q ih =>
      intro n N hq hn h1 h2 h3
      refine x_iload_n 192 rfl dX7_become_191 2 rfl rfl ?_
      refine x_bipush 194 rfl dX7_become_192 (by decide) ?_
      refine x_icmp_ge 197 215 rfl dX7_become_194 (by decide) (fun c194 => ?_) (fun c194 => ?_)
      · refine x_aload_n 216 rfl dX7_become_215 0 rfl rfl ?_
        refine x_aload_n 217 rfl dX7_become_216 1 rfl rfl ?_
        refine x_geti 220 rfl fX7_45 dX7_become_217 (shl0 hb) (shs0 hb) (by decide) ?_
        refine x_puti 223 rfl fX7_45 dX7_become_220 (shl0 h) (shs0 h) (by decide) ?_
        refine x_retu dX7_become_223 rfl ?_
        rw [show N b 17 = M b 17 by rw [h1 b (by omega)]]
        refine ⟨fun i hi => by simp (disch := omega) only [z_up_ne, z_up_nk, z_up_eq, z_mup_ne, z_mup_eq, Int.reduceToNat]; exact h1 i hi, h2, fun t ht => ?_⟩
        simp (disch := omega) only [z_up_ne, z_up_nk, z_up_eq, z_mup_ne, z_mup_eq, Int.reduceToNat]
        exact h3 t (by omega)
      · have h4 := hT n (by omega)
        rw [← h1 (b + 10) (by omega)] at h4
        refine x_aload_n 198 rfl dX7_become_197 0 rfl rfl ?_
        refine x_getr 201 rfl fX7_41 dX7_become_198 (shl0 h) (shs0 h) (by decide) (a + 10) rfl ?_
        refine x_iload_n 202 rfl dX7_become_201 2 rfl rfl ?_
        refine x_aload_n 203 rfl dX7_become_202 1 rfl rfl ?_
        refine x_getr 206 rfl fX7_41 dX7_become_203 (shl0 hb) (shs0 hb) (by decide) (b + 10) rfl ?_
        refine x_iload_n 207 rfl dX7_become_206 2 rfl rfl ?_
        refine x_aald (Or.inr rfl) 208 rfl dX7_become_207 (shl10 hb) (shs10 hb) (by omega) (by omega) ?_
        refine x_aast (Or.inr ⟨rfl, rfl⟩) 209 rfl dX7_become_208 (shl10 h) (shs10 h) (by omega) (by omega) (by rw [Int.toNat_natCast]; exact h4) ?_
        refine y_iinc 212 rfl dX7_become_209 rfl (by decide) (by omega) (ls' := [_, _, _]) rfl (by decide) ?_
        refine x_goto 191 dX7_become_212 (by decide) ?_
        first
          | refine loop 7 0 _ (by omega) (by omega) ?_ ?_ (fun t ht => by omega)
            · intro i hi; simp (disch := omega) only [z_up_ne, z_up_nk, z_up_eq, z_mup_ne, z_mup_eq, Int.reduceToNat]
            · intro k hk
              obtain ⟨⟨s1, s2, s3, s4, s5, s6, s7, s8⟩, ⟨s9, s10, s11⟩, q1, q2, q3, q4, q5, q6, q7, q8⟩ := hk
              refine ⟨⟨?_, ?_, ?_, ?_, ?_, ?_, ?_, ?_⟩, ⟨?_, ?_, ?_⟩, ?_, ?_, ?_, ?_, ?_, ?_, ?_, ?_⟩
              · simp (disch := omega) only [z_up_ne, z_up_nk, z_up_eq, z_mup_ne, z_mup_eq, Int.reduceToNat]; exact s1
              · simp (disch := omega) only [z_up_ne, z_up_nk, z_up_eq, z_mup_ne, z_mup_eq, Int.reduceToNat]; exact s2
              · simp (disch := omega) only [z_up_ne, z_up_nk, z_up_eq, z_mup_ne, z_mup_eq, Int.reduceToNat]; exact s3
              · simp (disch := omega) only [z_up_ne, z_up_nk, z_up_eq, z_mup_ne, z_mup_eq, Int.reduceToNat]; exact s4
              · simp (disch := omega) only [z_up_ne, z_up_nk, z_up_eq, z_mup_ne, z_mup_eq, Int.reduceToNat]; exact s5
              · simp (disch := omega) only [z_up_ne, z_up_nk, z_up_eq, z_mup_ne, z_mup_eq, Int.reduceToNat]; exact s6
              · simp (disch := omega) only [z_up_ne, z_up_nk, z_up_eq, z_mup_ne, z_mup_eq, Int.reduceToNat]; exact s7
              · simp (disch := omega) only [z_up_ne, z_up_nk, z_up_eq, z_mup_ne, z_mup_eq, Int.reduceToNat]; exact s8
              · simp (disch := omega) only [z_up_ne, z_up_nk, z_up_eq, z_mup_ne, z_mup_eq, Int.reduceToNat]; rw [z_cpy_all (by decide)]; exact s9
              · simp (disch := omega) only [z_up_ne, z_up_nk, z_up_eq, z_mup_ne, z_mup_eq, Int.reduceToNat]; rw [z_cpy_all (by decide)]; exact s10
              · simp (disch := omega) only [z_up_ne, z_up_nk, z_up_eq, z_mup_ne, z_mup_eq, Int.reduceToNat]; rw [z_cpy_all (by decide)]; exact s11
              · intro j hj; simp (disch := omega) only [z_up_ne, z_up_nk, z_up_eq, z_mup_ne, z_mup_eq, Int.reduceToNat]; rw [z_cpy_all (by omega)]; exact q1 j hj
              · intro j hj; simp (disch := omega) only [z_up_ne, z_up_nk, z_up_eq, z_mup_ne, z_mup_eq, Int.reduceToNat]; rw [z_cpy_all (by omega)]; exact q2 j hj
              · intro j hj; simp (disch := omega) only [z_up_ne, z_up_nk, z_up_eq, z_mup_ne, z_mup_eq, Int.reduceToNat]; rw [z_cpy_all (by omega)]; exact q3 j hj
              · intro j hj; simp (disch := omega) only [z_up_ne, z_up_nk, z_up_eq, z_mup_ne, z_mup_eq, Int.reduceToNat]; rw [z_cpy_all (by omega)]; exact q4 j hj
              · intro j hj; simp (disch := omega) only [z_up_ne, z_up_nk, z_up_eq, z_mup_ne, z_mup_eq, Int.reduceToNat]; rw [z_cpy_all (by omega)]; exact q5 j hj
              · intro j hj; simp (disch := omega) only [z_up_ne, z_up_nk, z_up_eq, z_mup_ne, z_mup_eq, Int.reduceToNat]; rw [z_cpy_all (by omega)]; exact q6 j hj
              · intro j hj; simp (disch := omega) only [z_up_ne, z_up_nk, z_up_eq, z_mup_ne, z_mup_eq, Int.reduceToNat]; rw [z_cpy_all (by omega)]; exact q7 j hj
              · intro j hj; simp (disch := omega) only [z_up_ne, z_up_nk, z_up_eq, z_mup_ne, z_mup_eq, Int.reduceToNat]; rw [z_cpy_all (by omega)]; exact q8 j hj
          | refine ih (n + 1) _ (by omega) (by omega) ?_ ?_ ?_
            · intro i hi; simp (disch := omega) only [z_up_ne, z_up_nk, z_up_eq, z_mup_ne, z_mup_eq, Int.reduceToNat]; exact h1 i hi
            · intro k hk; exact SR_frame (h2 k hk) (fun i g1 g2 => by funext j; simp only [z_up, show ¬ (i = a + 10) by omega, false_and, if_false])
            · intro t ht
              rw [z_up_at, Int.toNat_natCast]
              split
              · rename_i e
                rw [e, h1 (b + 10) (by omega)]
              · exact h3 t (by omega)
  refine zX_of pl_RX7 [some (zn a), some (zn b), none] 1 rfl rfl ?_
  refine x_aload_n 1 rfl dX7_become_0 0 rfl rfl ?_
  refine x_aload_n 2 rfl dX7_become_1 1 rfl rfl ?_
  refine x_geti 5 rfl fX7_49 dX7_become_2 (shl0 hb) (shs0 hb) (by decide) ?_
  refine x_puti 8 rfl fX7_49 dX7_become_5 (shl0 h) (shs0 h) (by decide) ?_
  refine x_aload_n 9 rfl dX7_become_8 1 rfl rfl ?_
  refine x_getr 12 rfl fX7_9 dX7_become_9 (shl0 hb) (shs0 hb) (by decide) (b + 1) rfl ?_
  refine x_iconst 13 rfl dX7_become_12 (by decide) ?_
  refine x_aload_n 14 rfl dX7_become_13 0 rfl rfl ?_
  refine x_getr 17 rfl fX7_9 dX7_become_14 (shl0 h) (shs0 h) (by decide) (a + 1) rfl ?_
  refine x_iconst 18 rfl dX7_become_17 (by decide) ?_
  refine x_bipush 20 rfl dX7_become_18 (by decide) ?_
  refine x_copy 23 rfl lX7_52 w_nat w_natS w_natI dX7_become_20 (Nat.le_of_ble_eq_true rfl) (shl1 hb) (shs1 hb) (shl1 h) (shs1 h) (by omega) (by omega) (by omega) (by omega) (by omega) ?_
  refine x_aload_n 24 rfl dX7_become_23 1 rfl rfl ?_
  refine x_getr 27 rfl fX7_15 dX7_become_24 (shl0 hb) (shs0 hb) (by decide) (b + 2) rfl ?_
  refine x_iconst 28 rfl dX7_become_27 (by decide) ?_
  refine x_aload_n 29 rfl dX7_become_28 0 rfl rfl ?_
  refine x_getr 32 rfl fX7_15 dX7_become_29 (shl0 h) (shs0 h) (by decide) (a + 2) rfl ?_
  refine x_iconst 33 rfl dX7_become_32 (by decide) ?_
  refine x_bipush 35 rfl dX7_become_33 (by decide) ?_
  refine x_copy 38 rfl lX7_52 w_nat w_natS w_natI dX7_become_35 (Nat.le_of_ble_eq_true rfl) (shl2 hb) (shs2 hb) (shl2 h) (shs2 h) (by omega) (by omega) (by omega) (by omega) (by omega) ?_
  refine x_aload_n 39 rfl dX7_become_38 1 rfl rfl ?_
  refine x_getr 42 rfl fX7_18 dX7_become_39 (shl0 hb) (shs0 hb) (by decide) (b + 3) rfl ?_
  refine x_iconst 43 rfl dX7_become_42 (by decide) ?_
  refine x_aload_n 44 rfl dX7_become_43 0 rfl rfl ?_
  refine x_getr 47 rfl fX7_18 dX7_become_44 (shl0 h) (shs0 h) (by decide) (a + 3) rfl ?_
  refine x_iconst 48 rfl dX7_become_47 (by decide) ?_
  refine x_bipush 50 rfl dX7_become_48 (by decide) ?_
  refine x_copy 53 rfl lX7_52 w_nat w_natS w_natI dX7_become_50 (Nat.le_of_ble_eq_true rfl) (shl3 hb) (shs3 hb) (shl3 h) (shs3 h) (by omega) (by omega) (by omega) (by omega) (by omega) ?_
  refine x_aload_n 54 rfl dX7_become_53 0 rfl rfl ?_
  refine x_aload_n 55 rfl dX7_become_54 1 rfl rfl ?_
  refine x_geti 58 rfl fX7_58 dX7_become_55 (shl0 hb) (shs0 hb) (by decide) ?_
  try simp (disch := omega) only [z_up_ne, z_up_nk, z_up_eq, z_mup_ne, z_mup_eq, Int.reduceToNat]
  refine x_puti 61 rfl fX7_58 dX7_become_58 (shl0 h) (shs0 h) (by decide) ?_
  refine x_aload_n 62 rfl dX7_become_61 0 rfl rfl ?_
  refine x_aload_n 63 rfl dX7_become_62 1 rfl rfl ?_
  refine x_geti 66 rfl fX7_61 dX7_become_63 (shl0 hb) (shs0 hb) (by decide) ?_
  try simp (disch := omega) only [z_up_ne, z_up_nk, z_up_eq, z_mup_ne, z_mup_eq, Int.reduceToNat]
  refine x_puti 69 rfl fX7_61 dX7_become_66 (shl0 h) (shs0 h) (by decide) ?_
  refine x_aload_n 70 rfl dX7_become_69 1 rfl rfl ?_
  refine x_getr 73 rfl fX7_21 dX7_become_70 (shl0 hb) (shs0 hb) (by decide) (b + 4) rfl ?_
  refine x_iconst 74 rfl dX7_become_73 (by decide) ?_
  refine x_aload_n 75 rfl dX7_become_74 0 rfl rfl ?_
  refine x_getr 78 rfl fX7_21 dX7_become_75 (shl0 h) (shs0 h) (by decide) (a + 4) rfl ?_
  refine x_iconst 79 rfl dX7_become_78 (by decide) ?_
  refine x_iconst 80 rfl dX7_become_79 (by decide) ?_
  refine x_copy 83 rfl lX7_52 w_nat w_natS w_natI dX7_become_80 (Nat.le_of_ble_eq_true rfl) (shl4 hb) (shs4 hb) (shl4 h) (shs4 h) (by omega) (by omega) (by omega) (by omega) (by omega) ?_
  refine x_aload_n 84 rfl dX7_become_83 1 rfl rfl ?_
  refine x_getr 87 rfl fX7_24 dX7_become_84 (shl0 hb) (shs0 hb) (by decide) (b + 5) rfl ?_
  refine x_iconst 88 rfl dX7_become_87 (by decide) ?_
  refine x_aload_n 89 rfl dX7_become_88 0 rfl rfl ?_
  refine x_getr 92 rfl fX7_24 dX7_become_89 (shl0 h) (shs0 h) (by decide) (a + 5) rfl ?_
  refine x_iconst 93 rfl dX7_become_92 (by decide) ?_
  refine x_bipush 95 rfl dX7_become_93 (by decide) ?_
  refine x_copy 98 rfl lX7_52 w_nat w_natS w_natI dX7_become_95 (Nat.le_of_ble_eq_true rfl) (shl5 hb) (shs5 hb) (shl5 h) (shs5 h) (by omega) (by omega) (by omega) (by omega) (by omega) ?_
  refine x_aload_n 99 rfl dX7_become_98 0 rfl rfl ?_
  refine x_aload_n 100 rfl dX7_become_99 1 rfl rfl ?_
  refine x_geti 103 rfl fX7_64 dX7_become_100 (shl0 hb) (shs0 hb) (by decide) ?_
  try simp (disch := omega) only [z_up_ne, z_up_nk, z_up_eq, z_mup_ne, z_mup_eq, Int.reduceToNat]
  refine x_puti 106 rfl fX7_64 dX7_become_103 (shl0 h) (shs0 h) (by decide) ?_
  refine x_aload_n 107 rfl dX7_become_106 0 rfl rfl ?_
  refine x_aload_n 108 rfl dX7_become_107 1 rfl rfl ?_
  refine x_geti 111 rfl fX7_67 dX7_become_108 (shl0 hb) (shs0 hb) (by decide) ?_
  try simp (disch := omega) only [z_up_ne, z_up_nk, z_up_eq, z_mup_ne, z_mup_eq, Int.reduceToNat]
  refine x_puti 114 rfl fX7_67 dX7_become_111 (shl0 h) (shs0 h) (by decide) ?_
  refine x_aload_n 115 rfl dX7_become_114 1 rfl rfl ?_
  refine x_getr 118 rfl fX7_27 dX7_become_115 (shl0 hb) (shs0 hb) (by decide) (b + 6) rfl ?_
  refine x_iconst 119 rfl dX7_become_118 (by decide) ?_
  refine x_aload_n 120 rfl dX7_become_119 0 rfl rfl ?_
  refine x_getr 123 rfl fX7_27 dX7_become_120 (shl0 h) (shs0 h) (by decide) (a + 6) rfl ?_
  refine x_iconst 124 rfl dX7_become_123 (by decide) ?_
  refine x_bipush 126 rfl dX7_become_124 (by decide) ?_
  refine x_copy 129 rfl lX7_52 w_nat w_natS w_natI dX7_become_126 (Nat.le_of_ble_eq_true rfl) (shl6 hb) (shs6 hb) (shl6 h) (shs6 h) (by omega) (by omega) (by omega) (by omega) (by omega) ?_
  refine x_aload_n 130 rfl dX7_become_129 1 rfl rfl ?_
  refine x_getr 133 rfl fX7_30 dX7_become_130 (shl0 hb) (shs0 hb) (by decide) (b + 7) rfl ?_
  refine x_iconst 134 rfl dX7_become_133 (by decide) ?_
  refine x_aload_n 135 rfl dX7_become_134 0 rfl rfl ?_
  refine x_getr 138 rfl fX7_30 dX7_become_135 (shl0 h) (shs0 h) (by decide) (a + 7) rfl ?_
  refine x_iconst 139 rfl dX7_become_138 (by decide) ?_
  refine x_iconst 140 rfl dX7_become_139 (by decide) ?_
  refine x_copy 143 rfl lX7_52 w_nat w_natS w_natI dX7_become_140 (Nat.le_of_ble_eq_true rfl) (shl7 hb) (shs7 hb) (shl7 h) (shs7 h) (by omega) (by omega) (by omega) (by omega) (by omega) ?_
  refine x_aload_n 144 rfl dX7_become_143 0 rfl rfl ?_
  refine x_aload_n 145 rfl dX7_become_144 1 rfl rfl ?_
  refine x_geti 148 rfl fX7_70 dX7_become_145 (shl0 hb) (shs0 hb) (by decide) ?_
  try simp (disch := omega) only [z_up_ne, z_up_nk, z_up_eq, z_mup_ne, z_mup_eq, Int.reduceToNat]
  refine x_puti 151 rfl fX7_70 dX7_become_148 (shl0 h) (shs0 h) (by decide) ?_
  refine x_aload_n 152 rfl dX7_become_151 1 rfl rfl ?_
  refine x_getr 155 rfl fX7_33 dX7_become_152 (shl0 hb) (shs0 hb) (by decide) (b + 8) rfl ?_
  refine x_iconst 156 rfl dX7_become_155 (by decide) ?_
  refine x_aload_n 157 rfl dX7_become_156 0 rfl rfl ?_
  refine x_getr 160 rfl fX7_33 dX7_become_157 (shl0 h) (shs0 h) (by decide) (a + 8) rfl ?_
  refine x_iconst 161 rfl dX7_become_160 (by decide) ?_
  refine x_bipush 163 rfl dX7_become_161 (by decide) ?_
  refine x_copy 166 rfl lX7_52 w_nat w_natS w_natI dX7_become_163 (Nat.le_of_ble_eq_true rfl) (shl8 hb) (shs8 hb) (shl8 h) (shs8 h) (by omega) (by omega) (by omega) (by omega) (by omega) ?_
  refine x_aload_n 167 rfl dX7_become_166 1 rfl rfl ?_
  refine x_getr 170 rfl fX7_36 dX7_become_167 (shl0 hb) (shs0 hb) (by decide) (b + 9) rfl ?_
  refine x_iconst 171 rfl dX7_become_170 (by decide) ?_
  refine x_aload_n 172 rfl dX7_become_171 0 rfl rfl ?_
  refine x_getr 175 rfl fX7_36 dX7_become_172 (shl0 h) (shs0 h) (by decide) (a + 9) rfl ?_
  refine x_iconst 176 rfl dX7_become_175 (by decide) ?_
  refine x_bipush 178 rfl dX7_become_176 (by decide) ?_
  refine x_copy 181 rfl lX7_52 w_nat w_natS w_natI dX7_become_178 (Nat.le_of_ble_eq_true rfl) (shl9 hb) (shs9 hb) (shl9 h) (shs9 h) (by omega) (by omega) (by omega) (by omega) (by omega) ?_
  refine x_aload_n 182 rfl dX7_become_181 0 rfl rfl ?_
  refine x_aload_n 183 rfl dX7_become_182 1 rfl rfl ?_
  refine x_geti 186 rfl fX7_73 dX7_become_183 (shl0 hb) (shs0 hb) (by decide) ?_
  try simp (disch := omega) only [z_up_ne, z_up_nk, z_up_eq, z_mup_ne, z_mup_eq, Int.reduceToNat]
  refine x_puti 189 rfl fX7_73 dX7_become_186 (shl0 h) (shs0 h) (by decide) ?_
  refine x_iconst 190 rfl dX7_become_189 (by decide) ?_
  refine x_istore_n 191 rfl dX7_become_190 rfl (ls' := [_, _, _]) rfl (by decide) ?_
  first
    | refine loop 7 0 _ (by omega) (by omega) ?_ ?_ (fun t ht => by omega)
      · intro i hi; simp (disch := omega) only [z_up_ne, z_up_nk, z_up_eq, z_mup_ne, z_mup_eq, Int.reduceToNat]
      · intro k hk
        obtain ⟨⟨s1, s2, s3, s4, s5, s6, s7, s8⟩, ⟨s9, s10, s11⟩, q1, q2, q3, q4, q5, q6, q7, q8⟩ := hk
        refine ⟨⟨?_, ?_, ?_, ?_, ?_, ?_, ?_, ?_⟩, ⟨?_, ?_, ?_⟩, ?_, ?_, ?_, ?_, ?_, ?_, ?_, ?_⟩
        · simp (disch := omega) only [z_up_ne, z_up_nk, z_up_eq, z_mup_ne, z_mup_eq, Int.reduceToNat]; exact s1
        · simp (disch := omega) only [z_up_ne, z_up_nk, z_up_eq, z_mup_ne, z_mup_eq, Int.reduceToNat]; exact s2
        · simp (disch := omega) only [z_up_ne, z_up_nk, z_up_eq, z_mup_ne, z_mup_eq, Int.reduceToNat]; exact s3
        · simp (disch := omega) only [z_up_ne, z_up_nk, z_up_eq, z_mup_ne, z_mup_eq, Int.reduceToNat]; exact s4
        · simp (disch := omega) only [z_up_ne, z_up_nk, z_up_eq, z_mup_ne, z_mup_eq, Int.reduceToNat]; exact s5
        · simp (disch := omega) only [z_up_ne, z_up_nk, z_up_eq, z_mup_ne, z_mup_eq, Int.reduceToNat]; exact s6
        · simp (disch := omega) only [z_up_ne, z_up_nk, z_up_eq, z_mup_ne, z_mup_eq, Int.reduceToNat]; exact s7
        · simp (disch := omega) only [z_up_ne, z_up_nk, z_up_eq, z_mup_ne, z_mup_eq, Int.reduceToNat]; exact s8
        · simp (disch := omega) only [z_up_ne, z_up_nk, z_up_eq, z_mup_ne, z_mup_eq, Int.reduceToNat]; rw [z_cpy_all (by decide)]; exact s9
        · simp (disch := omega) only [z_up_ne, z_up_nk, z_up_eq, z_mup_ne, z_mup_eq, Int.reduceToNat]; rw [z_cpy_all (by decide)]; exact s10
        · simp (disch := omega) only [z_up_ne, z_up_nk, z_up_eq, z_mup_ne, z_mup_eq, Int.reduceToNat]; rw [z_cpy_all (by decide)]; exact s11
        · intro j hj; simp (disch := omega) only [z_up_ne, z_up_nk, z_up_eq, z_mup_ne, z_mup_eq, Int.reduceToNat]; rw [z_cpy_all (by omega)]; exact q1 j hj
        · intro j hj; simp (disch := omega) only [z_up_ne, z_up_nk, z_up_eq, z_mup_ne, z_mup_eq, Int.reduceToNat]; rw [z_cpy_all (by omega)]; exact q2 j hj
        · intro j hj; simp (disch := omega) only [z_up_ne, z_up_nk, z_up_eq, z_mup_ne, z_mup_eq, Int.reduceToNat]; rw [z_cpy_all (by omega)]; exact q3 j hj
        · intro j hj; simp (disch := omega) only [z_up_ne, z_up_nk, z_up_eq, z_mup_ne, z_mup_eq, Int.reduceToNat]; rw [z_cpy_all (by omega)]; exact q4 j hj
        · intro j hj; simp (disch := omega) only [z_up_ne, z_up_nk, z_up_eq, z_mup_ne, z_mup_eq, Int.reduceToNat]; rw [z_cpy_all (by omega)]; exact q5 j hj
        · intro j hj; simp (disch := omega) only [z_up_ne, z_up_nk, z_up_eq, z_mup_ne, z_mup_eq, Int.reduceToNat]; rw [z_cpy_all (by omega)]; exact q6 j hj
        · intro j hj; simp (disch := omega) only [z_up_ne, z_up_nk, z_up_eq, z_mup_ne, z_mup_eq, Int.reduceToNat]; rw [z_cpy_all (by omega)]; exact q7 j hj
        · intro j hj; simp (disch := omega) only [z_up_ne, z_up_nk, z_up_eq, z_mup_ne, z_mup_eq, Int.reduceToNat]; rw [z_cpy_all (by omega)]; exact q8 j hj
    | refine ih (n + 1) _ (by omega) (by omega) ?_ ?_ ?_
      · intro i hi; simp (disch := omega) only [z_up_ne, z_up_nk, z_up_eq, z_mup_ne, z_mup_eq, Int.reduceToNat]; exact h1 i hi
      · intro k hk; exact SR_frame (h2 k hk) (fun i g1 g2 => by funext j; simp only [z_up, show ¬ (i = a + 10) by omega, false_and, if_false])
      · intro t ht
        rw [z_up_at, Int.toNat_natCast]
        split
        · rename_i e
          rw [e, h1 (b + 10) (by omega)]
        · exact h3 t (by omega)
