def ck (M : zMem) (n : Int) (kf nf pf : Nat → Int) : zMem := z_up (z_mup (z_mup (z_mup M 33 kf) 35 nf) 34 pf) 32 3 n
section CK
variable {M : zMem} {n x : Int} {kf nf pf : Nat → Int}
theorem ck_3 : ck M n kf nf pf 32 3 = n := by simp [ck, z_up]
theorem ck_o {j : Nat} (h : j ≠ 3) : ck M n kf nf pf 32 j = M 32 j := by simp [ck, z_up, z_mup, h]
theorem ck_33 : ck M n kf nf pf 33 = kf := by funext j; simp [ck, z_up, z_mup]
theorem ck_35 : ck M n kf nf pf 35 = nf := by funext j; simp [ck, z_up, z_mup]
theorem ck_34 : ck M n kf nf pf 34 = pf := by funext j; simp [ck, z_up, z_mup]
theorem ck_ne {i : Nat} (h1 : i ≠ 32) (h2 : i ≠ 33) (h3 : i ≠ 34) (h4 : i ≠ 35) : ck M n kf nf pf i = M i := by funext j; simp [ck, z_up, z_mup, h1, h2, h3, h4]
theorem ck_w3 : z_up (ck M n kf nf pf) 32 3 x = ck M x kf nf pf := by
  funext i j; by_cases h1 : i = 32 <;> by_cases h2 : j = 3 <;> simp [ck, z_up, h1, h2]
theorem ck_w33 {k : Nat} : z_up (ck M n kf nf pf) 33 k x = ck M n (ku kf k x) nf pf := by
  funext i j
  by_cases h1 : i = 33
  · subst h1; by_cases h2 : j = k <;> simp [ck, z_up, z_mup, ku, h2]
  · simp [ck, z_up, z_mup, h1]
theorem ck_w35 {k : Nat} : z_up (ck M n kf nf pf) 35 k x = ck M n kf (ku nf k x) pf := by
  funext i j
  by_cases h1 : i = 35
  · subst h1; by_cases h2 : j = k <;> simp [ck, z_up, z_mup, ku, h2]
  · simp [ck, z_up, z_mup, h1]
theorem ck_w34 {k : Nat} : z_up (ck M n kf nf pf) 34 k x = ck M n kf nf (ku pf k x) := by
  funext i j
  by_cases h1 : i = 34
  · subst h1; by_cases h2 : j = k <;> simp [ck, z_up, z_mup, ku, h2]
  · simp [ck, z_up, z_mup, h1]
theorem ck_init : z_up M 32 3 x = ck M x (M 33) (M 35) (M 34) := by
  funext i j
  by_cases h1 : i = 33
  · subst h1; simp [ck, z_up, z_mup]
  · by_cases h2 : i = 35
    · subst h2; simp [ck, z_up, z_mup]
    · by_cases h3 : i = 34
      · subst h3; simp [ck, z_up, z_mup]
      · simp [ck, z_up, z_mup, h1, h2, h3]
end CK

set_option maxRecDepth 100000 in
set_option maxHeartbeats 4000000 in
theorem c_X6_isLetter {d sz : Nat} {S : zSh} {M : zMem} {x : Int} : zX d 0 0 mX6_isLetter [zi x] sz S M (zI sz S (fun r M' => r = (if 97 ≤ x ∧ x ≤ 122 then 1 else 0) ∧ M' = M)) := by
  refine zX_of pl_RX6 [some (zi x)] 0 rfl rfl ?_
  refine x_iload_n 1 rfl dX6_isLetter_0 0 rfl rfl ?_
  refine x_bipush 3 rfl dX6_isLetter_1 (by decide) ?_
  refine x_icmp_lt 6 16 rfl dX6_isLetter_3 (by decide) (fun c3 => ?_) (fun c3 => ?_)
  · refine x_iconst 17 rfl dX6_isLetter_16 (by decide) ?_
    refine x_retz dX6_isLetter_17 rfl (by omega) ?_
    refine ⟨?_, rfl⟩
    split <;> omega
  · refine x_iload_n 7 rfl dX6_isLetter_6 0 rfl rfl ?_
    refine x_bipush 9 rfl dX6_isLetter_7 (by decide) ?_
    refine x_icmp_gt 12 16 rfl dX6_isLetter_9 (by decide) (fun c9 => ?_) (fun c9 => ?_)
    · refine x_iconst 17 rfl dX6_isLetter_16 (by decide) ?_
      refine x_retz dX6_isLetter_17 rfl (by omega) ?_
      refine ⟨?_, rfl⟩
      split <;> omega
    · refine x_iconst 13 rfl dX6_isLetter_12 (by decide) ?_
      refine x_goto 17 dX6_isLetter_13 (by decide) ?_
      refine x_retz dX6_isLetter_17 rfl (by omega) ?_
      refine ⟨?_, rfl⟩
      split <;> omega

set_option maxRecDepth 100000 in
set_option maxHeartbeats 4000000 in
theorem c_X6_isDigit {d sz : Nat} {S : zSh} {M : zMem} {x : Int} : zX d 0 0 mX6_isDigit [zi x] sz S M (zI sz S (fun r M' => r = (if 48 ≤ x ∧ x ≤ 57 then 1 else 0) ∧ M' = M)) := by
  refine zX_of pl_RX6 [some (zi x)] 0 rfl rfl ?_
  refine x_iload_n 1 rfl dX6_isDigit_0 0 rfl rfl ?_
  refine x_bipush 3 rfl dX6_isDigit_1 (by decide) ?_
  refine x_icmp_lt 6 16 rfl dX6_isDigit_3 (by decide) (fun c3 => ?_) (fun c3 => ?_)
  · refine x_iconst 17 rfl dX6_isDigit_16 (by decide) ?_
    refine x_retz dX6_isDigit_17 rfl (by omega) ?_
    refine ⟨?_, rfl⟩
    split <;> omega
  · refine x_iload_n 7 rfl dX6_isDigit_6 0 rfl rfl ?_
    refine x_bipush 9 rfl dX6_isDigit_7 (by decide) ?_
    refine x_icmp_gt 12 16 rfl dX6_isDigit_9 (by decide) (fun c9 => ?_) (fun c9 => ?_)
    · refine x_iconst 17 rfl dX6_isDigit_16 (by decide) ?_
      refine x_retz dX6_isDigit_17 rfl (by omega) ?_
      refine ⟨?_, rfl⟩
      split <;> omega
    · refine x_iconst 13 rfl dX6_isDigit_12 (by decide) ?_
      refine x_goto 17 dX6_isDigit_13 (by decide) ?_
      refine x_retz dX6_isDigit_17 rfl (by omega) ?_
      refine ⟨?_, rfl⟩
      split <;> omega

set_option maxRecDepth 100000 in
set_option maxHeartbeats 4000000 in
theorem c_X6_note {d sz : Nat} {S : zSh} {M : zMem} (hL : LY S sz) {s : tS} (hs : s.1 ≤ 400) {p k x : Int} : zX d 0 0 mX6_note [zn 32, zi p, zi k, zi x] sz S (ck M (s.1 : Int) s.2.1 s.2.2.1 s.2.2.2) (zU sz S (fun M' => M' = ck M ((s.1 + 1 : Nat) : Int) (ku s.2.1 s.1 k) (ku s.2.2.1 s.1 x) (ku s.2.2.2 s.1 p))) := by
  refine zX_of pl_RX6 [some (zn 32), some (zi p), some (zi k), some (zi x)] 0 rfl rfl ?_
  refine x_aload_n 1 rfl dX6_note_0 0 rfl rfl ?_
  refine x_geti 4 rfl fX6_70 dX6_note_1 (lyl32 hL) (lys32 hL) (by decide) ?_
  try simp (disch := omega) only [z_up_ne, z_up_nk, z_up_eq, z_mup_ne, z_mup_eq, Int.reduceToNat, Int.toNat_natCast, ck_3, ck_o, ck_33, ck_34, ck_35, ck_ne, ck_w3, ck_w33, ck_w34, ck_w35]
  refine x_aload_n 5 rfl dX6_note_4 0 rfl rfl ?_
  refine x_getr 8 rfl fX6_9 dX6_note_5 (lyl32 hL) (lys32 hL) (by decide) (33) rfl ?_
  refine x_alen (t := 0) 9 rfl dX6_note_8 (lyl33 hL) (lys33 hL) (Or.inl rfl) (by decide) ?_
  refine x_icmp_ge 12 52 rfl dX6_note_9 (by decide) (fun c9 => ?_) (fun c9 => ?_)
  · exfalso; omega
  · refine x_aload_n 13 rfl dX6_note_12 0 rfl rfl ?_
    refine x_getr 16 rfl fX6_15 dX6_note_13 (lyl32 hL) (lys32 hL) (by decide) (34) rfl ?_
    refine x_aload_n 17 rfl dX6_note_16 0 rfl rfl ?_
    refine x_geti 20 rfl fX6_70 dX6_note_17 (lyl32 hL) (lys32 hL) (by decide) ?_
    try simp (disch := omega) only [z_up_ne, z_up_nk, z_up_eq, z_mup_ne, z_mup_eq, Int.reduceToNat, Int.toNat_natCast, ck_3, ck_o, ck_33, ck_34, ck_35, ck_ne, ck_w3, ck_w33, ck_w34, ck_w35]
    refine x_iload_n 21 rfl dX6_note_20 1 rfl rfl ?_
    refine x_iast 22 rfl dX6_note_21 (lyl34 hL) (lys34 hL) (by omega) (by omega) ?_
    try simp only [ck_3, ck_o, ck_33, ck_34, ck_35, ck_ne, ck_w3, ck_w33, ck_w34, ck_w35]
    refine x_aload_n 23 rfl dX6_note_22 0 rfl rfl ?_
    refine x_getr 26 rfl fX6_9 dX6_note_23 (lyl32 hL) (lys32 hL) (by decide) (33) rfl ?_
    refine x_aload_n 27 rfl dX6_note_26 0 rfl rfl ?_
    refine x_geti 30 rfl fX6_70 dX6_note_27 (lyl32 hL) (lys32 hL) (by decide) ?_
    try simp (disch := omega) only [z_up_ne, z_up_nk, z_up_eq, z_mup_ne, z_mup_eq, Int.reduceToNat, Int.toNat_natCast, ck_3, ck_o, ck_33, ck_34, ck_35, ck_ne, ck_w3, ck_w33, ck_w34, ck_w35]
    refine x_iload_n 31 rfl dX6_note_30 2 rfl rfl ?_
    refine x_iast 32 rfl dX6_note_31 (lyl33 hL) (lys33 hL) (by omega) (by omega) ?_
    try simp only [ck_3, ck_o, ck_33, ck_34, ck_35, ck_ne, ck_w3, ck_w33, ck_w34, ck_w35]
    refine x_aload_n 33 rfl dX6_note_32 0 rfl rfl ?_
    refine x_getr 36 rfl fX6_18 dX6_note_33 (lyl32 hL) (lys32 hL) (by decide) (35) rfl ?_
    refine x_aload_n 37 rfl dX6_note_36 0 rfl rfl ?_
    refine x_geti 40 rfl fX6_70 dX6_note_37 (lyl32 hL) (lys32 hL) (by decide) ?_
    try simp (disch := omega) only [z_up_ne, z_up_nk, z_up_eq, z_mup_ne, z_mup_eq, Int.reduceToNat, Int.toNat_natCast, ck_3, ck_o, ck_33, ck_34, ck_35, ck_ne, ck_w3, ck_w33, ck_w34, ck_w35]
    refine x_iload_n 41 rfl dX6_note_40 3 rfl rfl ?_
    refine x_iast 42 rfl dX6_note_41 (lyl35 hL) (lys35 hL) (by omega) (by omega) ?_
    try simp only [ck_3, ck_o, ck_33, ck_34, ck_35, ck_ne, ck_w3, ck_w33, ck_w34, ck_w35]
    refine x_aload_n 43 rfl dX6_note_42 0 rfl rfl ?_
    refine x_dupr 44 rfl dX6_note_43 ?_
    refine x_geti 47 rfl fX6_70 dX6_note_44 (lyl32 hL) (lys32 hL) (by decide) ?_
    try simp (disch := omega) only [z_up_ne, z_up_nk, z_up_eq, z_mup_ne, z_mup_eq, Int.reduceToNat, Int.toNat_natCast, ck_3, ck_o, ck_33, ck_34, ck_35, ck_ne, ck_w3, ck_w33, ck_w34, ck_w35]
    refine x_iconst 48 rfl dX6_note_47 (by decide) ?_
    refine y_iadd 49 rfl dX6_note_48 (by omega) ?_
    refine x_puti 52 rfl fX6_70 dX6_note_49 (lyl32 hL) (lys32 hL) (by decide) ?_
    try simp only [ck_3, ck_o, ck_33, ck_34, ck_35, ck_ne, ck_w3, ck_w33, ck_w34, ck_w35]
    rw [show (s.1 : Int) + 1 = ((s.1 + 1 : Nat) : Int) by omega]
    refine x_retu dX6_note_52 rfl ?_
    rfl
