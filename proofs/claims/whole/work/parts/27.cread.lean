/-! THE CLASS READS: next, fault, parts, brackets; used, code -/
def cr (M : zMem) (t fl pa br u : Int) (cd : Nat → Int) : zMem := z_mup (z_up (z_up (z_up (z_up (z_up M 32 4 t) 32 5 fl) 32 6 pa) 32 7 br) 36 1 u) 38 cd
section CR
variable {M : zMem} {t fl pa br u x : Int} {cd : Nat → Int}
theorem cr_4 : cr M t fl pa br u cd 32 4 = t := by simp [cr, z_up, z_mup]
theorem cr_5 : cr M t fl pa br u cd 32 5 = fl := by simp [cr, z_up, z_mup]
theorem cr_6 : cr M t fl pa br u cd 32 6 = pa := by simp [cr, z_up, z_mup]
theorem cr_7 : cr M t fl pa br u cd 32 7 = br := by simp [cr, z_up, z_mup]
theorem cr_o {j : Nat} (h1 : j ≠ 4) (h2 : j ≠ 5) (h3 : j ≠ 6) (h4 : j ≠ 7) : cr M t fl pa br u cd 32 j = M 32 j := by simp [cr, z_up, z_mup, h1, h2, h3, h4]
theorem cr_u : cr M t fl pa br u cd 36 1 = u := by simp [cr, z_up, z_mup]
theorem cr_uo {j : Nat} (h : j ≠ 1) : cr M t fl pa br u cd 36 j = M 36 j := by simp [cr, z_up, z_mup, h]
theorem cr_c : cr M t fl pa br u cd 38 = cd := by funext j; simp [cr, z_mup]
theorem cr_ne {i : Nat} (h1 : i ≠ 32) (h2 : i ≠ 36) (h3 : i ≠ 38) : cr M t fl pa br u cd i = M i := by funext j; simp [cr, z_up, z_mup, h1, h2, h3]
theorem cr_w4 : z_up (cr M t fl pa br u cd) 32 4 x = cr M x fl pa br u cd := by
  funext i j
  by_cases h : i = 38
  · subst h; simp [cr, z_up, z_mup]
  · by_cases h4 : j = 4 <;> by_cases h1 : i = 32 <;> simp [cr, z_up, z_mup, h, h1, h4]
theorem cr_w5 : z_up (cr M t fl pa br u cd) 32 5 x = cr M t x pa br u cd := by
  funext i j
  by_cases h : i = 38
  · subst h; simp [cr, z_up, z_mup]
  · by_cases h4 : j = 5 <;> by_cases h1 : i = 32 <;> simp [cr, z_up, z_mup, h, h1, h4]
theorem cr_w6 : z_up (cr M t fl pa br u cd) 32 6 x = cr M t fl x br u cd := by
  funext i j
  by_cases h : i = 38
  · subst h; simp [cr, z_up, z_mup]
  · by_cases h4 : j = 6 <;> by_cases h1 : i = 32 <;> simp [cr, z_up, z_mup, h, h1, h4]
theorem cr_w7 : z_up (cr M t fl pa br u cd) 32 7 x = cr M t fl pa x u cd := by
  funext i j
  by_cases h : i = 38
  · subst h; simp [cr, z_up, z_mup]
  · by_cases h4 : j = 7 <;> by_cases h1 : i = 32 <;> simp [cr, z_up, z_mup, h, h1, h4]
theorem cr_wu : z_up (cr M t fl pa br u cd) 36 1 x = cr M t fl pa br x cd := by
  funext i j
  by_cases h : i = 38
  · subst h; simp [cr, z_up, z_mup]
  · by_cases h4 : j = 1 <;> by_cases h1 : i = 36 <;> simp [cr, z_up, z_mup, h, h1, h4]
theorem cr_wc {k : Nat} : z_up (cr M t fl pa br u cd) 38 k x = cr M t fl pa br u (ku cd k x) := by
  funext i j
  by_cases h : i = 38
  · subst h; by_cases h4 : j = k <;> simp [cr, z_up, z_mup, ku, h4]
  · simp [cr, z_up, z_mup, h]
end CR
def g_pa (s : gS) : gS := (s.1, s.2.1 + 1, s.2.2)
theorem cr_ad {M : zMem} {br : Int} (s : gS) : cr M ((s.1 : Int) + 1) (-1) (s.2.1 : Int) br (s.2.2.1 : Int) s.2.2.2 = cr M ((g_ad s).1 : Int) (-1) ((g_ad s).2.1 : Int) br ((g_ad s).2.2.1 : Int) (g_ad s).2.2.2 := by simp [g_ad]
theorem cr_pa {M : zMem} {br : Int} (s : gS) : cr M (s.1 : Int) (-1) ((s.2.1 : Int) + 1) br (s.2.2.1 : Int) s.2.2.2 = cr M ((g_pa s).1 : Int) (-1) ((g_pa s).2.1 : Int) br ((g_pa s).2.2.1 : Int) (g_pa s).2.2.2 := by simp [g_pa]
theorem cr_em {M : zMem} {br x : Int} (s : gS) : cr M (s.1 : Int) (-1) (s.2.1 : Int) br ((s.2.2.1 : Int) + 1) (ku s.2.2.2 s.2.2.1 x) = cr M ((g_em s x).1 : Int) (-1) ((g_em s x).2.1 : Int) br ((g_em s x).2.2.1 : Int) (g_em s x).2.2.2 := by simp [g_em]
def cro (M : zMem) (br : Int) (res : gR) (M' : zMem) : Prop := match res with
  | .inr q => M' = cr M (q.1.1 : Int) (-1) (q.1.2.1 : Int) br (q.1.2.2.1 : Int) q.1.2.2.2
  | .inl t => ∃ (x y u : Int) (cd : Nat → Int), (0 ≤ u ∧ u ≤ 400) ∧ M' = cr M x (M 34 t) y br u cd
/-- the class's tokens are the reference's -/
def CKr (M : zMem) (c v : Nat → Int) (n : Nat) : Prop := M 32 3 = (n : Int) + 1 ∧ ∀ i, i ≤ n → (M 33 i = kap (c i) ∨ (i = n ∧ M 33 i = 32)) ∧ M 35 i = min 1001 (v i) ∧ 0 ≤ M 34 i
def KP (K C : Int) : Prop := K ≠ 32 ∧ C ≠ 0 ∧ ∀ x : Nat, x < 356 → (kap x = K ↔ (x : Int) = C)
theorem kst {M : zMem} {c v : Nat → Int} {n t : Nat} {K C : Int} (hT : TK c v n) (hC : CKr M c v n) (ht : t ≤ n) (hp : KP K C) : M 33 t = K ↔ c t = C := by
  have h1 := hT.2.2.1 t ht
  rcases (hC.2 t ht).1 with h | ⟨h2, h3⟩
  · rw [h]
    have h4 := hp.2.2 (c t).toNat (by omega)
    rw [Int.toNat_of_nonneg h1.1] at h4
    exact h4
  · subst h2
    rw [h3, hT.2.1]
    exact ⟨fun h => absurd h.symm hp.1, fun h => absurd h.symm hp.2.1⟩

theorem kp191 : KP 191 191 := ⟨by decide, by decide, by decide +kernel⟩
theorem kp193 : KP 193 193 := ⟨by decide, by decide, by decide +kernel⟩
theorem kp140 : KP 140 140 := ⟨by decide, by decide, by decide +kernel⟩
theorem kp141 : KP 141 141 := ⟨by decide, by decide, by decide +kernel⟩
theorem kp143 : KP 143 143 := ⟨by decide, by decide, by decide +kernel⟩
theorem kp145 : KP 145 145 := ⟨by decide, by decide, by decide +kernel⟩
theorem kp142 : KP 142 142 := ⟨by decide, by decide, by decide +kernel⟩
theorem kp147 : KP 147 147 := ⟨by decide, by decide, by decide +kernel⟩
theorem kp137 : KP 137 137 := ⟨by decide, by decide, by decide +kernel⟩
theorem kp160 : KP 160 160 := ⟨by decide, by decide, by decide +kernel⟩
theorem kp161 : KP 161 161 := ⟨by decide, by decide, by decide +kernel⟩
theorem kp162 : KP 162 162 := ⟨by decide, by decide, by decide +kernel⟩
theorem kp159 : KP 159 159 := ⟨by decide, by decide, by decide +kernel⟩
theorem kp26 : KP 26 7 := ⟨by decide, by decide, by decide +kernel⟩
theorem kp25 : KP 25 6 := ⟨by decide, by decide, by decide +kernel⟩
theorem kp24 : KP 24 5 := ⟨by decide, by decide, by decide +kernel⟩
theorem kp31 : KP 31 50 := ⟨by decide, by decide, by decide +kernel⟩
theorem kp23 : KP 23 4 := ⟨by decide, by decide, by decide +kernel⟩
theorem kp22 : KP 22 27 := ⟨by decide, by decide, by decide +kernel⟩
theorem kp20 : KP 20 22 := ⟨by decide, by decide, by decide +kernel⟩
theorem kp21 : KP 21 25 := ⟨by decide, by decide, by decide +kernel⟩
set_option maxRecDepth 100000 in
set_option maxHeartbeats 4000000 in
theorem c_X6_stands1 {d sz : Nat} {S : zSh} {M : zMem} (hL : LY S sz) {n : Nat} {c v : Nat → Int} (hT : TK c v n) (hC : CKr M c v n) {s : gS} (hs : s.1 ≤ n) {br K C : Int} (hp : KP K C) : zX d 0 0 mX6_stands [zn 32, zi K] sz S (cr M (s.1 : Int) (-1) (s.2.1 : Int) br (s.2.2.1 : Int) s.2.2.2) (zI sz S (fun r M' => (c s.1 = C ∧ r = 1 ∧ M' = (cr M (s.1 : Int) (-1) (s.2.1 : Int) br (s.2.2.1 : Int) s.2.2.2)) ∨ (c s.1 ≠ C ∧ r = 0 ∧ M' = (cr M (s.1 : Int) (-1) (s.2.1 : Int) br (s.2.2.1 : Int) s.2.2.2)))) := by
  have hk := kst hT hC hs hp
  have h3 := hC.1
  have hn := hT.1
  refine zX_of pl_RX6 [some (zn 32), some (zi K)] 0 rfl rfl ?_
  refine x_aload_n 1 rfl dX6_stands_0 0 rfl rfl ?_
  refine x_geti 4 rfl fX6_51 dX6_stands_1 (lyl32 hL) (lys32 hL) (by decide) ?_
  try simp (disch := omega) only [z_up_ne, z_up_nk, z_up_eq, z_mup_ne, z_mup_eq, Int.reduceToNat, Int.toNat_natCast, cr_4, cr_5, cr_6, cr_7, cr_o, cr_u, cr_uo, cr_c, cr_ne, cr_w4, cr_w5, cr_w6, cr_w7, cr_wu, cr_wc]
  refine x_iconst 5 rfl dX6_stands_4 (by decide) ?_
  refine x_icmp_ne 8 36 rfl dX6_stands_5 (by decide) (fun c5 => ?_) (fun c5 => ?_)
  · exfalso; omega
  · refine x_aload_n 9 rfl dX6_stands_8 0 rfl rfl ?_
    refine x_geti 12 rfl fX6_47 dX6_stands_9 (lyl32 hL) (lys32 hL) (by decide) ?_
    try simp (disch := omega) only [z_up_ne, z_up_nk, z_up_eq, z_mup_ne, z_mup_eq, Int.reduceToNat, Int.toNat_natCast, cr_4, cr_5, cr_6, cr_7, cr_o, cr_u, cr_uo, cr_c, cr_ne, cr_w4, cr_w5, cr_w6, cr_w7, cr_wu, cr_wc]
    refine x_aload_n 13 rfl dX6_stands_12 0 rfl rfl ?_
    refine x_geti 16 rfl fX6_70 dX6_stands_13 (lyl32 hL) (lys32 hL) (by decide) ?_
    try simp (disch := omega) only [z_up_ne, z_up_nk, z_up_eq, z_mup_ne, z_mup_eq, Int.reduceToNat, Int.toNat_natCast, cr_4, cr_5, cr_6, cr_7, cr_o, cr_u, cr_uo, cr_c, cr_ne, cr_w4, cr_w5, cr_w6, cr_w7, cr_wu, cr_wc]
    refine x_icmp_ge 19 36 rfl dX6_stands_16 (by decide) (fun c16 => ?_) (fun c16 => ?_)
    · exfalso; omega
    · refine x_aload_n 20 rfl dX6_stands_19 0 rfl rfl ?_
      refine x_getr 23 rfl fX6_9 dX6_stands_20 (lyl32 hL) (lys32 hL) (by decide) (33) rfl ?_
      refine x_aload_n 24 rfl dX6_stands_23 0 rfl rfl ?_
      refine x_geti 27 rfl fX6_47 dX6_stands_24 (lyl32 hL) (lys32 hL) (by decide) ?_
      try simp (disch := omega) only [z_up_ne, z_up_nk, z_up_eq, z_mup_ne, z_mup_eq, Int.reduceToNat, Int.toNat_natCast, cr_4, cr_5, cr_6, cr_7, cr_o, cr_u, cr_uo, cr_c, cr_ne, cr_w4, cr_w5, cr_w6, cr_w7, cr_wu, cr_wc]
      refine x_iald 28 rfl dX6_stands_27 (lyl33 hL) (lys33 hL) (by omega) (by omega) ?_
      try simp (disch := omega) only [z_up_ne, z_up_nk, z_up_eq, z_mup_ne, z_mup_eq, Int.reduceToNat, Int.toNat_natCast, cr_4, cr_5, cr_6, cr_7, cr_o, cr_u, cr_uo, cr_c, cr_ne, cr_w4, cr_w5, cr_w6, cr_w7, cr_wu, cr_wc]
      refine x_iload_n 29 rfl dX6_stands_28 1 rfl rfl ?_
      refine x_icmp_ne 32 36 rfl dX6_stands_29 (by decide) (fun c29 => ?_) (fun c29 => ?_)
      · refine x_iconst 37 rfl dX6_stands_36 (by decide) ?_
        refine x_retz dX6_stands_37 rfl (by omega) ?_
        right; exact ⟨fun h => c29 (hk.mpr h), rfl, rfl⟩
      · refine x_iconst 33 rfl dX6_stands_32 (by decide) ?_
        refine x_goto 37 dX6_stands_33 (by decide) ?_
        refine x_retz dX6_stands_37 rfl (by omega) ?_
        left; exact ⟨hk.mp (by omega), rfl, rfl⟩

set_option maxRecDepth 100000 in
set_option maxHeartbeats 4000000 in
theorem c_X6_stands0 {d sz : Nat} {S : zSh} {M : zMem} (hL : LY S sz) {t fl pa br u : Int} {cd : Nat → Int} (hf : fl ≠ -1) {K : Int} : zX d 0 0 mX6_stands [zn 32, zi K] sz S (cr M t fl pa br u cd) (zI sz S (fun r M' => r = 0 ∧ M' = (cr M t fl pa br u cd))) := by
  refine zX_of pl_RX6 [some (zn 32), some (zi K)] 0 rfl rfl ?_
  refine x_aload_n 1 rfl dX6_stands_0 0 rfl rfl ?_
  refine x_geti 4 rfl fX6_51 dX6_stands_1 (lyl32 hL) (lys32 hL) (by decide) ?_
  try simp (disch := omega) only [z_up_ne, z_up_nk, z_up_eq, z_mup_ne, z_mup_eq, Int.reduceToNat, Int.toNat_natCast, cr_4, cr_5, cr_6, cr_7, cr_o, cr_u, cr_uo, cr_c, cr_ne, cr_w4, cr_w5, cr_w6, cr_w7, cr_wu, cr_wc]
  refine x_iconst 5 rfl dX6_stands_4 (by decide) ?_
  refine x_icmp_ne 8 36 rfl dX6_stands_5 (by decide) (fun c5 => ?_) (fun c5 => ?_)
  · refine x_iconst 37 rfl dX6_stands_36 (by decide) ?_
    refine x_retz dX6_stands_37 rfl (by omega) ?_
    exact ⟨rfl, rfl⟩
  · exfalso; omega

set_option maxRecDepth 100000 in
set_option maxHeartbeats 4000000 in
theorem c_X6_fail1 {d sz : Nat} {S : zSh} {M : zMem} (hL : LY S sz) {n : Nat} {c v : Nat → Int} (hT : TK c v n) (hC : CKr M c v n) {s : gS} (hs : s.1 ≤ n) {br : Int} : zX d 0 0 mX6_fail [zn 32] sz S (cr M (s.1 : Int) (-1) (s.2.1 : Int) br (s.2.2.1 : Int) s.2.2.2) (zU sz S (fun M' => M' = (cr M (s.1 : Int) (M 34 s.1) (s.2.1 : Int) br (s.2.2.1 : Int) s.2.2.2))) := by
  have h3 := hC.1
  have hn := hT.1
  refine zX_of pl_RX6 [some (zn 32)] 0 rfl rfl ?_
  refine x_aload_n 1 rfl dX6_fail_0 0 rfl rfl ?_
  refine x_geti 4 rfl fX6_51 dX6_fail_1 (lyl32 hL) (lys32 hL) (by decide) ?_
  try simp (disch := omega) only [z_up_ne, z_up_nk, z_up_eq, z_mup_ne, z_mup_eq, Int.reduceToNat, Int.toNat_natCast, cr_4, cr_5, cr_6, cr_7, cr_o, cr_u, cr_uo, cr_c, cr_ne, cr_w4, cr_w5, cr_w6, cr_w7, cr_wu, cr_wc]
  refine x_iconst 5 rfl dX6_fail_4 (by decide) ?_
  refine x_icmp_ne 8 36 rfl dX6_fail_5 (by decide) (fun c5 => ?_) (fun c5 => ?_)
  · exfalso; omega
  · refine x_aload_n 9 rfl dX6_fail_8 0 rfl rfl ?_
    refine x_aload_n 10 rfl dX6_fail_9 0 rfl rfl ?_
    refine x_geti 13 rfl fX6_47 dX6_fail_10 (lyl32 hL) (lys32 hL) (by decide) ?_
    try simp (disch := omega) only [z_up_ne, z_up_nk, z_up_eq, z_mup_ne, z_mup_eq, Int.reduceToNat, Int.toNat_natCast, cr_4, cr_5, cr_6, cr_7, cr_o, cr_u, cr_uo, cr_c, cr_ne, cr_w4, cr_w5, cr_w6, cr_w7, cr_wu, cr_wc]
    refine x_aload_n 14 rfl dX6_fail_13 0 rfl rfl ?_
    refine x_geti 17 rfl fX6_70 dX6_fail_14 (lyl32 hL) (lys32 hL) (by decide) ?_
    try simp (disch := omega) only [z_up_ne, z_up_nk, z_up_eq, z_mup_ne, z_mup_eq, Int.reduceToNat, Int.toNat_natCast, cr_4, cr_5, cr_6, cr_7, cr_o, cr_u, cr_uo, cr_c, cr_ne, cr_w4, cr_w5, cr_w6, cr_w7, cr_wu, cr_wc]
    refine x_icmp_ge 20 32 rfl dX6_fail_17 (by decide) (fun c17 => ?_) (fun c17 => ?_)
    · exfalso; omega
    · refine x_aload_n 21 rfl dX6_fail_20 0 rfl rfl ?_
      refine x_getr 24 rfl fX6_15 dX6_fail_21 (lyl32 hL) (lys32 hL) (by decide) (34) rfl ?_
      refine x_aload_n 25 rfl dX6_fail_24 0 rfl rfl ?_
      refine x_geti 28 rfl fX6_47 dX6_fail_25 (lyl32 hL) (lys32 hL) (by decide) ?_
      try simp (disch := omega) only [z_up_ne, z_up_nk, z_up_eq, z_mup_ne, z_mup_eq, Int.reduceToNat, Int.toNat_natCast, cr_4, cr_5, cr_6, cr_7, cr_o, cr_u, cr_uo, cr_c, cr_ne, cr_w4, cr_w5, cr_w6, cr_w7, cr_wu, cr_wc]
      refine x_iald 29 rfl dX6_fail_28 (lyl34 hL) (lys34 hL) (by omega) (by omega) ?_
      try simp (disch := omega) only [z_up_ne, z_up_nk, z_up_eq, z_mup_ne, z_mup_eq, Int.reduceToNat, Int.toNat_natCast, cr_4, cr_5, cr_6, cr_7, cr_o, cr_u, cr_uo, cr_c, cr_ne, cr_w4, cr_w5, cr_w6, cr_w7, cr_wu, cr_wc]
      refine x_goto 33 dX6_fail_29 (by decide) ?_
      refine x_puti 36 rfl fX6_51 dX6_fail_33 (lyl32 hL) (lys32 hL) (by decide) ?_
      try simp only [cr_4, cr_5, cr_6, cr_7, cr_o, cr_u, cr_uo, cr_c, cr_ne, cr_w4, cr_w5, cr_w6, cr_w7, cr_wu, cr_wc]
      refine x_retu dX6_fail_36 rfl ?_
      rfl

set_option maxRecDepth 100000 in
set_option maxHeartbeats 4000000 in
theorem c_X6_fail0 {d sz : Nat} {S : zSh} {M : zMem} (hL : LY S sz) {t fl pa br u : Int} {cd : Nat → Int} (hf : fl ≠ -1)  : zX d 0 0 mX6_fail [zn 32] sz S (cr M t fl pa br u cd) (zU sz S (fun M' => M' = (cr M t fl pa br u cd))) := by
  refine zX_of pl_RX6 [some (zn 32)] 0 rfl rfl ?_
  refine x_aload_n 1 rfl dX6_fail_0 0 rfl rfl ?_
  refine x_geti 4 rfl fX6_51 dX6_fail_1 (lyl32 hL) (lys32 hL) (by decide) ?_
  try simp (disch := omega) only [z_up_ne, z_up_nk, z_up_eq, z_mup_ne, z_mup_eq, Int.reduceToNat, Int.toNat_natCast, cr_4, cr_5, cr_6, cr_7, cr_o, cr_u, cr_uo, cr_c, cr_ne, cr_w4, cr_w5, cr_w6, cr_w7, cr_wu, cr_wc]
  refine x_iconst 5 rfl dX6_fail_4 (by decide) ?_
  refine x_icmp_ne 8 36 rfl dX6_fail_5 (by decide) (fun c5 => ?_) (fun c5 => ?_)
  · refine x_retu dX6_fail_36 rfl ?_
    rfl
  · exfalso; omega

set_option maxRecDepth 100000 in
set_option maxHeartbeats 4000000 in
theorem c_X6_take1 {d sz : Nat} {S : zSh} {M : zMem} (hL : LY S sz) {n : Nat} {c v : Nat → Int} (hT : TK c v n) (hC : CKr M c v n) {s : gS} (hs : s.1 ≤ n) {br K C : Int} (hp : KP K C) : zX (d + 1) 0 0 mX6_take [zn 32, zi K] sz S (cr M (s.1 : Int) (-1) (s.2.1 : Int) br (s.2.2.1 : Int) s.2.2.2) (zU sz S (fun M' => (c s.1 = C ∧ M' = (cr M ((g_ad s).1 : Int) (-1) ((g_ad s).2.1 : Int) br ((g_ad s).2.2.1 : Int) (g_ad s).2.2.2)) ∨ (c s.1 ≠ C ∧ M' = (cr M (s.1 : Int) (M 34 s.1) (s.2.1 : Int) br (s.2.2.1 : Int) s.2.2.2)))) := by
  have hn := hT.1
  refine zX_of pl_RX6 [some (zn 32), some (zi K)] 0 rfl rfl ?_
  refine x_aload_n 1 rfl dX6_take_0 0 rfl rfl ?_
  refine x_iload_n 2 rfl dX6_take_1 1 rfl rfl ?_
  refine x_cVi 5 rfl lX6_66 dX6_take_2 (lyl32 hL) (lys32 hL) (c_X6_stands1 hL hT hC hs hp) rfl rfl (Nat.le_of_ble_eq_true rfl) (fun r M1 hr1 => ?_)
  rcases hr1 with ⟨hx, rfl, hM1⟩ | ⟨hx, rfl, hM1⟩
  · rw [hM1]
    refine x_if_eq 8 21 rfl dX6_take_5 (by decide) (fun c5 => ?_) (fun c5 => ?_)
    · exfalso; omega
    · refine x_aload_n 9 rfl dX6_take_8 0 rfl rfl ?_
      refine x_dupr 10 rfl dX6_take_9 ?_
      refine x_geti 13 rfl fX6_47 dX6_take_10 (lyl32 hL) (lys32 hL) (by decide) ?_
      try simp (disch := omega) only [z_up_ne, z_up_nk, z_up_eq, z_mup_ne, z_mup_eq, Int.reduceToNat, Int.toNat_natCast, cr_4, cr_5, cr_6, cr_7, cr_o, cr_u, cr_uo, cr_c, cr_ne, cr_w4, cr_w5, cr_w6, cr_w7, cr_wu, cr_wc]
      refine x_iconst 14 rfl dX6_take_13 (by decide) ?_
      refine y_iadd 15 rfl dX6_take_14 (by omega) ?_
      refine x_puti 18 rfl fX6_47 dX6_take_15 (lyl32 hL) (lys32 hL) (by decide) ?_
      try simp only [cr_4, cr_5, cr_6, cr_7, cr_o, cr_u, cr_uo, cr_c, cr_ne, cr_w4, cr_w5, cr_w6, cr_w7, cr_wu, cr_wc]
      rw [cr_ad s]
      refine x_goto 25 dX6_take_18 (by decide) ?_
      refine x_retu dX6_take_25 rfl ?_
      left; exact ⟨hx, rfl⟩
  · rw [hM1]
    refine x_if_eq 8 21 rfl dX6_take_5 (by decide) (fun c5 => ?_) (fun c5 => ?_)
    · refine x_aload_n 22 rfl dX6_take_21 0 rfl rfl ?_
      refine x_cVu 25 rfl lX6_60 dX6_take_22 (lyl32 hL) (lys32 hL) (c_X6_fail1 hL hT hC hs) rfl rfl (Nat.le_of_ble_eq_true rfl) (fun M1 hM1 => ?_)
      rw [hM1]
      refine x_retu dX6_take_25 rfl ?_
      right; exact ⟨hx, rfl⟩
    · exfalso; omega

set_option maxRecDepth 100000 in
set_option maxHeartbeats 4000000 in
theorem c_X6_take0 {d sz : Nat} {S : zSh} {M : zMem} (hL : LY S sz) {t fl pa br u : Int} {cd : Nat → Int} (hf : fl ≠ -1) {K : Int} : zX (d + 1) 0 0 mX6_take [zn 32, zi K] sz S (cr M t fl pa br u cd) (zU sz S (fun M' => M' = (cr M t fl pa br u cd))) := by
  refine zX_of pl_RX6 [some (zn 32), some (zi K)] 0 rfl rfl ?_
  refine x_aload_n 1 rfl dX6_take_0 0 rfl rfl ?_
  refine x_iload_n 2 rfl dX6_take_1 1 rfl rfl ?_
  refine x_cVi 5 rfl lX6_66 dX6_take_2 (lyl32 hL) (lys32 hL) (c_X6_stands0 hL hf) rfl rfl (Nat.le_of_ble_eq_true rfl) (fun r M1 hr1 => ?_)
  obtain ⟨rfl, hM1⟩ := hr1
  rw [hM1]
  refine x_if_eq 8 21 rfl dX6_take_5 (by decide) (fun c5 => ?_) (fun c5 => ?_)
  · refine x_aload_n 22 rfl dX6_take_21 0 rfl rfl ?_
    refine x_cVu 25 rfl lX6_60 dX6_take_22 (lyl32 hL) (lys32 hL) (c_X6_fail0 hL hf) rfl rfl (Nat.le_of_ble_eq_true rfl) (fun M1 hM1 => ?_)
    rw [hM1]
    refine x_retu dX6_take_25 rfl ?_
    rfl
  · exfalso; omega

set_option maxRecDepth 100000 in
set_option maxHeartbeats 4000000 in
theorem c_X9_em1 {d sz : Nat} {S : zSh} {M : zMem} (hL : LY S sz) {s : gS} {br p w : Int} (hu : s.2.2.1 < 400) (hp : 0 ≤ p ∧ p < 16) (hw : 0 ≤ w ∧ w ≤ 2000) : zX d 0 0 mX9_emit [zn 36, zi p, zi w] sz S (cr M (s.1 : Int) (-1) (s.2.1 : Int) br (s.2.2.1 : Int) s.2.2.2) (zU sz S (fun M' => M' = (cr M ((g_em s (p + 16 * w)).1 : Int) (-1) ((g_em s (p + 16 * w)).2.1 : Int) br ((g_em s (p + 16 * w)).2.2.1 : Int) (g_em s (p + 16 * w)).2.2.2))) := by
  refine zX_of pl_RX9 [some (zn 36), some (zi p), some (zi w)] 0 rfl rfl ?_
  refine x_aload_n 1 rfl dX9_emit_0 0 rfl rfl ?_
  refine x_geti 4 rfl fX9_22 dX9_emit_1 (lyl36 hL) (lys36 hL) (by decide) ?_
  try simp (disch := omega) only [z_up_ne, z_up_nk, z_up_eq, z_mup_ne, z_mup_eq, Int.reduceToNat, Int.toNat_natCast, cr_4, cr_5, cr_6, cr_7, cr_o, cr_u, cr_uo, cr_c, cr_ne, cr_w4, cr_w5, cr_w6, cr_w7, cr_wu, cr_wc]
  refine x_aload_n 5 rfl dX9_emit_4 0 rfl rfl ?_
  refine x_getr 8 rfl fX9_15 dX9_emit_5 (lyl36 hL) (lys36 hL) (by decide) (38) rfl ?_
  refine x_alen (t := 0) 9 rfl dX9_emit_8 (lyl38 hL) (lys38 hL) (Or.inl rfl) (by decide) ?_
  refine x_icmp_ge 12 37 rfl dX9_emit_9 (by decide) (fun c9 => ?_) (fun c9 => ?_)
  · exfalso; omega
  · refine x_aload_n 13 rfl dX9_emit_12 0 rfl rfl ?_
    refine x_getr 16 rfl fX9_15 dX9_emit_13 (lyl36 hL) (lys36 hL) (by decide) (38) rfl ?_
    refine x_aload_n 17 rfl dX9_emit_16 0 rfl rfl ?_
    refine x_geti 20 rfl fX9_22 dX9_emit_17 (lyl36 hL) (lys36 hL) (by decide) ?_
    try simp (disch := omega) only [z_up_ne, z_up_nk, z_up_eq, z_mup_ne, z_mup_eq, Int.reduceToNat, Int.toNat_natCast, cr_4, cr_5, cr_6, cr_7, cr_o, cr_u, cr_uo, cr_c, cr_ne, cr_w4, cr_w5, cr_w6, cr_w7, cr_wu, cr_wc]
    refine x_iload_n 21 rfl dX9_emit_20 1 rfl rfl ?_
    refine x_bipush 23 rfl dX9_emit_21 (by decide) ?_
    refine x_iload_n 24 rfl dX9_emit_23 2 rfl rfl ?_
    refine y_imul 25 rfl dX9_emit_24 (by omega) ?_
    refine y_iadd 26 rfl dX9_emit_25 (by omega) ?_
    refine x_iast 27 rfl dX9_emit_26 (lyl38 hL) (lys38 hL) (by omega) (by omega) ?_
    try simp only [cr_4, cr_5, cr_6, cr_7, cr_o, cr_u, cr_uo, cr_c, cr_ne, cr_w4, cr_w5, cr_w6, cr_w7, cr_wu, cr_wc]
    refine x_aload_n 28 rfl dX9_emit_27 0 rfl rfl ?_
    refine x_dupr 29 rfl dX9_emit_28 ?_
    refine x_geti 32 rfl fX9_22 dX9_emit_29 (lyl36 hL) (lys36 hL) (by decide) ?_
    try simp (disch := omega) only [z_up_ne, z_up_nk, z_up_eq, z_mup_ne, z_mup_eq, Int.reduceToNat, Int.toNat_natCast, cr_4, cr_5, cr_6, cr_7, cr_o, cr_u, cr_uo, cr_c, cr_ne, cr_w4, cr_w5, cr_w6, cr_w7, cr_wu, cr_wc]
    refine x_iconst 33 rfl dX9_emit_32 (by decide) ?_
    refine y_iadd 34 rfl dX9_emit_33 (by omega) ?_
    refine x_puti 37 rfl fX9_22 dX9_emit_34 (lyl36 hL) (lys36 hL) (by decide) ?_
    try simp only [cr_4, cr_5, cr_6, cr_7, cr_o, cr_u, cr_uo, cr_c, cr_ne, cr_w4, cr_w5, cr_w6, cr_w7, cr_wu, cr_wc]
    rw [cr_em s]
    refine x_retu dX9_emit_37 rfl ?_
    rfl

set_option maxRecDepth 100000 in
set_option maxHeartbeats 4000000 in
theorem c_X9_em0 {d sz : Nat} {S : zSh} {M : zMem} (hL : LY S sz) {t fl pa br u p w : Int} {cd : Nat → Int} (hu : 0 ≤ u ∧ u ≤ 400) (hp : 0 ≤ p ∧ p < 16) (hw : 0 ≤ w ∧ w ≤ 2000) : zX d 0 0 mX9_emit [zn 36, zi p, zi w] sz S (cr M t fl pa br u cd) (zU sz S (fun M' => ∃ (u' : Int) (cd' : Nat → Int), (0 ≤ u' ∧ u' ≤ 400) ∧ M' = cr M t fl pa br u' cd')) := by
  refine zX_of pl_RX9 [some (zn 36), some (zi p), some (zi w)] 0 rfl rfl ?_
  refine x_aload_n 1 rfl dX9_emit_0 0 rfl rfl ?_
  refine x_geti 4 rfl fX9_22 dX9_emit_1 (lyl36 hL) (lys36 hL) (by decide) ?_
  try simp (disch := omega) only [z_up_ne, z_up_nk, z_up_eq, z_mup_ne, z_mup_eq, Int.reduceToNat, Int.toNat_natCast, cr_4, cr_5, cr_6, cr_7, cr_o, cr_u, cr_uo, cr_c, cr_ne, cr_w4, cr_w5, cr_w6, cr_w7, cr_wu, cr_wc]
  refine x_aload_n 5 rfl dX9_emit_4 0 rfl rfl ?_
  refine x_getr 8 rfl fX9_15 dX9_emit_5 (lyl36 hL) (lys36 hL) (by decide) (38) rfl ?_
  refine x_alen (t := 0) 9 rfl dX9_emit_8 (lyl38 hL) (lys38 hL) (Or.inl rfl) (by decide) ?_
  refine x_icmp_ge 12 37 rfl dX9_emit_9 (by decide) (fun c9 => ?_) (fun c9 => ?_)
  · refine x_retu dX9_emit_37 rfl ?_
    exact ⟨_, _, by omega, rfl⟩
  · refine x_aload_n 13 rfl dX9_emit_12 0 rfl rfl ?_
    refine x_getr 16 rfl fX9_15 dX9_emit_13 (lyl36 hL) (lys36 hL) (by decide) (38) rfl ?_
    refine x_aload_n 17 rfl dX9_emit_16 0 rfl rfl ?_
    refine x_geti 20 rfl fX9_22 dX9_emit_17 (lyl36 hL) (lys36 hL) (by decide) ?_
    try simp (disch := omega) only [z_up_ne, z_up_nk, z_up_eq, z_mup_ne, z_mup_eq, Int.reduceToNat, Int.toNat_natCast, cr_4, cr_5, cr_6, cr_7, cr_o, cr_u, cr_uo, cr_c, cr_ne, cr_w4, cr_w5, cr_w6, cr_w7, cr_wu, cr_wc]
    refine x_iload_n 21 rfl dX9_emit_20 1 rfl rfl ?_
    refine x_bipush 23 rfl dX9_emit_21 (by decide) ?_
    refine x_iload_n 24 rfl dX9_emit_23 2 rfl rfl ?_
    refine y_imul 25 rfl dX9_emit_24 (by omega) ?_
    refine y_iadd 26 rfl dX9_emit_25 (by omega) ?_
    refine x_iast 27 rfl dX9_emit_26 (lyl38 hL) (lys38 hL) (by omega) (by omega) ?_
    try simp only [cr_4, cr_5, cr_6, cr_7, cr_o, cr_u, cr_uo, cr_c, cr_ne, cr_w4, cr_w5, cr_w6, cr_w7, cr_wu, cr_wc]
    refine x_aload_n 28 rfl dX9_emit_27 0 rfl rfl ?_
    refine x_dupr 29 rfl dX9_emit_28 ?_
    refine x_geti 32 rfl fX9_22 dX9_emit_29 (lyl36 hL) (lys36 hL) (by decide) ?_
    try simp (disch := omega) only [z_up_ne, z_up_nk, z_up_eq, z_mup_ne, z_mup_eq, Int.reduceToNat, Int.toNat_natCast, cr_4, cr_5, cr_6, cr_7, cr_o, cr_u, cr_uo, cr_c, cr_ne, cr_w4, cr_w5, cr_w6, cr_w7, cr_wu, cr_wc]
    refine x_iconst 33 rfl dX9_emit_32 (by decide) ?_
    refine y_iadd 34 rfl dX9_emit_33 (by omega) ?_
    refine x_puti 37 rfl fX9_22 dX9_emit_34 (lyl36 hL) (lys36 hL) (by decide) ?_
    try simp only [cr_4, cr_5, cr_6, cr_7, cr_o, cr_u, cr_uo, cr_c, cr_ne, cr_w4, cr_w5, cr_w6, cr_w7, cr_wu, cr_wc]
    refine x_retu dX9_emit_37 rfl ?_
    exact ⟨_, _, by omega, rfl⟩

set_option maxRecDepth 100000 in
set_option maxHeartbeats 4000000 in
theorem c_X9_aim1 {d sz : Nat} {S : zSh} {M : zMem} (hL : LY S sz) {s : gS} {br p : Int} {q : Nat} (hu : s.2.2.1 ≤ 400) (hq : q < s.2.2.1) (hp : 0 ≤ p ∧ p < 16) : zX d 0 0 mX9_aim [zn 36, zi (q : Int), zi p] sz S (cr M (s.1 : Int) (-1) (s.2.1 : Int) br (s.2.2.1 : Int) s.2.2.2) (zU sz S (fun M' => M' = (cr M ((g_aim s q p).1 : Int) (-1) ((g_aim s q p).2.1 : Int) br ((g_aim s q p).2.2.1 : Int) (g_aim s q p).2.2.2))) := by
  refine zX_of pl_RX9 [some (zn 36), some (zi (q : Int)), some (zi p)] 0 rfl rfl ?_
  refine x_iload_n 1 rfl dX9_aim_0 1 rfl rfl ?_
  refine x_if_lt 4 27 rfl dX9_aim_1 (by decide) (fun c1 => ?_) (fun c1 => ?_)
  · exfalso; omega
  · refine x_iload_n 5 rfl dX9_aim_4 1 rfl rfl ?_
    refine x_aload_n 6 rfl dX9_aim_5 0 rfl rfl ?_
    refine x_geti 9 rfl fX9_22 dX9_aim_6 (lyl36 hL) (lys36 hL) (by decide) ?_
    try simp (disch := omega) only [z_up_ne, z_up_nk, z_up_eq, z_mup_ne, z_mup_eq, Int.reduceToNat, Int.toNat_natCast, cr_4, cr_5, cr_6, cr_7, cr_o, cr_u, cr_uo, cr_c, cr_ne, cr_w4, cr_w5, cr_w6, cr_w7, cr_wu, cr_wc]
    refine x_icmp_ge 12 27 rfl dX9_aim_9 (by decide) (fun c9 => ?_) (fun c9 => ?_)
    · exfalso; omega
    · refine x_aload_n 13 rfl dX9_aim_12 0 rfl rfl ?_
      refine x_getr 16 rfl fX9_15 dX9_aim_13 (lyl36 hL) (lys36 hL) (by decide) (38) rfl ?_
      refine x_iload_n 17 rfl dX9_aim_16 1 rfl rfl ?_
      refine x_iload_n 18 rfl dX9_aim_17 2 rfl rfl ?_
      refine x_bipush 20 rfl dX9_aim_18 (by decide) ?_
      refine x_aload_n 21 rfl dX9_aim_20 0 rfl rfl ?_
      refine x_geti 24 rfl fX9_22 dX9_aim_21 (lyl36 hL) (lys36 hL) (by decide) ?_
      try simp (disch := omega) only [z_up_ne, z_up_nk, z_up_eq, z_mup_ne, z_mup_eq, Int.reduceToNat, Int.toNat_natCast, cr_4, cr_5, cr_6, cr_7, cr_o, cr_u, cr_uo, cr_c, cr_ne, cr_w4, cr_w5, cr_w6, cr_w7, cr_wu, cr_wc]
      refine y_imul 25 rfl dX9_aim_24 (by omega) ?_
      refine y_iadd 26 rfl dX9_aim_25 (by omega) ?_
      refine x_iast 27 rfl dX9_aim_26 (lyl38 hL) (lys38 hL) (by omega) (by omega) ?_
      try simp only [cr_4, cr_5, cr_6, cr_7, cr_o, cr_u, cr_uo, cr_c, cr_ne, cr_w4, cr_w5, cr_w6, cr_w7, cr_wu, cr_wc]
      refine x_retu dX9_aim_27 rfl ?_
      rfl

set_option maxRecDepth 100000 in
set_option maxHeartbeats 4000000 in
theorem c_X9_aim0 {d sz : Nat} {S : zSh} {M : zMem} (hL : LY S sz) {t fl pa br u p q : Int} {cd : Nat → Int} (hu : 0 ≤ u ∧ u ≤ 400) (hp : 0 ≤ p ∧ p < 16) : zX d 0 0 mX9_aim [zn 36, zi q, zi p] sz S (cr M t fl pa br u cd) (zU sz S (fun M' => ∃ (cd' : Nat → Int), M' = cr M t fl pa br u cd')) := by
  refine zX_of pl_RX9 [some (zn 36), some (zi q), some (zi p)] 0 rfl rfl ?_
  refine x_iload_n 1 rfl dX9_aim_0 1 rfl rfl ?_
  refine x_if_lt 4 27 rfl dX9_aim_1 (by decide) (fun c1 => ?_) (fun c1 => ?_)
  · refine x_retu dX9_aim_27 rfl ?_
    exact ⟨_, rfl⟩
  · refine x_iload_n 5 rfl dX9_aim_4 1 rfl rfl ?_
    refine x_aload_n 6 rfl dX9_aim_5 0 rfl rfl ?_
    refine x_geti 9 rfl fX9_22 dX9_aim_6 (lyl36 hL) (lys36 hL) (by decide) ?_
    try simp (disch := omega) only [z_up_ne, z_up_nk, z_up_eq, z_mup_ne, z_mup_eq, Int.reduceToNat, Int.toNat_natCast, cr_4, cr_5, cr_6, cr_7, cr_o, cr_u, cr_uo, cr_c, cr_ne, cr_w4, cr_w5, cr_w6, cr_w7, cr_wu, cr_wc]
    refine x_icmp_ge 12 27 rfl dX9_aim_9 (by decide) (fun c9 => ?_) (fun c9 => ?_)
    · refine x_retu dX9_aim_27 rfl ?_
      exact ⟨_, rfl⟩
    · refine x_aload_n 13 rfl dX9_aim_12 0 rfl rfl ?_
      refine x_getr 16 rfl fX9_15 dX9_aim_13 (lyl36 hL) (lys36 hL) (by decide) (38) rfl ?_
      refine x_iload_n 17 rfl dX9_aim_16 1 rfl rfl ?_
      refine x_iload_n 18 rfl dX9_aim_17 2 rfl rfl ?_
      refine x_bipush 20 rfl dX9_aim_18 (by decide) ?_
      refine x_aload_n 21 rfl dX9_aim_20 0 rfl rfl ?_
      refine x_geti 24 rfl fX9_22 dX9_aim_21 (lyl36 hL) (lys36 hL) (by decide) ?_
      try simp (disch := omega) only [z_up_ne, z_up_nk, z_up_eq, z_mup_ne, z_mup_eq, Int.reduceToNat, Int.toNat_natCast, cr_4, cr_5, cr_6, cr_7, cr_o, cr_u, cr_uo, cr_c, cr_ne, cr_w4, cr_w5, cr_w6, cr_w7, cr_wu, cr_wc]
      refine y_imul 25 rfl dX9_aim_24 (by omega) ?_
      refine y_iadd 26 rfl dX9_aim_25 (by omega) ?_
      refine x_iast 27 rfl dX9_aim_26 (lyl38 hL) (lys38 hL) (by omega) (by omega) ?_
      try simp only [cr_4, cr_5, cr_6, cr_7, cr_o, cr_u, cr_uo, cr_c, cr_ne, cr_w4, cr_w5, cr_w6, cr_w7, cr_wu, cr_wc]
      refine x_retu dX9_aim_27 rfl ?_
      exact ⟨_, rfl⟩

set_option maxRecDepth 100000 in
set_option maxHeartbeats 4000000 in
theorem c_X6_opened {d sz : Nat} {S : zSh} {M : zMem} (hL : LY S sz) {n : Nat} {c v : Nat → Int} (hT : TK c v n) (hC : CKr M c v n) {s : gS} (hs : s.1 ≤ n) {br : Nat} : zX (d + 1) 0 0 mX6_opened [zn 32] sz S (cr M (s.1 : Int) (-1) (s.2.1 : Int) (br : Int) (s.2.2.1 : Int) s.2.2.2) (zI sz S (fun r M' => (br < 8 ∧ r = 1 ∧ M' = (cr M ((g_ad s).1 : Int) (-1) ((g_ad s).2.1 : Int) ((br : Int) + 1) ((g_ad s).2.2.1 : Int) (g_ad s).2.2.2)) ∨ (8 ≤ br ∧ r = 0 ∧ M' = (cr M (s.1 : Int) (M 34 s.1) (s.2.1 : Int) (br : Int) (s.2.2.1 : Int) s.2.2.2)))) := by
  have hn := hT.1
  refine zX_of pl_RX6 [some (zn 32)] 0 rfl rfl ?_
  refine x_aload_n 1 rfl dX6_opened_0 0 rfl rfl ?_
  refine x_geti 4 rfl fX6_57 dX6_opened_1 (lyl32 hL) (lys32 hL) (by decide) ?_
  try simp (disch := omega) only [z_up_ne, z_up_nk, z_up_eq, z_mup_ne, z_mup_eq, Int.reduceToNat, Int.toNat_natCast, cr_4, cr_5, cr_6, cr_7, cr_o, cr_u, cr_uo, cr_c, cr_ne, cr_w4, cr_w5, cr_w6, cr_w7, cr_wu, cr_wc]
  refine x_bipush 6 rfl dX6_opened_4 (by decide) ?_
  refine x_icmp_lt 9 15 rfl dX6_opened_6 (by decide) (fun c6 => ?_) (fun c6 => ?_)
  · refine x_aload_n 16 rfl dX6_opened_15 0 rfl rfl ?_
    refine x_dupr 17 rfl dX6_opened_16 ?_
    refine x_geti 20 rfl fX6_57 dX6_opened_17 (lyl32 hL) (lys32 hL) (by decide) ?_
    try simp (disch := omega) only [z_up_ne, z_up_nk, z_up_eq, z_mup_ne, z_mup_eq, Int.reduceToNat, Int.toNat_natCast, cr_4, cr_5, cr_6, cr_7, cr_o, cr_u, cr_uo, cr_c, cr_ne, cr_w4, cr_w5, cr_w6, cr_w7, cr_wu, cr_wc]
    refine x_iconst 21 rfl dX6_opened_20 (by decide) ?_
    refine y_iadd 22 rfl dX6_opened_21 (by omega) ?_
    refine x_puti 25 rfl fX6_57 dX6_opened_22 (lyl32 hL) (lys32 hL) (by decide) ?_
    try simp only [cr_4, cr_5, cr_6, cr_7, cr_o, cr_u, cr_uo, cr_c, cr_ne, cr_w4, cr_w5, cr_w6, cr_w7, cr_wu, cr_wc]
    refine x_aload_n 26 rfl dX6_opened_25 0 rfl rfl ?_
    refine x_dupr 27 rfl dX6_opened_26 ?_
    refine x_geti 30 rfl fX6_47 dX6_opened_27 (lyl32 hL) (lys32 hL) (by decide) ?_
    try simp (disch := omega) only [z_up_ne, z_up_nk, z_up_eq, z_mup_ne, z_mup_eq, Int.reduceToNat, Int.toNat_natCast, cr_4, cr_5, cr_6, cr_7, cr_o, cr_u, cr_uo, cr_c, cr_ne, cr_w4, cr_w5, cr_w6, cr_w7, cr_wu, cr_wc]
    refine x_iconst 31 rfl dX6_opened_30 (by decide) ?_
    refine y_iadd 32 rfl dX6_opened_31 (by omega) ?_
    refine x_puti 35 rfl fX6_47 dX6_opened_32 (lyl32 hL) (lys32 hL) (by decide) ?_
    try simp only [cr_4, cr_5, cr_6, cr_7, cr_o, cr_u, cr_uo, cr_c, cr_ne, cr_w4, cr_w5, cr_w6, cr_w7, cr_wu, cr_wc]
    rw [cr_ad s]
    refine x_iconst 36 rfl dX6_opened_35 (by decide) ?_
    refine x_retz dX6_opened_36 rfl (by omega) ?_
    left; exact ⟨by omega, rfl, rfl⟩
  · refine x_aload_n 10 rfl dX6_opened_9 0 rfl rfl ?_
    refine x_cVu 13 rfl lX6_60 dX6_opened_10 (lyl32 hL) (lys32 hL) (c_X6_fail1 hL hT hC hs) rfl rfl (Nat.le_of_ble_eq_true rfl) (fun M1 hM1 => ?_)
    rw [hM1]
    refine x_iconst 14 rfl dX6_opened_13 (by decide) ?_
    refine x_retz dX6_opened_14 rfl (by omega) ?_
    right; exact ⟨by omega, rfl, rfl⟩

set_option maxRecDepth 100000 in
set_option maxHeartbeats 4000000 in
theorem c_X6_closed1 {d sz : Nat} {S : zSh} {M : zMem} (hL : LY S sz) {n : Nat} {c v : Nat → Int} (hT : TK c v n) (hC : CKr M c v n) {s : gS} (hs : s.1 ≤ n) {br : Nat} {x C : Int} (hx9 : 0 ≤ x ∧ x ≤ 255) (hb : br ≤ 100) (hp : KP (100 + x) C) : zX (d + 2) 0 0 mX6_closed [zn 32, zi x] sz S (cr M (s.1 : Int) (-1) (s.2.1 : Int) ((br : Int) + 1) (s.2.2.1 : Int) s.2.2.2) (zU sz S (fun M' => (c s.1 = C ∧ M' = (cr M ((g_ad s).1 : Int) (-1) ((g_ad s).2.1 : Int) (br : Int) ((g_ad s).2.2.1 : Int) (g_ad s).2.2.2)) ∨ (c s.1 ≠ C ∧ M' = (cr M (s.1 : Int) (M 34 s.1) (s.2.1 : Int) (br : Int) (s.2.2.1 : Int) s.2.2.2)))) := by
  refine zX_of pl_RX6 [some (zn 32), some (zi x)] 0 rfl rfl ?_
  refine x_aload_n 1 rfl dX6_closed_0 0 rfl rfl ?_
  refine x_bipush 3 rfl dX6_closed_1 (by decide) ?_
  refine x_iload_n 4 rfl dX6_closed_3 1 rfl rfl ?_
  refine y_iadd 5 rfl dX6_closed_4 (by omega) ?_
  refine x_cVu 8 rfl lX6_112 dX6_closed_5 (lyl32 hL) (lys32 hL) (c_X6_take1 hL hT hC hs hp) rfl rfl (Nat.le_of_ble_eq_true rfl) (fun M1 hr1 => ?_)
  rcases hr1 with ⟨hx, hM1⟩ | ⟨hx, hM1⟩
  · rw [hM1]
    refine x_aload_n 9 rfl dX6_closed_8 0 rfl rfl ?_
    refine x_dupr 10 rfl dX6_closed_9 ?_
    refine x_geti 13 rfl fX6_57 dX6_closed_10 (lyl32 hL) (lys32 hL) (by decide) ?_
    try simp (disch := omega) only [z_up_ne, z_up_nk, z_up_eq, z_mup_ne, z_mup_eq, Int.reduceToNat, Int.toNat_natCast, cr_4, cr_5, cr_6, cr_7, cr_o, cr_u, cr_uo, cr_c, cr_ne, cr_w4, cr_w5, cr_w6, cr_w7, cr_wu, cr_wc]
    refine x_iconst 14 rfl dX6_closed_13 (by decide) ?_
    refine y_isub 15 rfl dX6_closed_14 (by omega) ?_
    refine x_puti 18 rfl fX6_57 dX6_closed_15 (lyl32 hL) (lys32 hL) (by decide) ?_
    try simp only [cr_4, cr_5, cr_6, cr_7, cr_o, cr_u, cr_uo, cr_c, cr_ne, cr_w4, cr_w5, cr_w6, cr_w7, cr_wu, cr_wc]
    rw [show (br : Int) + 1 - 1 = (br : Int) by omega]
    refine x_retu dX6_closed_18 rfl ?_
    left; exact ⟨hx, rfl⟩
  · rw [hM1]
    refine x_aload_n 9 rfl dX6_closed_8 0 rfl rfl ?_
    refine x_dupr 10 rfl dX6_closed_9 ?_
    refine x_geti 13 rfl fX6_57 dX6_closed_10 (lyl32 hL) (lys32 hL) (by decide) ?_
    try simp (disch := omega) only [z_up_ne, z_up_nk, z_up_eq, z_mup_ne, z_mup_eq, Int.reduceToNat, Int.toNat_natCast, cr_4, cr_5, cr_6, cr_7, cr_o, cr_u, cr_uo, cr_c, cr_ne, cr_w4, cr_w5, cr_w6, cr_w7, cr_wu, cr_wc]
    refine x_iconst 14 rfl dX6_closed_13 (by decide) ?_
    refine y_isub 15 rfl dX6_closed_14 (by omega) ?_
    refine x_puti 18 rfl fX6_57 dX6_closed_15 (lyl32 hL) (lys32 hL) (by decide) ?_
    try simp only [cr_4, cr_5, cr_6, cr_7, cr_o, cr_u, cr_uo, cr_c, cr_ne, cr_w4, cr_w5, cr_w6, cr_w7, cr_wu, cr_wc]
    rw [show (br : Int) + 1 - 1 = (br : Int) by omega]
    refine x_retu dX6_closed_18 rfl ?_
    right; exact ⟨hx, rfl⟩

set_option maxRecDepth 100000 in
set_option maxHeartbeats 4000000 in
theorem c_X6_closed0 {d sz : Nat} {S : zSh} {M : zMem} (hL : LY S sz) {t fl pa u : Int} {cd : Nat → Int} (hf : fl ≠ -1) {br : Nat} {x : Int} (hx9 : 0 ≤ x ∧ x ≤ 255) (hb : br ≤ 100) : zX (d + 2) 0 0 mX6_closed [zn 32, zi x] sz S (cr M t fl pa ((br : Int) + 1) u cd) (zU sz S (fun M' => M' = cr M t fl pa (br : Int) u cd)) := by
  refine zX_of pl_RX6 [some (zn 32), some (zi x)] 0 rfl rfl ?_
  refine x_aload_n 1 rfl dX6_closed_0 0 rfl rfl ?_
  refine x_bipush 3 rfl dX6_closed_1 (by decide) ?_
  refine x_iload_n 4 rfl dX6_closed_3 1 rfl rfl ?_
  refine y_iadd 5 rfl dX6_closed_4 (by omega) ?_
  refine x_cVu 8 rfl lX6_112 dX6_closed_5 (lyl32 hL) (lys32 hL) (c_X6_take0 hL hf) rfl rfl (Nat.le_of_ble_eq_true rfl) (fun M1 hM1 => ?_)
  rw [hM1]
  refine x_aload_n 9 rfl dX6_closed_8 0 rfl rfl ?_
  refine x_dupr 10 rfl dX6_closed_9 ?_
  refine x_geti 13 rfl fX6_57 dX6_closed_10 (lyl32 hL) (lys32 hL) (by decide) ?_
  try simp (disch := omega) only [z_up_ne, z_up_nk, z_up_eq, z_mup_ne, z_mup_eq, Int.reduceToNat, Int.toNat_natCast, cr_4, cr_5, cr_6, cr_7, cr_o, cr_u, cr_uo, cr_c, cr_ne, cr_w4, cr_w5, cr_w6, cr_w7, cr_wu, cr_wc]
  refine x_iconst 14 rfl dX6_closed_13 (by decide) ?_
  refine y_isub 15 rfl dX6_closed_14 (by omega) ?_
  refine x_puti 18 rfl fX6_57 dX6_closed_15 (lyl32 hL) (lys32 hL) (by decide) ?_
  try simp only [cr_4, cr_5, cr_6, cr_7, cr_o, cr_u, cr_uo, cr_c, cr_ne, cr_w4, cr_w5, cr_w6, cr_w7, cr_wu, cr_wc]
  rw [show (br : Int) + 1 - 1 = (br : Int) by omega]
  refine x_retu dX6_closed_18 rfl ?_
  rfl

set_option maxRecDepth 100000 in
set_option maxHeartbeats 4000000 in
theorem c_X6_multiplies1 {d sz : Nat} {S : zSh} {M : zMem} (hL : LY S sz) {n : Nat} {c v : Nat → Int} (hT : TK c v n) (hC : CKr M c v n) {s : gS} (hs : s.1 ≤ n) {br : Int} : zX (d + 1) 0 0 mX6_multiplies [zn 32] sz S (cr M (s.1 : Int) (-1) (s.2.1 : Int) br (s.2.2.1 : Int) s.2.2.2) (zI sz S (fun r M' => r = gop_t (c s.1) ∧ M' = (cr M (s.1 : Int) (-1) (s.2.1 : Int) br (s.2.2.1 : Int) s.2.2.2))) := by
  refine zX_of pl_RX6 [some (zn 32)] 0 rfl rfl ?_
  refine x_aload_n 1 rfl dX6_multiplies_0 0 rfl rfl ?_
  refine x_sipush 4 rfl dX6_multiplies_1 (by decide) ?_
  refine x_cVi 7 rfl lX6_66 dX6_multiplies_4 (lyl32 hL) (lys32 hL) (c_X6_stands1 hL hT hC hs kp142) rfl rfl (Nat.le_of_ble_eq_true rfl) (fun r M1 hr1 => ?_)
  rcases hr1 with ⟨hx, rfl, hM1⟩ | ⟨hx, rfl, hM1⟩
  · rw [hM1]
    refine x_if_eq 10 12 rfl dX6_multiplies_7 (by decide) (fun c7 => ?_) (fun c7 => ?_)
    · exfalso; omega
    · refine x_iconst 11 rfl dX6_multiplies_10 (by decide) ?_
      refine x_reti dX6_multiplies_11 rfl ?_
      refine ⟨?_, rfl⟩
      rw [show c s.1 = 142 by omega]; decide
  · rw [hM1]
    have hx1 := hx
    clear hx
    refine x_if_eq 10 12 rfl dX6_multiplies_7 (by decide) (fun c7 => ?_) (fun c7 => ?_)
    · refine x_aload_n 13 rfl dX6_multiplies_12 0 rfl rfl ?_
      refine x_sipush 16 rfl dX6_multiplies_13 (by decide) ?_
      refine x_cVi 19 rfl lX6_66 dX6_multiplies_16 (lyl32 hL) (lys32 hL) (c_X6_stands1 hL hT hC hs kp147) rfl rfl (Nat.le_of_ble_eq_true rfl) (fun r M1 hr1 => ?_)
      rcases hr1 with ⟨hx, rfl, hM1⟩ | ⟨hx, rfl, hM1⟩
      · rw [hM1]
        refine x_if_eq 22 25 rfl dX6_multiplies_19 (by decide) (fun c19 => ?_) (fun c19 => ?_)
        · exfalso; omega
        · refine x_bipush 24 rfl dX6_multiplies_22 (by decide) ?_
          refine x_reti dX6_multiplies_24 rfl ?_
          refine ⟨?_, rfl⟩
          rw [show c s.1 = 147 by omega]; decide
      · rw [hM1]
        have hx2 := hx
        clear hx
        refine x_if_eq 22 25 rfl dX6_multiplies_19 (by decide) (fun c19 => ?_) (fun c19 => ?_)
        · refine x_aload_n 26 rfl dX6_multiplies_25 0 rfl rfl ?_
          refine x_sipush 29 rfl dX6_multiplies_26 (by decide) ?_
          refine x_cVi 32 rfl lX6_66 dX6_multiplies_29 (lyl32 hL) (lys32 hL) (c_X6_stands1 hL hT hC hs kp137) rfl rfl (Nat.le_of_ble_eq_true rfl) (fun r M1 hr1 => ?_)
          rcases hr1 with ⟨hx, rfl, hM1⟩ | ⟨hx, rfl, hM1⟩
          · rw [hM1]
            refine x_if_eq 35 40 rfl dX6_multiplies_32 (by decide) (fun c32 => ?_) (fun c32 => ?_)
            · exfalso; omega
            · refine x_bipush 37 rfl dX6_multiplies_35 (by decide) ?_
              refine x_goto 41 dX6_multiplies_37 (by decide) ?_
              refine x_reti dX6_multiplies_41 rfl ?_
              refine ⟨?_, rfl⟩
              rw [show c s.1 = 137 by omega]; decide
          · rw [hM1]
            refine x_if_eq 35 40 rfl dX6_multiplies_32 (by decide) (fun c32 => ?_) (fun c32 => ?_)
            · refine x_iconst 41 rfl dX6_multiplies_40 (by decide) ?_
              refine x_reti dX6_multiplies_41 rfl ?_
              refine ⟨?_, rfl⟩
              unfold gop_t; rw [if_neg (by omega), if_neg (by omega), if_neg (by omega)]
            · exfalso; omega
        · exfalso; omega
    · exfalso; omega

set_option maxRecDepth 100000 in
set_option maxHeartbeats 4000000 in
theorem c_X6_multiplies0 {d sz : Nat} {S : zSh} {M : zMem} (hL : LY S sz) {t fl pa br u : Int} {cd : Nat → Int} (hf : fl ≠ -1)  : zX (d + 1) 0 0 mX6_multiplies [zn 32] sz S (cr M t fl pa br u cd) (zI sz S (fun r M' => r = 0 ∧ M' = (cr M t fl pa br u cd))) := by
  refine zX_of pl_RX6 [some (zn 32)] 0 rfl rfl ?_
  refine x_aload_n 1 rfl dX6_multiplies_0 0 rfl rfl ?_
  refine x_sipush 4 rfl dX6_multiplies_1 (by decide) ?_
  refine x_cVi 7 rfl lX6_66 dX6_multiplies_4 (lyl32 hL) (lys32 hL) (c_X6_stands0 hL hf) rfl rfl (Nat.le_of_ble_eq_true rfl) (fun r M1 hr1 => ?_)
  obtain ⟨rfl, hM1⟩ := hr1
  rw [hM1]
  refine x_if_eq 10 12 rfl dX6_multiplies_7 (by decide) (fun c7 => ?_) (fun c7 => ?_)
  · refine x_aload_n 13 rfl dX6_multiplies_12 0 rfl rfl ?_
    refine x_sipush 16 rfl dX6_multiplies_13 (by decide) ?_
    refine x_cVi 19 rfl lX6_66 dX6_multiplies_16 (lyl32 hL) (lys32 hL) (c_X6_stands0 hL hf) rfl rfl (Nat.le_of_ble_eq_true rfl) (fun r M1 hr1 => ?_)
    obtain ⟨rfl, hM1⟩ := hr1
    rw [hM1]
    refine x_if_eq 22 25 rfl dX6_multiplies_19 (by decide) (fun c19 => ?_) (fun c19 => ?_)
    · refine x_aload_n 26 rfl dX6_multiplies_25 0 rfl rfl ?_
      refine x_sipush 29 rfl dX6_multiplies_26 (by decide) ?_
      refine x_cVi 32 rfl lX6_66 dX6_multiplies_29 (lyl32 hL) (lys32 hL) (c_X6_stands0 hL hf) rfl rfl (Nat.le_of_ble_eq_true rfl) (fun r M1 hr1 => ?_)
      obtain ⟨rfl, hM1⟩ := hr1
      rw [hM1]
      refine x_if_eq 35 40 rfl dX6_multiplies_32 (by decide) (fun c32 => ?_) (fun c32 => ?_)
      · refine x_iconst 41 rfl dX6_multiplies_40 (by decide) ?_
        refine x_reti dX6_multiplies_41 rfl ?_
        exact ⟨rfl, rfl⟩
      · exfalso; omega
    · exfalso; omega
  · exfalso; omega

set_option maxRecDepth 100000 in
set_option maxHeartbeats 4000000 in
theorem c_X6_compares1 {d sz : Nat} {S : zSh} {M : zMem} (hL : LY S sz) {n : Nat} {c v : Nat → Int} (hT : TK c v n) (hC : CKr M c v n) {s : gS} (hs : s.1 ≤ n) {br : Int} : zX (d + 1) 0 0 mX6_compares [zn 32] sz S (cr M (s.1 : Int) (-1) (s.2.1 : Int) br (s.2.2.1 : Int) s.2.2.2) (zI sz S (fun r M' => r = gop_c (c s.1) ∧ M' = (cr M (s.1 : Int) (-1) (s.2.1 : Int) br (s.2.2.1 : Int) s.2.2.2))) := by
  refine zX_of pl_RX6 [some (zn 32)] 0 rfl rfl ?_
  refine x_aload_n 1 rfl dX6_compares_0 0 rfl rfl ?_
  refine x_sipush 4 rfl dX6_compares_1 (by decide) ?_
  refine x_cVi 7 rfl lX6_66 dX6_compares_4 (lyl32 hL) (lys32 hL) (c_X6_stands1 hL hT hC hs kp160) rfl rfl (Nat.le_of_ble_eq_true rfl) (fun r M1 hr1 => ?_)
  rcases hr1 with ⟨hx, rfl, hM1⟩ | ⟨hx, rfl, hM1⟩
  · rw [hM1]
    refine x_if_eq 10 13 rfl dX6_compares_7 (by decide) (fun c7 => ?_) (fun c7 => ?_)
    · exfalso; omega
    · refine x_bipush 12 rfl dX6_compares_10 (by decide) ?_
      refine x_reti dX6_compares_12 rfl ?_
      refine ⟨?_, rfl⟩
      rw [show c s.1 = 160 by omega]; decide
  · rw [hM1]
    have hx1 := hx
    clear hx
    refine x_if_eq 10 13 rfl dX6_compares_7 (by decide) (fun c7 => ?_) (fun c7 => ?_)
    · refine x_aload_n 14 rfl dX6_compares_13 0 rfl rfl ?_
      refine x_sipush 17 rfl dX6_compares_14 (by decide) ?_
      refine x_cVi 20 rfl lX6_66 dX6_compares_17 (lyl32 hL) (lys32 hL) (c_X6_stands1 hL hT hC hs kp162) rfl rfl (Nat.le_of_ble_eq_true rfl) (fun r M1 hr1 => ?_)
      rcases hr1 with ⟨hx, rfl, hM1⟩ | ⟨hx, rfl, hM1⟩
      · rw [hM1]
        refine x_if_eq 23 26 rfl dX6_compares_20 (by decide) (fun c20 => ?_) (fun c20 => ?_)
        · exfalso; omega
        · refine x_bipush 25 rfl dX6_compares_23 (by decide) ?_
          refine x_reti dX6_compares_25 rfl ?_
          refine ⟨?_, rfl⟩
          rw [show c s.1 = 162 by omega]; decide
      · rw [hM1]
        have hx2 := hx
        clear hx
        refine x_if_eq 23 26 rfl dX6_compares_20 (by decide) (fun c20 => ?_) (fun c20 => ?_)
        · refine x_aload_n 27 rfl dX6_compares_26 0 rfl rfl ?_
          refine x_sipush 30 rfl dX6_compares_27 (by decide) ?_
          refine x_cVi 33 rfl lX6_66 dX6_compares_30 (lyl32 hL) (lys32 hL) (c_X6_stands1 hL hT hC hs kp161) rfl rfl (Nat.le_of_ble_eq_true rfl) (fun r M1 hr1 => ?_)
          rcases hr1 with ⟨hx, rfl, hM1⟩ | ⟨hx, rfl, hM1⟩
          · rw [hM1]
            refine x_if_eq 36 41 rfl dX6_compares_33 (by decide) (fun c33 => ?_) (fun c33 => ?_)
            · exfalso; omega
            · refine x_bipush 38 rfl dX6_compares_36 (by decide) ?_
              refine x_goto 42 dX6_compares_38 (by decide) ?_
              refine x_reti dX6_compares_42 rfl ?_
              refine ⟨?_, rfl⟩
              rw [show c s.1 = 161 by omega]; decide
          · rw [hM1]
            refine x_if_eq 36 41 rfl dX6_compares_33 (by decide) (fun c33 => ?_) (fun c33 => ?_)
            · refine x_iconst 42 rfl dX6_compares_41 (by decide) ?_
              refine x_reti dX6_compares_42 rfl ?_
              refine ⟨?_, rfl⟩
              unfold gop_c; rw [if_neg (by omega), if_neg (by omega), if_neg (by omega)]
            · exfalso; omega
        · exfalso; omega
    · exfalso; omega

set_option maxRecDepth 100000 in
set_option maxHeartbeats 4000000 in
theorem c_X6_compares0 {d sz : Nat} {S : zSh} {M : zMem} (hL : LY S sz) {t fl pa br u : Int} {cd : Nat → Int} (hf : fl ≠ -1)  : zX (d + 1) 0 0 mX6_compares [zn 32] sz S (cr M t fl pa br u cd) (zI sz S (fun r M' => r = 0 ∧ M' = (cr M t fl pa br u cd))) := by
  refine zX_of pl_RX6 [some (zn 32)] 0 rfl rfl ?_
  refine x_aload_n 1 rfl dX6_compares_0 0 rfl rfl ?_
  refine x_sipush 4 rfl dX6_compares_1 (by decide) ?_
  refine x_cVi 7 rfl lX6_66 dX6_compares_4 (lyl32 hL) (lys32 hL) (c_X6_stands0 hL hf) rfl rfl (Nat.le_of_ble_eq_true rfl) (fun r M1 hr1 => ?_)
  obtain ⟨rfl, hM1⟩ := hr1
  rw [hM1]
  refine x_if_eq 10 13 rfl dX6_compares_7 (by decide) (fun c7 => ?_) (fun c7 => ?_)
  · refine x_aload_n 14 rfl dX6_compares_13 0 rfl rfl ?_
    refine x_sipush 17 rfl dX6_compares_14 (by decide) ?_
    refine x_cVi 20 rfl lX6_66 dX6_compares_17 (lyl32 hL) (lys32 hL) (c_X6_stands0 hL hf) rfl rfl (Nat.le_of_ble_eq_true rfl) (fun r M1 hr1 => ?_)
    obtain ⟨rfl, hM1⟩ := hr1
    rw [hM1]
    refine x_if_eq 23 26 rfl dX6_compares_20 (by decide) (fun c20 => ?_) (fun c20 => ?_)
    · refine x_aload_n 27 rfl dX6_compares_26 0 rfl rfl ?_
      refine x_sipush 30 rfl dX6_compares_27 (by decide) ?_
      refine x_cVi 33 rfl lX6_66 dX6_compares_30 (lyl32 hL) (lys32 hL) (c_X6_stands0 hL hf) rfl rfl (Nat.le_of_ble_eq_true rfl) (fun r M1 hr1 => ?_)
      obtain ⟨rfl, hM1⟩ := hr1
      rw [hM1]
      refine x_if_eq 36 41 rfl dX6_compares_33 (by decide) (fun c33 => ?_) (fun c33 => ?_)
      · refine x_iconst 42 rfl dX6_compares_41 (by decide) ?_
        refine x_reti dX6_compares_42 rfl ?_
        exact ⟨rfl, rfl⟩
      · exfalso; omega
    · exfalso; omega
  · exfalso; omega

set_option maxRecDepth 100000 in
set_option maxHeartbeats 4000000 in
theorem c_X6_isLawWord {d sz : Nat} {S : zSh} {M : zMem} {x : Int} : zX d 0 0 mX6_isLawWord [zi x] sz S M (zI sz S (fun r M' => r = (if 0 ≤ x ∧ x ≤ 9 then 1 else 0) ∧ M' = M)) := by
  refine zX_of pl_RX6 [some (zi x)] 0 rfl rfl ?_
  refine x_iload_n 1 rfl dX6_isLawWord_0 0 rfl rfl ?_
  refine x_if_lt 4 14 rfl dX6_isLawWord_1 (by decide) (fun c1 => ?_) (fun c1 => ?_)
  · refine x_iconst 15 rfl dX6_isLawWord_14 (by decide) ?_
    refine x_retz dX6_isLawWord_15 rfl (by omega) ?_
    refine ⟨?_, rfl⟩
    split <;> omega
  · refine x_iload_n 5 rfl dX6_isLawWord_4 0 rfl rfl ?_
    refine x_bipush 7 rfl dX6_isLawWord_5 (by decide) ?_
    refine x_icmp_gt 10 14 rfl dX6_isLawWord_7 (by decide) (fun c7 => ?_) (fun c7 => ?_)
    · refine x_iconst 15 rfl dX6_isLawWord_14 (by decide) ?_
      refine x_retz dX6_isLawWord_15 rfl (by omega) ?_
      refine ⟨?_, rfl⟩
      split <;> omega
    · refine x_iconst 11 rfl dX6_isLawWord_10 (by decide) ?_
      refine x_goto 15 dX6_isLawWord_11 (by decide) ?_
      refine x_retz dX6_isLawWord_15 rfl (by omega) ?_
      refine ⟨?_, rfl⟩
      split <;> omega

set_option maxRecDepth 100000 in
set_option maxHeartbeats 4000000 in
theorem c_X6_isOrderWord {d sz : Nat} {S : zSh} {M : zMem} {x : Int} : zX d 0 0 mX6_isOrderWord [zi x] sz S M (zI sz S (fun r M' => r = (if x = 6 ∨ x = 8 ∨ (10 ≤ x ∧ x ≤ 12) then 1 else 0) ∧ M' = M)) := by
  refine zX_of pl_RX6 [some (zi x)] 0 rfl rfl ?_
  refine x_iload_n 1 rfl dX6_isOrderWord_0 0 rfl rfl ?_
  refine x_bipush 3 rfl dX6_isOrderWord_1 (by decide) ?_
  refine x_icmp_eq 6 24 rfl dX6_isOrderWord_3 (by decide) (fun c3 => ?_) (fun c3 => ?_)
  · refine x_iconst 25 rfl dX6_isOrderWord_24 (by decide) ?_
    refine x_goto 29 dX6_isOrderWord_25 (by decide) ?_
    refine x_retz dX6_isOrderWord_29 rfl (by omega) ?_
    refine ⟨?_, rfl⟩
    split <;> omega
  · refine x_iload_n 7 rfl dX6_isOrderWord_6 0 rfl rfl ?_
    refine x_bipush 9 rfl dX6_isOrderWord_7 (by decide) ?_
    refine x_icmp_eq 12 24 rfl dX6_isOrderWord_9 (by decide) (fun c9 => ?_) (fun c9 => ?_)
    · refine x_iconst 25 rfl dX6_isOrderWord_24 (by decide) ?_
      refine x_goto 29 dX6_isOrderWord_25 (by decide) ?_
      refine x_retz dX6_isOrderWord_29 rfl (by omega) ?_
      refine ⟨?_, rfl⟩
      split <;> omega
    · refine x_iload_n 13 rfl dX6_isOrderWord_12 0 rfl rfl ?_
      refine x_bipush 15 rfl dX6_isOrderWord_13 (by decide) ?_
      refine x_icmp_lt 18 28 rfl dX6_isOrderWord_15 (by decide) (fun c15 => ?_) (fun c15 => ?_)
      · refine x_iconst 29 rfl dX6_isOrderWord_28 (by decide) ?_
        refine x_retz dX6_isOrderWord_29 rfl (by omega) ?_
        refine ⟨?_, rfl⟩
        split <;> omega
      · refine x_iload_n 19 rfl dX6_isOrderWord_18 0 rfl rfl ?_
        refine x_bipush 21 rfl dX6_isOrderWord_19 (by decide) ?_
        refine x_icmp_gt 24 28 rfl dX6_isOrderWord_21 (by decide) (fun c21 => ?_) (fun c21 => ?_)
        · refine x_iconst 29 rfl dX6_isOrderWord_28 (by decide) ?_
          refine x_retz dX6_isOrderWord_29 rfl (by omega) ?_
          refine ⟨?_, rfl⟩
          split <;> omega
        · refine x_iconst 25 rfl dX6_isOrderWord_24 (by decide) ?_
          refine x_goto 29 dX6_isOrderWord_25 (by decide) ?_
          refine x_retz dX6_isOrderWord_29 rfl (by omega) ?_
          refine ⟨?_, rfl⟩
          split <;> omega

set_option maxRecDepth 100000 in
set_option maxHeartbeats 4000000 in
theorem c_X6_part0 {d sz : Nat} {S : zSh} {M : zMem} (hL : LY S sz) {t fl pa br u : Int} {cd : Nat → Int} (hf : fl ≠ -1)  : zX (d + 1) 0 0 mX6_part [zn 32] sz S (cr M t fl pa br u cd) (zU sz S (fun M' => M' = (cr M t fl pa br u cd))) := by
  refine zX_of pl_RX6 [some (zn 32)] 0 rfl rfl ?_
  refine x_aload_n 1 rfl dX6_part_0 0 rfl rfl ?_
  refine x_sipush 4 rfl dX6_part_1 (by decide) ?_
  refine x_cVi 7 rfl lX6_66 dX6_part_4 (lyl32 hL) (lys32 hL) (c_X6_stands0 hL hf) rfl rfl (Nat.le_of_ble_eq_true rfl) (fun r M1 hr1 => ?_)
  obtain ⟨rfl, hM1⟩ := hr1
  rw [hM1]
  refine x_if_eq 10 30 rfl dX6_part_7 (by decide) (fun c7 => ?_) (fun c7 => ?_)
  · refine x_aload_n 31 rfl dX6_part_30 0 rfl rfl ?_
    refine x_geti 34 rfl fX6_51 dX6_part_31 (lyl32 hL) (lys32 hL) (by decide) ?_
    try simp (disch := omega) only [z_up_ne, z_up_nk, z_up_eq, z_mup_ne, z_mup_eq, Int.reduceToNat, Int.toNat_natCast, cr_4, cr_5, cr_6, cr_7, cr_o, cr_u, cr_uo, cr_c, cr_ne, cr_w4, cr_w5, cr_w6, cr_w7, cr_wu, cr_wc]
    refine x_iconst 35 rfl dX6_part_34 (by decide) ?_
    refine x_icmp_ne 38 47 rfl dX6_part_35 (by decide) (fun c35 => ?_) (fun c35 => ?_)
    · refine x_aload_n 48 rfl dX6_part_47 0 rfl rfl ?_
      refine x_cVu 51 rfl lX6_60 dX6_part_48 (lyl32 hL) (lys32 hL) (c_X6_fail0 hL hf) rfl rfl (Nat.le_of_ble_eq_true rfl) (fun M1 hM1 => ?_)
      rw [hM1]
      refine x_goto 132 dX6_part_51 (by decide) ?_
      refine x_retu dX6_part_132 rfl ?_
      rfl
    · exfalso; omega
  · exfalso; omega

set_option maxRecDepth 100000 in
set_option maxHeartbeats 4000000 in
theorem c_X6_term0 {d sz : Nat} {S : zSh} {M : zMem} (hL : LY S sz) {t fl pa br u : Int} {cd : Nat → Int} (hf : fl ≠ -1)  : zX (d + 2) 0 0 mX6_term [zn 32] sz S (cr M t fl pa br u cd) (zU sz S (fun M' => M' = (cr M t fl pa br u cd))) := by
  refine zX_of pl_RX6 [some (zn 32), none, none] 2 rfl rfl ?_
  refine x_aload_n 1 rfl dX6_term_0 0 rfl rfl ?_
  refine x_cVu 4 rfl lX6_156 dX6_term_1 (lyl32 hL) (lys32 hL) (c_X6_part0 hL hf) rfl rfl (Nat.le_of_ble_eq_true rfl) (fun M1 hM1 => ?_)
  rw [hM1]
  refine x_aload_n 5 rfl dX6_term_4 0 rfl rfl ?_
  refine x_cVi 8 rfl lX6_159 dX6_term_5 (lyl32 hL) (lys32 hL) (c_X6_multiplies0 hL hf) rfl rfl (Nat.le_of_ble_eq_true rfl) (fun r M1 hr1 => ?_)
  obtain ⟨rfl, hM1⟩ := hr1
  rw [hM1]
  refine y_istore_n 9 rfl dX6_term_8 rfl rfl (ls' := [_, _, _]) rfl (by decide) ?_
  refine x_iconst 10 rfl dX6_term_9 (by decide) ?_
  refine y_istore_n 11 rfl dX6_term_10 rfl rfl (ls' := [_, _, _]) rfl (by decide) ?_
  refine x_iload_n 12 rfl dX6_term_11 2 rfl rfl ?_
  refine x_sipush 15 rfl dX6_term_12 (by decide) ?_
  refine x_icmp_ge 18 56 rfl dX6_term_15 (by decide) (fun c15 => ?_) (fun c15 => ?_)
  · exfalso; omega
  · refine x_iload_n 19 rfl dX6_term_18 1 rfl rfl ?_
    refine x_if_eq 22 56 rfl dX6_term_19 (by decide) (fun c19 => ?_) (fun c19 => ?_)
    · refine x_retu dX6_term_56 rfl ?_
      rfl
    · exfalso; omega

set_option maxRecDepth 100000 in
set_option maxHeartbeats 4000000 in
theorem c_X6_sum0 {d sz : Nat} {S : zSh} {M : zMem} (hL : LY S sz) {t fl pa br u : Int} {cd : Nat → Int} (hf : fl ≠ -1)  : zX (d + 3) 0 0 mX6_sum [zn 32] sz S (cr M t fl pa br u cd) (zU sz S (fun M' => M' = (cr M t fl pa br u cd))) := by
  refine zX_of pl_RX6 [some (zn 32), none, none] 2 rfl rfl ?_
  refine x_aload_n 1 rfl dX6_sum_0 0 rfl rfl ?_
  refine x_cVu 4 rfl lX6_153 dX6_sum_1 (lyl32 hL) (lys32 hL) (c_X6_term0 hL hf) rfl rfl (Nat.le_of_ble_eq_true rfl) (fun M1 hM1 => ?_)
  rw [hM1]
  refine x_iconst 5 rfl dX6_sum_4 (by decide) ?_
  refine y_istore_n 6 rfl dX6_sum_5 rfl rfl (ls' := [_, _, _]) rfl (by decide) ?_
  refine x_iload_n 7 rfl dX6_sum_6 1 rfl rfl ?_
  refine x_sipush 10 rfl dX6_sum_7 (by decide) ?_
  refine x_icmp_ge 13 78 rfl dX6_sum_10 (by decide) (fun c10 => ?_) (fun c10 => ?_)
  · exfalso; omega
  · refine x_aload_n 14 rfl dX6_sum_13 0 rfl rfl ?_
    refine x_sipush 17 rfl dX6_sum_14 (by decide) ?_
    refine x_cVi 20 rfl lX6_66 dX6_sum_17 (lyl32 hL) (lys32 hL) (c_X6_stands0 hL hf) rfl rfl (Nat.le_of_ble_eq_true rfl) (fun r M1 hr1 => ?_)
    obtain ⟨rfl, hM1⟩ := hr1
    rw [hM1]
    refine x_if_ne 23 33 rfl dX6_sum_20 (by decide) (fun c20 => ?_) (fun c20 => ?_)
    · exfalso; omega
    · refine x_aload_n 24 rfl dX6_sum_23 0 rfl rfl ?_
      refine x_sipush 27 rfl dX6_sum_24 (by decide) ?_
      refine x_cVi 30 rfl lX6_66 dX6_sum_27 (lyl32 hL) (lys32 hL) (c_X6_stands0 hL hf) rfl rfl (Nat.le_of_ble_eq_true rfl) (fun r M1 hr1 => ?_)
      obtain ⟨rfl, hM1⟩ := hr1
      rw [hM1]
      refine x_if_eq 33 78 rfl dX6_sum_30 (by decide) (fun c30 => ?_) (fun c30 => ?_)
      · refine x_retu dX6_sum_78 rfl ?_
        rfl
      · exfalso; omega
