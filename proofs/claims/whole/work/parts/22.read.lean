/-! THE REFERENCE READS: token, leaves, bad -/
def rd (M : zMem) (t l b : Int) : zMem := z_up (z_up (z_up M 55 19 t) 55 20 l) 55 21 b
section RD
variable {M : zMem} {t l b x : Int}
theorem rd_19 : rd M t l b 55 19 = t := by simp [rd, z_up]
theorem rd_20 : rd M t l b 55 20 = l := by simp [rd, z_up]
theorem rd_21 : rd M t l b 55 21 = b := by simp [rd, z_up]
theorem rd_o {j : Nat} (h1 : j ≠ 19) (h2 : j ≠ 20) (h3 : j ≠ 21) : rd M t l b 55 j = M 55 j := by simp [rd, z_up, h1, h2, h3]
theorem rd_ne {i : Nat} (h : i ≠ 55) : rd M t l b i = M i := by funext j; simp [rd, z_up, h]
theorem rd_u19 : z_up (rd M t l b) 55 19 x = rd M x l b := by
  funext i j
  by_cases h : i = 55
  · subst h; by_cases h1 : j = 19 <;> by_cases h2 : j = 20 <;> by_cases h3 : j = 21 <;> simp [rd, z_up, h1, h2, h3]
  · simp [rd, z_up, h]
theorem rd_u20 : z_up (rd M t l b) 55 20 x = rd M t x b := by
  funext i j
  by_cases h : i = 55
  · subst h; by_cases h1 : j = 19 <;> by_cases h2 : j = 20 <;> by_cases h3 : j = 21 <;> simp [rd, z_up, h1, h2, h3]
  · simp [rd, z_up, h]
theorem rd_u21 : z_up (rd M t l b) 55 21 x = rd M t l x := by
  funext i j
  by_cases h : i = 55
  · subst h; by_cases h1 : j = 19 <;> by_cases h2 : j = 20 <;> by_cases h3 : j = 21 <;> simp [rd, z_up, h1, h2, h3]
  · simp [rd, z_up, h]
theorem rd_ad (s : gS) : rd M ((s.1 : Int) + 1) (s.2.1 : Int) b = rd M ((g_ad s).1 : Int) ((g_ad s).2.1 : Int) b := by simp [g_ad]
theorem rd_lf (s : gS) : rd M ((s.1 : Int) + 1) ((s.2.1 : Int) + 1) b = rd M ((g_lf s).1 : Int) ((g_lf s).2.1 : Int) b := by simp [g_lf]
theorem rd_self : rd M (M 55 19) (M 55 20) (M 55 21) = M := by
  funext i j
  by_cases h : i = 55
  · subst h; by_cases h1 : j = 19 <;> by_cases h2 : j = 20 <;> by_cases h3 : j = 21 <;> simp [rd, z_up, h1, h2, h3]
  · simp [rd, z_up, h]
end RD
/-- what a reader leaves -/
def rdo (M : zMem) (res : gR) (M' : zMem) : Prop := match res with
  | .inl t => ∃ x y : Int, M' = rd M x y (M 66 t)
  | .inr q => M' = rd M (q.1.1 : Int) (q.1.2.1 : Int) (-1)
def rdA (M : zMem) (n : Nat) : Prop := TK (M 64) (M 65) n ∧ ∀ i, i ≤ n → 0 ≤ M 66 i
def rdO (M : zMem) (o : Bool) : Prop := M 55 10 = (if o = true then 1 else 0) ∧ M 55 8 = (if o = true then 14 else 8) ∧ M 55 9 = (if o = true then 20 else 17)

set_option maxRecDepth 100000 in
set_option maxHeartbeats 4000000 in
theorem c_X11_signOf {d sz : Nat} {S : zSh} {M : zMem} {x : Int} (hx : 0 ≤ x ∧ x ≤ 255) : zX d 0 0 mX11_signOf [zi x] sz S M (zI sz S (fun r M' => r = 100 + x ∧ M' = M)) := by
  refine zX_of pl_RX11 [some (zi x)] 0 rfl rfl ?_
  refine x_bipush 2 rfl dX11_signOf_0 (by decide) ?_
  refine x_iload_n 3 rfl dX11_signOf_2 0 rfl rfl ?_
  refine y_iadd 4 rfl dX11_signOf_3 (by omega) ?_
  refine x_reti dX11_signOf_4 rfl ?_
  exact ⟨rfl, rfl⟩

set_option maxRecDepth 100000 in
set_option maxHeartbeats 4000000 in
theorem c_X11_fine1 {d sz : Nat} {S : zSh} {M : zMem} (hL : LY S sz) {t l : Int} : zX d 0 0 mX11_fine [zn 55] sz S (rd M t l (-1)) (zI sz S (fun r M' => r = 1 ∧ M' = rd M t l (-1))) := by
  refine zX_of pl_RX11 [some (zn 55)] 0 rfl rfl ?_
  refine x_aload_n 1 rfl dX11_fine_0 0 rfl rfl ?_
  refine x_geti 4 rfl fX11_162 dX11_fine_1 (lyl55 hL) (lys55 hL) (by decide) ?_
  try simp (disch := omega) only [z_up_ne, z_up_nk, z_up_eq, z_mup_ne, z_mup_eq, Int.reduceToNat, Int.toNat_natCast, rd_19, rd_20, rd_21, rd_o, rd_ne, rd_u19, rd_u20, rd_u21]
  refine x_iconst 5 rfl dX11_fine_4 (by decide) ?_
  refine x_icmp_ne 8 12 rfl dX11_fine_5 (by decide) (fun c5 => ?_) (fun c5 => ?_)
  · exfalso; omega
  · refine x_iconst 9 rfl dX11_fine_8 (by decide) ?_
    refine x_goto 13 dX11_fine_9 (by decide) ?_
    refine x_retz dX11_fine_13 rfl (by omega) ?_
    exact ⟨rfl, rfl⟩

set_option maxRecDepth 100000 in
set_option maxHeartbeats 4000000 in
theorem c_X11_fine0 {d sz : Nat} {S : zSh} {M : zMem} (hL : LY S sz) {t l b : Int} (hb : b ≠ -1)  : zX d 0 0 mX11_fine [zn 55] sz S (rd M t l b) (zI sz S (fun r M' => r = 0 ∧ M' = rd M t l b)) := by
  refine zX_of pl_RX11 [some (zn 55)] 0 rfl rfl ?_
  refine x_aload_n 1 rfl dX11_fine_0 0 rfl rfl ?_
  refine x_geti 4 rfl fX11_162 dX11_fine_1 (lyl55 hL) (lys55 hL) (by decide) ?_
  try simp (disch := omega) only [z_up_ne, z_up_nk, z_up_eq, z_mup_ne, z_mup_eq, Int.reduceToNat, Int.toNat_natCast, rd_19, rd_20, rd_21, rd_o, rd_ne, rd_u19, rd_u20, rd_u21]
  refine x_iconst 5 rfl dX11_fine_4 (by decide) ?_
  refine x_icmp_ne 8 12 rfl dX11_fine_5 (by decide) (fun c5 => ?_) (fun c5 => ?_)
  · refine x_iconst 13 rfl dX11_fine_12 (by decide) ?_
    refine x_retz dX11_fine_13 rfl (by omega) ?_
    exact ⟨rfl, rfl⟩
  · exfalso; omega

set_option maxRecDepth 100000 in
set_option maxHeartbeats 4000000 in
theorem c_X11_faults1 {d sz : Nat} {S : zSh} {M : zMem} (hL : LY S sz) {t l : Int} (ht : 0 ≤ t ∧ t ≤ 400) : zX (d + 1) 0 0 mX11_faults [zn 55] sz S (rd M t l (-1)) (zU sz S (fun M' => M' = rd M t l (M 66 t.toNat))) := by
  refine zX_of pl_RX11 [some (zn 55)] 0 rfl rfl ?_
  refine x_aload_n 1 rfl dX11_faults_0 0 rfl rfl ?_
  refine x_cVi 4 rfl lX11_165 dX11_faults_1 (lyl55 hL) (lys55 hL) (c_X11_fine1 hL) rfl rfl (Nat.le_of_ble_eq_true rfl) (fun r M1 hr1 => ?_)
  obtain ⟨rfl, hM1⟩ := hr1
  rw [hM1]
  refine x_if_eq 7 20 rfl dX11_faults_4 (by decide) (fun c4 => ?_) (fun c4 => ?_)
  · exfalso; omega
  · refine x_aload_n 8 rfl dX11_faults_7 0 rfl rfl ?_
    refine x_aload_n 9 rfl dX11_faults_8 0 rfl rfl ?_
    refine x_getr 12 rfl fX11_56 dX11_faults_9 (lyl55 hL) (lys55 hL) (by decide) (66) rfl ?_
    refine x_aload_n 13 rfl dX11_faults_12 0 rfl rfl ?_
    refine x_geti 16 rfl fX11_169 dX11_faults_13 (lyl55 hL) (lys55 hL) (by decide) ?_
    try simp (disch := omega) only [z_up_ne, z_up_nk, z_up_eq, z_mup_ne, z_mup_eq, Int.reduceToNat, Int.toNat_natCast, rd_19, rd_20, rd_21, rd_o, rd_ne, rd_u19, rd_u20, rd_u21]
    refine x_iald 17 rfl dX11_faults_16 (lyl66 hL) (lys66 hL) (by omega) (by omega) ?_
    try simp (disch := omega) only [z_up_ne, z_up_nk, z_up_eq, z_mup_ne, z_mup_eq, Int.reduceToNat, Int.toNat_natCast, rd_19, rd_20, rd_21, rd_o, rd_ne, rd_u19, rd_u20, rd_u21]
    refine x_puti 20 rfl fX11_162 dX11_faults_17 (lyl55 hL) (lys55 hL) (by decide) ?_
    try simp only [rd_19, rd_20, rd_21, rd_o, rd_ne, rd_u19, rd_u20, rd_u21]
    refine x_retu dX11_faults_20 rfl ?_
    rfl

set_option maxRecDepth 100000 in
set_option maxHeartbeats 4000000 in
theorem c_X11_faults0 {d sz : Nat} {S : zSh} {M : zMem} (hL : LY S sz) {t l b : Int} (hb : b ≠ -1)  : zX (d + 1) 0 0 mX11_faults [zn 55] sz S (rd M t l b) (zU sz S (fun M' => M' = rd M t l b)) := by
  refine zX_of pl_RX11 [some (zn 55)] 0 rfl rfl ?_
  refine x_aload_n 1 rfl dX11_faults_0 0 rfl rfl ?_
  refine x_cVi 4 rfl lX11_165 dX11_faults_1 (lyl55 hL) (lys55 hL) (c_X11_fine0 hL hb) rfl rfl (Nat.le_of_ble_eq_true rfl) (fun r M1 hr1 => ?_)
  obtain ⟨rfl, hM1⟩ := hr1
  rw [hM1]
  refine x_if_eq 7 20 rfl dX11_faults_4 (by decide) (fun c4 => ?_) (fun c4 => ?_)
  · refine x_retu dX11_faults_20 rfl ?_
    rfl
  · exfalso; omega

set_option maxRecDepth 100000 in
set_option maxHeartbeats 4000000 in
theorem c_X11_takes1 {d sz : Nat} {S : zSh} {M : zMem} (hL : LY S sz) {n : Nat} (hR : rdA M n) {s : gS} (hA : gA n s) {x : Int} : zX (d + 1) 0 0 mX11_takes0 [zn 55, zi x] sz S (rd M (s.1 : Int) (s.2.1 : Int) (-1)) (zI sz S (fun r M' => (M 64 s.1 = x ∧ r = 1 ∧ M' = rd M ((g_ad s).1 : Int) ((g_ad s).2.1 : Int) (-1)) ∨ (M 64 s.1 ≠ x ∧ r = 0 ∧ M' = rd M (s.1 : Int) (s.2.1 : Int) (-1)))) := by
  have hA1 := hA.1
  have hA2 := hA.2.1
  have hn := hR.1.1
  refine zX_of pl_RX11 [some (zn 55), some (zi x), none] 1 rfl rfl ?_
  refine x_aload_n 1 rfl dX11_takes0_0 0 rfl rfl ?_
  refine x_cVi 4 rfl lX11_165 dX11_takes0_1 (lyl55 hL) (lys55 hL) (c_X11_fine1 hL) rfl rfl (Nat.le_of_ble_eq_true rfl) (fun r M1 hr1 => ?_)
  obtain ⟨rfl, hM1⟩ := hr1
  rw [hM1]
  refine x_if_eq 7 24 rfl dX11_takes0_4 (by decide) (fun c4 => ?_) (fun c4 => ?_)
  · exfalso; omega
  · refine x_aload_n 8 rfl dX11_takes0_7 0 rfl rfl ?_
    refine x_getr 11 rfl fX11_50 dX11_takes0_8 (lyl55 hL) (lys55 hL) (by decide) (64) rfl ?_
    refine x_aload_n 12 rfl dX11_takes0_11 0 rfl rfl ?_
    refine x_geti 15 rfl fX11_169 dX11_takes0_12 (lyl55 hL) (lys55 hL) (by decide) ?_
    try simp (disch := omega) only [z_up_ne, z_up_nk, z_up_eq, z_mup_ne, z_mup_eq, Int.reduceToNat, Int.toNat_natCast, rd_19, rd_20, rd_21, rd_o, rd_ne, rd_u19, rd_u20, rd_u21]
    refine x_iald 16 rfl dX11_takes0_15 (lyl64 hL) (lys64 hL) (by omega) (by omega) ?_
    try simp (disch := omega) only [z_up_ne, z_up_nk, z_up_eq, z_mup_ne, z_mup_eq, Int.reduceToNat, Int.toNat_natCast, rd_19, rd_20, rd_21, rd_o, rd_ne, rd_u19, rd_u20, rd_u21]
    refine x_iload_n 17 rfl dX11_takes0_16 1 rfl rfl ?_
    refine x_icmp_ne 20 24 rfl dX11_takes0_17 (by decide) (fun c17 => ?_) (fun c17 => ?_)
    · refine x_iconst 25 rfl dX11_takes0_24 (by decide) ?_
      refine y_istore_n 26 rfl dX11_takes0_25 rfl rfl (ls' := [_, _, _]) rfl (by decide) ?_
      refine x_iload_n 27 rfl dX11_takes0_26 2 rfl rfl ?_
      refine x_if_eq 30 40 rfl dX11_takes0_27 (by decide) (fun c27 => ?_) (fun c27 => ?_)
      · refine x_iload_n 41 rfl dX11_takes0_40 2 rfl rfl ?_
        refine x_retz dX11_takes0_41 rfl (by omega) ?_
        right; exact ⟨by omega, rfl, rfl⟩
      · exfalso; omega
    · refine x_iconst 21 rfl dX11_takes0_20 (by decide) ?_
      refine x_goto 25 dX11_takes0_21 (by decide) ?_
      refine y_istore_n 26 rfl dX11_takes0_25 rfl rfl (ls' := [_, _, _]) rfl (by decide) ?_
      refine x_iload_n 27 rfl dX11_takes0_26 2 rfl rfl ?_
      refine x_if_eq 30 40 rfl dX11_takes0_27 (by decide) (fun c27 => ?_) (fun c27 => ?_)
      · exfalso; omega
      · refine x_aload_n 31 rfl dX11_takes0_30 0 rfl rfl ?_
        refine x_dupr 32 rfl dX11_takes0_31 ?_
        refine x_geti 35 rfl fX11_169 dX11_takes0_32 (lyl55 hL) (lys55 hL) (by decide) ?_
        try simp (disch := omega) only [z_up_ne, z_up_nk, z_up_eq, z_mup_ne, z_mup_eq, Int.reduceToNat, Int.toNat_natCast, rd_19, rd_20, rd_21, rd_o, rd_ne, rd_u19, rd_u20, rd_u21]
        refine x_iconst 36 rfl dX11_takes0_35 (by decide) ?_
        refine y_iadd 37 rfl dX11_takes0_36 (by omega) ?_
        refine x_puti 40 rfl fX11_169 dX11_takes0_37 (lyl55 hL) (lys55 hL) (by decide) ?_
        try simp only [rd_19, rd_20, rd_21, rd_o, rd_ne, rd_u19, rd_u20, rd_u21]
        rw [rd_ad s]
        refine x_iload_n 41 rfl dX11_takes0_40 2 rfl rfl ?_
        refine x_retz dX11_takes0_41 rfl (by omega) ?_
        left; exact ⟨by omega, rfl, rfl⟩

set_option maxRecDepth 100000 in
set_option maxHeartbeats 4000000 in
theorem c_X11_takes0 {d sz : Nat} {S : zSh} {M : zMem} (hL : LY S sz) {t l b : Int} (hb : b ≠ -1) {x : Int} : zX (d + 1) 0 0 mX11_takes0 [zn 55, zi x] sz S (rd M t l b) (zI sz S (fun r M' => r = 0 ∧ M' = rd M t l b)) := by
  refine zX_of pl_RX11 [some (zn 55), some (zi x), none] 1 rfl rfl ?_
  refine x_aload_n 1 rfl dX11_takes0_0 0 rfl rfl ?_
  refine x_cVi 4 rfl lX11_165 dX11_takes0_1 (lyl55 hL) (lys55 hL) (c_X11_fine0 hL hb) rfl rfl (Nat.le_of_ble_eq_true rfl) (fun r M1 hr1 => ?_)
  obtain ⟨rfl, hM1⟩ := hr1
  rw [hM1]
  refine x_if_eq 7 24 rfl dX11_takes0_4 (by decide) (fun c4 => ?_) (fun c4 => ?_)
  · refine x_iconst 25 rfl dX11_takes0_24 (by decide) ?_
    refine y_istore_n 26 rfl dX11_takes0_25 rfl rfl (ls' := [_, _, _]) rfl (by decide) ?_
    refine x_iload_n 27 rfl dX11_takes0_26 2 rfl rfl ?_
    refine x_if_eq 30 40 rfl dX11_takes0_27 (by decide) (fun c27 => ?_) (fun c27 => ?_)
    · refine x_iload_n 41 rfl dX11_takes0_40 2 rfl rfl ?_
      refine x_retz dX11_takes0_41 rfl (by omega) ?_
      exact ⟨rfl, rfl⟩
    · exfalso; omega
  · exfalso; omega

set_option maxRecDepth 100000 in
set_option maxHeartbeats 4000000 in
theorem c_X11_must1 {d sz : Nat} {S : zSh} {M : zMem} (hL : LY S sz) {n : Nat} (hR : rdA M n) {s : gS} (hA : gA n s) {x : Int} : zX (d + 2) 0 0 mX11_must [zn 55, zi x] sz S (rd M (s.1 : Int) (s.2.1 : Int) (-1)) (zU sz S (fun M' => (M 64 s.1 = x ∧ M' = rd M ((g_ad s).1 : Int) ((g_ad s).2.1 : Int) (-1)) ∨ (M 64 s.1 ≠ x ∧ M' = rd M (s.1 : Int) (s.2.1 : Int) (M 66 s.1)))) := by
  have hA1 := hA.1
  have hA2 := hA.2.1
  have hn := hR.1.1
  refine zX_of pl_RX11 [some (zn 55), some (zi x)] 0 rfl rfl ?_
  refine x_aload_n 1 rfl dX11_must_0 0 rfl rfl ?_
  refine x_iload_n 2 rfl dX11_must_1 1 rfl rfl ?_
  refine x_cVi 5 rfl lX11_172 dX11_must_2 (lyl55 hL) (lys55 hL) (c_X11_takes1 hL hR hA) rfl rfl (Nat.le_of_ble_eq_true rfl) (fun r M1 hr1 => ?_)
  rcases hr1 with ⟨hx, rfl, hM1⟩ | ⟨hx, rfl, hM1⟩
  · rw [hM1]
    refine x_if_ne 8 12 rfl dX11_must_5 (by decide) (fun c5 => ?_) (fun c5 => ?_)
    · refine x_retu dX11_must_12 rfl ?_
      left; exact ⟨hx, rfl⟩
    · exfalso; omega
  · rw [hM1]
    refine x_if_ne 8 12 rfl dX11_must_5 (by decide) (fun c5 => ?_) (fun c5 => ?_)
    · exfalso; omega
    · refine x_aload_n 9 rfl dX11_must_8 0 rfl rfl ?_
      refine x_cVu 12 rfl lX11_175 dX11_must_9 (lyl55 hL) (lys55 hL) (c_X11_faults1 hL (by omega)) rfl rfl (Nat.le_of_ble_eq_true rfl) (fun M1 hM1 => ?_)
      rw [hM1]
      refine x_retu dX11_must_12 rfl ?_
      right; exact ⟨hx, rfl⟩

set_option maxRecDepth 100000 in
set_option maxHeartbeats 4000000 in
theorem c_X11_must0 {d sz : Nat} {S : zSh} {M : zMem} (hL : LY S sz) {t l b : Int} (hb : b ≠ -1) {x : Int} : zX (d + 2) 0 0 mX11_must [zn 55, zi x] sz S (rd M t l b) (zU sz S (fun M' => M' = rd M t l b)) := by
  refine zX_of pl_RX11 [some (zn 55), some (zi x)] 0 rfl rfl ?_
  refine x_aload_n 1 rfl dX11_must_0 0 rfl rfl ?_
  refine x_iload_n 2 rfl dX11_must_1 1 rfl rfl ?_
  refine x_cVi 5 rfl lX11_172 dX11_must_2 (lyl55 hL) (lys55 hL) (c_X11_takes0 hL hb) rfl rfl (Nat.le_of_ble_eq_true rfl) (fun r M1 hr1 => ?_)
  obtain ⟨rfl, hM1⟩ := hr1
  rw [hM1]
  refine x_if_ne 8 12 rfl dX11_must_5 (by decide) (fun c5 => ?_) (fun c5 => ?_)
  · exfalso; omega
  · refine x_aload_n 9 rfl dX11_must_8 0 rfl rfl ?_
    refine x_cVu 12 rfl lX11_175 dX11_must_9 (lyl55 hL) (lys55 hL) (c_X11_faults0 hL hb) rfl rfl (Nat.le_of_ble_eq_true rfl) (fun M1 hM1 => ?_)
    rw [hM1]
    refine x_retu dX11_must_12 rfl ?_
    rfl

set_option maxRecDepth 100000 in
set_option maxHeartbeats 4000000 in
theorem c_X11_leaf1 {d sz : Nat} {S : zSh} {M : zMem} (hL : LY S sz) {n : Nat} (hR : rdA M n) {s : gS} (hA : gA n s) (hl : s.2.1 ≠ 50) : zX (d + 2) 0 0 mX11_leaf [zn 55] sz S (rd M (s.1 : Int) (s.2.1 : Int) (-1)) (zU sz S (fun M' => M' = rd M ((g_lf s).1 : Int) ((g_lf s).2.1 : Int) (-1))) := by
  have hA1 := hA.1
  have hA2 := hA.2.1
  have hn := hR.1.1
  refine zX_of pl_RX11 [some (zn 55)] 0 rfl rfl ?_
  refine x_aload_n 1 rfl dX11_leaf_0 0 rfl rfl ?_
  refine x_geti 4 rfl fX11_178 dX11_leaf_1 (lyl55 hL) (lys55 hL) (by decide) ?_
  try simp (disch := omega) only [z_up_ne, z_up_nk, z_up_eq, z_mup_ne, z_mup_eq, Int.reduceToNat, Int.toNat_natCast, rd_19, rd_20, rd_21, rd_o, rd_ne, rd_u19, rd_u20, rd_u21]
  refine x_bipush 6 rfl dX11_leaf_4 (by decide) ?_
  refine x_icmp_ne 9 13 rfl dX11_leaf_6 (by decide) (fun c6 => ?_) (fun c6 => ?_)
  · refine x_aload_n 14 rfl dX11_leaf_13 0 rfl rfl ?_
    refine x_dupr 15 rfl dX11_leaf_14 ?_
    refine x_geti 18 rfl fX11_178 dX11_leaf_15 (lyl55 hL) (lys55 hL) (by decide) ?_
    try simp (disch := omega) only [z_up_ne, z_up_nk, z_up_eq, z_mup_ne, z_mup_eq, Int.reduceToNat, Int.toNat_natCast, rd_19, rd_20, rd_21, rd_o, rd_ne, rd_u19, rd_u20, rd_u21]
    refine x_iconst 19 rfl dX11_leaf_18 (by decide) ?_
    refine y_iadd 20 rfl dX11_leaf_19 (by omega) ?_
    refine x_puti 23 rfl fX11_178 dX11_leaf_20 (lyl55 hL) (lys55 hL) (by decide) ?_
    try simp only [rd_19, rd_20, rd_21, rd_o, rd_ne, rd_u19, rd_u20, rd_u21]
    refine x_aload_n 24 rfl dX11_leaf_23 0 rfl rfl ?_
    refine x_cVi 27 rfl lX11_165 dX11_leaf_24 (lyl55 hL) (lys55 hL) (c_X11_fine1 hL) rfl rfl (Nat.le_of_ble_eq_true rfl) (fun r M1 hr1 => ?_)
    obtain ⟨rfl, hM1⟩ := hr1
    rw [hM1]
    refine x_if_eq 30 40 rfl dX11_leaf_27 (by decide) (fun c27 => ?_) (fun c27 => ?_)
    · exfalso; omega
    · refine x_aload_n 31 rfl dX11_leaf_30 0 rfl rfl ?_
      refine x_dupr 32 rfl dX11_leaf_31 ?_
      refine x_geti 35 rfl fX11_169 dX11_leaf_32 (lyl55 hL) (lys55 hL) (by decide) ?_
      try simp (disch := omega) only [z_up_ne, z_up_nk, z_up_eq, z_mup_ne, z_mup_eq, Int.reduceToNat, Int.toNat_natCast, rd_19, rd_20, rd_21, rd_o, rd_ne, rd_u19, rd_u20, rd_u21]
      refine x_iconst 36 rfl dX11_leaf_35 (by decide) ?_
      refine y_iadd 37 rfl dX11_leaf_36 (by omega) ?_
      refine x_puti 40 rfl fX11_169 dX11_leaf_37 (lyl55 hL) (lys55 hL) (by decide) ?_
      try simp only [rd_19, rd_20, rd_21, rd_o, rd_ne, rd_u19, rd_u20, rd_u21]
      rw [rd_lf s]
      refine x_retu dX11_leaf_40 rfl ?_
      rfl
  · exfalso; omega

set_option maxRecDepth 100000 in
set_option maxHeartbeats 4000000 in
theorem c_X11_leaf0 {d sz : Nat} {S : zSh} {M : zMem} (hL : LY S sz) {n : Nat} (hR : rdA M n) {s : gS} (hA : gA n s) (hl : s.2.1 = 50) : zX (d + 2) 0 0 mX11_leaf [zn 55] sz S (rd M (s.1 : Int) (s.2.1 : Int) (-1)) (zU sz S (fun M' => M' = rd M (s.1 : Int) ((s.2.1 : Int) + 1) (M 66 s.1))) := by
  have hA1 := hA.1
  have hA2 := hA.2.1
  have hn := hR.1.1
  have hb : M 66 s.1 ≠ -1 := by have := hR.2 s.1 hA1; omega
  refine zX_of pl_RX11 [some (zn 55)] 0 rfl rfl ?_
  refine x_aload_n 1 rfl dX11_leaf_0 0 rfl rfl ?_
  refine x_geti 4 rfl fX11_178 dX11_leaf_1 (lyl55 hL) (lys55 hL) (by decide) ?_
  try simp (disch := omega) only [z_up_ne, z_up_nk, z_up_eq, z_mup_ne, z_mup_eq, Int.reduceToNat, Int.toNat_natCast, rd_19, rd_20, rd_21, rd_o, rd_ne, rd_u19, rd_u20, rd_u21]
  refine x_bipush 6 rfl dX11_leaf_4 (by decide) ?_
  refine x_icmp_ne 9 13 rfl dX11_leaf_6 (by decide) (fun c6 => ?_) (fun c6 => ?_)
  · exfalso; omega
  · refine x_aload_n 10 rfl dX11_leaf_9 0 rfl rfl ?_
    refine x_cVu 13 rfl lX11_175 dX11_leaf_10 (lyl55 hL) (lys55 hL) (c_X11_faults1 hL (by omega)) rfl rfl (Nat.le_of_ble_eq_true rfl) (fun M1 hM1 => ?_)
    rw [hM1]
    rw [Int.toNat_natCast]
    refine x_aload_n 14 rfl dX11_leaf_13 0 rfl rfl ?_
    refine x_dupr 15 rfl dX11_leaf_14 ?_
    refine x_geti 18 rfl fX11_178 dX11_leaf_15 (lyl55 hL) (lys55 hL) (by decide) ?_
    try simp (disch := omega) only [z_up_ne, z_up_nk, z_up_eq, z_mup_ne, z_mup_eq, Int.reduceToNat, Int.toNat_natCast, rd_19, rd_20, rd_21, rd_o, rd_ne, rd_u19, rd_u20, rd_u21]
    refine x_iconst 19 rfl dX11_leaf_18 (by decide) ?_
    refine y_iadd 20 rfl dX11_leaf_19 (by omega) ?_
    refine x_puti 23 rfl fX11_178 dX11_leaf_20 (lyl55 hL) (lys55 hL) (by decide) ?_
    try simp only [rd_19, rd_20, rd_21, rd_o, rd_ne, rd_u19, rd_u20, rd_u21]
    refine x_aload_n 24 rfl dX11_leaf_23 0 rfl rfl ?_
    refine x_cVi 27 rfl lX11_165 dX11_leaf_24 (lyl55 hL) (lys55 hL) (c_X11_fine0 hL hb) rfl rfl (Nat.le_of_ble_eq_true rfl) (fun r M1 hr1 => ?_)
    obtain ⟨rfl, hM1⟩ := hr1
    rw [hM1]
    refine x_if_eq 30 40 rfl dX11_leaf_27 (by decide) (fun c27 => ?_) (fun c27 => ?_)
    · refine x_retu dX11_leaf_40 rfl ?_
      rfl
    · exfalso; omega

set_option maxRecDepth 100000 in
set_option maxHeartbeats 4000000 in
theorem c_X11_mustN1 {d sz : Nat} {S : zSh} {M : zMem} (hL : LY S sz) {n : Nat} (hR : rdA M n) {s : gS} (hA : gA n s) {x y : Int} : zX (d + 2) 0 0 mX11_mustNumber [zn 55, zi x, zi y] sz S (rd M (s.1 : Int) (s.2.1 : Int) (-1)) (zU sz S (fun M' => ((M 64 s.1 = 50 ∧ x ≤ M 65 s.1 ∧ M 65 s.1 ≤ y) ∧ M' = rd M ((g_ad s).1 : Int) ((g_ad s).2.1 : Int) (-1)) ∨ (¬ (M 64 s.1 = 50 ∧ x ≤ M 65 s.1 ∧ M 65 s.1 ≤ y) ∧ M' = rd M (s.1 : Int) (s.2.1 : Int) (M 66 s.1)))) := by
  have hA1 := hA.1
  have hA2 := hA.2.1
  have hn := hR.1.1
  have hb : M 66 s.1 ≠ -1 := by have := hR.2 s.1 hA1; omega
  refine zX_of pl_RX11 [some (zn 55), some (zi x), some (zi y)] 0 rfl rfl ?_
  refine x_aload_n 1 rfl dX11_mustNumber_0 0 rfl rfl ?_
  refine x_cVi 4 rfl lX11_165 dX11_mustNumber_1 (lyl55 hL) (lys55 hL) (c_X11_fine1 hL) rfl rfl (Nat.le_of_ble_eq_true rfl) (fun r M1 hr1 => ?_)
  obtain ⟨rfl, hM1⟩ := hr1
  rw [hM1]
  refine x_if_eq 7 42 rfl dX11_mustNumber_4 (by decide) (fun c4 => ?_) (fun c4 => ?_)
  · exfalso; omega
  · refine x_aload_n 8 rfl dX11_mustNumber_7 0 rfl rfl ?_
    refine x_getr 11 rfl fX11_50 dX11_mustNumber_8 (lyl55 hL) (lys55 hL) (by decide) (64) rfl ?_
    refine x_aload_n 12 rfl dX11_mustNumber_11 0 rfl rfl ?_
    refine x_geti 15 rfl fX11_169 dX11_mustNumber_12 (lyl55 hL) (lys55 hL) (by decide) ?_
    try simp (disch := omega) only [z_up_ne, z_up_nk, z_up_eq, z_mup_ne, z_mup_eq, Int.reduceToNat, Int.toNat_natCast, rd_19, rd_20, rd_21, rd_o, rd_ne, rd_u19, rd_u20, rd_u21]
    refine x_iald 16 rfl dX11_mustNumber_15 (lyl64 hL) (lys64 hL) (by omega) (by omega) ?_
    try simp (disch := omega) only [z_up_ne, z_up_nk, z_up_eq, z_mup_ne, z_mup_eq, Int.reduceToNat, Int.toNat_natCast, rd_19, rd_20, rd_21, rd_o, rd_ne, rd_u19, rd_u20, rd_u21]
    refine x_bipush 18 rfl dX11_mustNumber_16 (by decide) ?_
    refine x_icmp_ne 21 38 rfl dX11_mustNumber_18 (by decide) (fun c18 => ?_) (fun c18 => ?_)
    · refine x_aload_n 39 rfl dX11_mustNumber_38 0 rfl rfl ?_
      refine x_cVu 42 rfl lX11_175 dX11_mustNumber_39 (lyl55 hL) (lys55 hL) (c_X11_faults1 hL (by omega)) rfl rfl (Nat.le_of_ble_eq_true rfl) (fun M1 hM1 => ?_)
      rw [hM1]
      rw [Int.toNat_natCast]
      refine x_aload_n 43 rfl dX11_mustNumber_42 0 rfl rfl ?_
      refine x_cVi 46 rfl lX11_165 dX11_mustNumber_43 (lyl55 hL) (lys55 hL) (c_X11_fine0 hL hb) rfl rfl (Nat.le_of_ble_eq_true rfl) (fun r M1 hr1 => ?_)
      obtain ⟨rfl, hM1⟩ := hr1
      rw [hM1]
      refine x_if_eq 49 59 rfl dX11_mustNumber_46 (by decide) (fun c46 => ?_) (fun c46 => ?_)
      · refine x_retu dX11_mustNumber_59 rfl ?_
        right; exact ⟨by omega, rfl⟩
      · exfalso; omega
    · refine x_aload_n 22 rfl dX11_mustNumber_21 0 rfl rfl ?_
      refine x_getr 25 rfl fX11_53 dX11_mustNumber_22 (lyl55 hL) (lys55 hL) (by decide) (65) rfl ?_
      refine x_aload_n 26 rfl dX11_mustNumber_25 0 rfl rfl ?_
      refine x_geti 29 rfl fX11_169 dX11_mustNumber_26 (lyl55 hL) (lys55 hL) (by decide) ?_
      try simp (disch := omega) only [z_up_ne, z_up_nk, z_up_eq, z_mup_ne, z_mup_eq, Int.reduceToNat, Int.toNat_natCast, rd_19, rd_20, rd_21, rd_o, rd_ne, rd_u19, rd_u20, rd_u21]
      refine x_iald 30 rfl dX11_mustNumber_29 (lyl65 hL) (lys65 hL) (by omega) (by omega) ?_
      try simp (disch := omega) only [z_up_ne, z_up_nk, z_up_eq, z_mup_ne, z_mup_eq, Int.reduceToNat, Int.toNat_natCast, rd_19, rd_20, rd_21, rd_o, rd_ne, rd_u19, rd_u20, rd_u21]
      refine x_iload_n 31 rfl dX11_mustNumber_30 1 rfl rfl ?_
      refine x_iload_n 32 rfl dX11_mustNumber_31 2 rfl rfl ?_
      refine x_cSi 35 rfl lX11_90 dX11_mustNumber_32 c_X11_lies rfl rfl (Nat.le_of_ble_eq_true rfl) (fun r M1 hr1 => ?_)
      obtain ⟨rfl, hM1⟩ := hr1
      rw [hM1]
      refine x_if_ne 38 42 rfl dX11_mustNumber_35 (by decide) (fun c35 => ?_) (fun c35 => ?_)
      · refine x_aload_n 43 rfl dX11_mustNumber_42 0 rfl rfl ?_
        refine x_cVi 46 rfl lX11_165 dX11_mustNumber_43 (lyl55 hL) (lys55 hL) (c_X11_fine1 hL) rfl rfl (Nat.le_of_ble_eq_true rfl) (fun r M1 hr1 => ?_)
        obtain ⟨rfl, hM1⟩ := hr1
        rw [hM1]
        refine x_if_eq 49 59 rfl dX11_mustNumber_46 (by decide) (fun c46 => ?_) (fun c46 => ?_)
        · exfalso; omega
        · refine x_aload_n 50 rfl dX11_mustNumber_49 0 rfl rfl ?_
          refine x_dupr 51 rfl dX11_mustNumber_50 ?_
          refine x_geti 54 rfl fX11_169 dX11_mustNumber_51 (lyl55 hL) (lys55 hL) (by decide) ?_
          try simp (disch := omega) only [z_up_ne, z_up_nk, z_up_eq, z_mup_ne, z_mup_eq, Int.reduceToNat, Int.toNat_natCast, rd_19, rd_20, rd_21, rd_o, rd_ne, rd_u19, rd_u20, rd_u21]
          refine x_iconst 55 rfl dX11_mustNumber_54 (by decide) ?_
          refine y_iadd 56 rfl dX11_mustNumber_55 (by omega) ?_
          refine x_puti 59 rfl fX11_169 dX11_mustNumber_56 (lyl55 hL) (lys55 hL) (by decide) ?_
          try simp only [rd_19, rd_20, rd_21, rd_o, rd_ne, rd_u19, rd_u20, rd_u21]
          rw [rd_ad s]
          refine x_retu dX11_mustNumber_59 rfl ?_
          left; exact ⟨by split at c35 <;> omega, rfl⟩
      · refine x_aload_n 39 rfl dX11_mustNumber_38 0 rfl rfl ?_
        refine x_cVu 42 rfl lX11_175 dX11_mustNumber_39 (lyl55 hL) (lys55 hL) (c_X11_faults1 hL (by omega)) rfl rfl (Nat.le_of_ble_eq_true rfl) (fun M1 hM1 => ?_)
        rw [hM1]
        rw [Int.toNat_natCast]
        refine x_aload_n 43 rfl dX11_mustNumber_42 0 rfl rfl ?_
        refine x_cVi 46 rfl lX11_165 dX11_mustNumber_43 (lyl55 hL) (lys55 hL) (c_X11_fine0 hL hb) rfl rfl (Nat.le_of_ble_eq_true rfl) (fun r M1 hr1 => ?_)
        obtain ⟨rfl, hM1⟩ := hr1
        rw [hM1]
        refine x_if_eq 49 59 rfl dX11_mustNumber_46 (by decide) (fun c46 => ?_) (fun c46 => ?_)
        · refine x_retu dX11_mustNumber_59 rfl ?_
          right; exact ⟨by split at c35 <;> omega, rfl⟩
        · exfalso; omega

set_option maxRecDepth 100000 in
set_option maxHeartbeats 4000000 in
theorem c_X11_mustN0 {d sz : Nat} {S : zSh} {M : zMem} (hL : LY S sz) {t l b : Int} (hb : b ≠ -1) {x y : Int} : zX (d + 2) 0 0 mX11_mustNumber [zn 55, zi x, zi y] sz S (rd M t l b) (zU sz S (fun M' => M' = rd M t l b)) := by
  refine zX_of pl_RX11 [some (zn 55), some (zi x), some (zi y)] 0 rfl rfl ?_
  refine x_aload_n 1 rfl dX11_mustNumber_0 0 rfl rfl ?_
  refine x_cVi 4 rfl lX11_165 dX11_mustNumber_1 (lyl55 hL) (lys55 hL) (c_X11_fine0 hL hb) rfl rfl (Nat.le_of_ble_eq_true rfl) (fun r M1 hr1 => ?_)
  obtain ⟨rfl, hM1⟩ := hr1
  rw [hM1]
  refine x_if_eq 7 42 rfl dX11_mustNumber_4 (by decide) (fun c4 => ?_) (fun c4 => ?_)
  · refine x_aload_n 43 rfl dX11_mustNumber_42 0 rfl rfl ?_
    refine x_cVi 46 rfl lX11_165 dX11_mustNumber_43 (lyl55 hL) (lys55 hL) (c_X11_fine0 hL hb) rfl rfl (Nat.le_of_ble_eq_true rfl) (fun r M1 hr1 => ?_)
    obtain ⟨rfl, hM1⟩ := hr1
    rw [hM1]
    refine x_if_eq 49 59 rfl dX11_mustNumber_46 (by decide) (fun c46 => ?_) (fun c46 => ?_)
    · refine x_retu dX11_mustNumber_59 rfl ?_
      rfl
    · exfalso; omega
  · exfalso; omega

set_option maxRecDepth 100000 in
set_option maxHeartbeats 4000000 in
theorem c_X11_readPart0 {d sz : Nat} {S : zSh} {M : zMem} (hL : LY S sz) {t l b : Int} (hb : b ≠ -1) {x : Int} : zX (d + 1) 0 0 mX11_readPart [zn 55, zi x] sz S (rd M t l b) (zU sz S (fun M' => M' = rd M t l b)) := by
  refine zX_of pl_RX11 [some (zn 55), some (zi x), none] 1 rfl rfl ?_
  refine x_aload_n 1 rfl dX11_readPart_0 0 rfl rfl ?_
  refine x_cVi 4 rfl lX11_165 dX11_readPart_1 (lyl55 hL) (lys55 hL) (c_X11_fine0 hL hb) rfl rfl (Nat.le_of_ble_eq_true rfl) (fun r M1 hr1 => ?_)
  obtain ⟨rfl, hM1⟩ := hr1
  rw [hM1]
  refine x_if_ne 7 8 rfl dX11_readPart_4 (by decide) (fun c4 => ?_) (fun c4 => ?_)
  · exfalso; omega
  · refine x_retu dX11_readPart_7 rfl ?_
    rfl

set_option maxRecDepth 100000 in
set_option maxHeartbeats 4000000 in
theorem c_X11_readTerm0 {d sz : Nat} {S : zSh} {M : zMem} (hL : LY S sz) {t l b : Int} (hb : b ≠ -1) {x : Int} : zX (d + 2) 0 0 mX11_readTerm [zn 55, zi x] sz S (rd M t l b) (zU sz S (fun M' => M' = rd M t l b)) := by
  refine zX_of pl_RX11 [some (zn 55), some (zi x)] 0 rfl rfl ?_
  refine x_aload_n 1 rfl dX11_readTerm_0 0 rfl rfl ?_
  refine x_iload_n 2 rfl dX11_readTerm_1 1 rfl rfl ?_
  refine x_cVu 5 rfl lX11_218 dX11_readTerm_2 (lyl55 hL) (lys55 hL) (c_X11_readPart0 hL hb) rfl rfl (Nat.le_of_ble_eq_true rfl) (fun M1 hM1 => ?_)
  rw [hM1]
  refine x_aload_n 6 rfl dX11_readTerm_5 0 rfl rfl ?_
  refine x_bipush 8 rfl dX11_readTerm_6 (by decide) ?_
  refine x_cSi 11 rfl lX11_211 dX11_readTerm_8 (c_X11_signOf (by decide)) rfl rfl (Nat.le_of_ble_eq_true rfl) (fun r M1 hr1 => ?_)
  obtain ⟨rfl, hM1⟩ := hr1
  rw [hM1]
  refine x_cVi 14 rfl lX11_172 dX11_readTerm_11 (lyl55 hL) (lys55 hL) (c_X11_takes0 hL hb) rfl rfl (Nat.le_of_ble_eq_true rfl) (fun r M1 hr1 => ?_)
  obtain ⟨rfl, hM1⟩ := hr1
  rw [hM1]
  refine x_if_ne 17 41 rfl dX11_readTerm_14 (by decide) (fun c14 => ?_) (fun c14 => ?_)
  · exfalso; omega
  · refine x_aload_n 18 rfl dX11_readTerm_17 0 rfl rfl ?_
    refine x_bipush 20 rfl dX11_readTerm_18 (by decide) ?_
    refine x_cSi 23 rfl lX11_211 dX11_readTerm_20 (c_X11_signOf (by decide)) rfl rfl (Nat.le_of_ble_eq_true rfl) (fun r M1 hr1 => ?_)
    obtain ⟨rfl, hM1⟩ := hr1
    rw [hM1]
    refine x_cVi 26 rfl lX11_172 dX11_readTerm_23 (lyl55 hL) (lys55 hL) (c_X11_takes0 hL hb) rfl rfl (Nat.le_of_ble_eq_true rfl) (fun r M1 hr1 => ?_)
    obtain ⟨rfl, hM1⟩ := hr1
    rw [hM1]
    refine x_if_ne 29 41 rfl dX11_readTerm_26 (by decide) (fun c26 => ?_) (fun c26 => ?_)
    · exfalso; omega
    · refine x_aload_n 30 rfl dX11_readTerm_29 0 rfl rfl ?_
      refine x_bipush 32 rfl dX11_readTerm_30 (by decide) ?_
      refine x_cSi 35 rfl lX11_211 dX11_readTerm_32 (c_X11_signOf (by decide)) rfl rfl (Nat.le_of_ble_eq_true rfl) (fun r M1 hr1 => ?_)
      obtain ⟨rfl, hM1⟩ := hr1
      rw [hM1]
      refine x_cVi 38 rfl lX11_172 dX11_readTerm_35 (lyl55 hL) (lys55 hL) (c_X11_takes0 hL hb) rfl rfl (Nat.le_of_ble_eq_true rfl) (fun r M1 hr1 => ?_)
      obtain ⟨rfl, hM1⟩ := hr1
      rw [hM1]
      refine x_if_eq 41 49 rfl dX11_readTerm_38 (by decide) (fun c38 => ?_) (fun c38 => ?_)
      · refine x_retu dX11_readTerm_49 rfl ?_
        rfl
      · exfalso; omega

set_option maxRecDepth 100000 in
set_option maxHeartbeats 4000000 in
theorem c_X11_readSum0 {d sz : Nat} {S : zSh} {M : zMem} (hL : LY S sz) {t l b : Int} (hb : b ≠ -1) {x : Int} : zX (d + 3) 0 0 mX11_readSum [zn 55, zi x] sz S (rd M t l b) (zU sz S (fun M' => M' = rd M t l b)) := by
  refine zX_of pl_RX11 [some (zn 55), some (zi x)] 0 rfl rfl ?_
  refine x_aload_n 1 rfl dX11_readSum_0 0 rfl rfl ?_
  refine x_iload_n 2 rfl dX11_readSum_1 1 rfl rfl ?_
  refine x_cVu 5 rfl lX11_215 dX11_readSum_2 (lyl55 hL) (lys55 hL) (c_X11_readTerm0 hL hb) rfl rfl (Nat.le_of_ble_eq_true rfl) (fun M1 hM1 => ?_)
  rw [hM1]
  refine x_aload_n 6 rfl dX11_readSum_5 0 rfl rfl ?_
  refine x_bipush 8 rfl dX11_readSum_6 (by decide) ?_
  refine x_cSi 11 rfl lX11_211 dX11_readSum_8 (c_X11_signOf (by decide)) rfl rfl (Nat.le_of_ble_eq_true rfl) (fun r M1 hr1 => ?_)
  obtain ⟨rfl, hM1⟩ := hr1
  rw [hM1]
  refine x_cVi 14 rfl lX11_172 dX11_readSum_11 (lyl55 hL) (lys55 hL) (c_X11_takes0 hL hb) rfl rfl (Nat.le_of_ble_eq_true rfl) (fun r M1 hr1 => ?_)
  obtain ⟨rfl, hM1⟩ := hr1
  rw [hM1]
  refine x_if_ne 17 29 rfl dX11_readSum_14 (by decide) (fun c14 => ?_) (fun c14 => ?_)
  · exfalso; omega
  · refine x_aload_n 18 rfl dX11_readSum_17 0 rfl rfl ?_
    refine x_bipush 20 rfl dX11_readSum_18 (by decide) ?_
    refine x_cSi 23 rfl lX11_211 dX11_readSum_20 (c_X11_signOf (by decide)) rfl rfl (Nat.le_of_ble_eq_true rfl) (fun r M1 hr1 => ?_)
    obtain ⟨rfl, hM1⟩ := hr1
    rw [hM1]
    refine x_cVi 26 rfl lX11_172 dX11_readSum_23 (lyl55 hL) (lys55 hL) (c_X11_takes0 hL hb) rfl rfl (Nat.le_of_ble_eq_true rfl) (fun r M1 hr1 => ?_)
    obtain ⟨rfl, hM1⟩ := hr1
    rw [hM1]
    refine x_if_eq 29 37 rfl dX11_readSum_26 (by decide) (fun c26 => ?_) (fun c26 => ?_)
    · refine x_retu dX11_readSum_37 rfl ?_
      rfl
    · exfalso; omega

theorem gA_lf {n : Nat} {s : gS} (hA : gA n s) (hl : s.2.1 ≠ 50) (ht : s.1 < n) : gA n (g_lf s) := ⟨ht, by have := hA.2.1; show s.2.1 + 1 ≤ 50; omega, by have := hA.2.2; show s.2.2.1 ≤ s.1 + 1; omega⟩
theorem g_lf1 (s : gS) : (g_lf s).1 = s.1 + 1 := rfl

set_option maxRecDepth 100000 in
set_option maxHeartbeats 4000000 in
theorem c_X11_readPart {d sz : Nat} {S : zSh} {M : zMem} (hL : LY S sz) {n : Nat} (hR : rdA M n) {s : gS} (hA : gA n s) {o : Bool} (hO : rdO M o) {inner : Option (gS → gR)} {dp : Nat} (hdp : dp ≤ 8) (hin : (inner = none ∧ dp = 8) ∨ ∃ f, inner = some f ∧ dp < 8 ∧ gG n f ∧ ∀ s1, gA n s1 → zX (d + 2) 0 0 mX11_readSum [zn 55, zi ((dp : Int) + 1)] sz S (rd M (s1.1 : Int) (s1.2.1 : Int) (-1)) (zU sz S (fun M' => rdo M (f s1) M')))  : zX (d + 3) 0 0 mX11_readPart [zn 55, zi (dp : Int)] sz S (rd M (s.1 : Int) (s.2.1 : Int) (-1)) (zU sz S (fun M' => rdo M (g_part (M 64) (M 65) o inner s) M')) := by
  have hA1 := hA.1
  have hA2 := hA.2.1
  have hn := hR.1.1
  have hc0 := hR.1.2.2.1 s.1 hA1
  have hv0 := hR.1.2.2.2 s.1 hA1
  have hb : M 66 s.1 ≠ -1 := by have := hR.2 s.1 hA1; omega
  obtain ⟨ho1, ho2, ho3⟩ := hO
  refine zX_of pl_RX11 [some (zn 55), some (zi (dp : Int)), none] 1 rfl rfl ?_
  refine x_aload_n 1 rfl dX11_readPart_0 0 rfl rfl ?_
  refine x_cVi 4 rfl lX11_165 dX11_readPart_1 (lyl55 hL) (lys55 hL) (c_X11_fine1 hL) rfl rfl (Nat.le_of_ble_eq_true rfl) (fun r M1 hr1 => ?_)
  obtain ⟨rfl, hM1⟩ := hr1
  rw [hM1]
  refine x_if_ne 7 8 rfl dX11_readPart_4 (by decide) (fun c4 => ?_) (fun c4 => ?_)
  · refine x_aload_n 9 rfl dX11_readPart_8 0 rfl rfl ?_
    refine x_getr 12 rfl fX11_50 dX11_readPart_9 (lyl55 hL) (lys55 hL) (by decide) (64) rfl ?_
    refine x_aload_n 13 rfl dX11_readPart_12 0 rfl rfl ?_
    refine x_geti 16 rfl fX11_169 dX11_readPart_13 (lyl55 hL) (lys55 hL) (by decide) ?_
    try simp (disch := omega) only [z_up_ne, z_up_nk, z_up_eq, z_mup_ne, z_mup_eq, Int.reduceToNat, Int.toNat_natCast, rd_19, rd_20, rd_21, rd_o, rd_ne, rd_u19, rd_u20, rd_u21]
    refine x_iald 17 rfl dX11_readPart_16 (lyl64 hL) (lys64 hL) (by omega) (by omega) ?_
    try simp (disch := omega) only [z_up_ne, z_up_nk, z_up_eq, z_mup_ne, z_mup_eq, Int.reduceToNat, Int.toNat_natCast, rd_19, rd_20, rd_21, rd_o, rd_ne, rd_u19, rd_u20, rd_u21]
    refine y_istore_n 18 rfl dX11_readPart_17 rfl rfl (ls' := [_, _, _]) rfl (by decide) ?_
    refine x_iload_n 19 rfl dX11_readPart_18 2 rfl rfl ?_
    refine x_bipush 21 rfl dX11_readPart_19 (by decide) ?_
    refine x_cSi 24 rfl lX11_211 dX11_readPart_21 (c_X11_signOf (by decide)) rfl rfl (Nat.le_of_ble_eq_true rfl) (fun r M1 hr1 => ?_)
    obtain ⟨rfl, hM1⟩ := hr1
    rw [hM1]
    refine x_icmp_ne 27 74 rfl dX11_readPart_24 (by decide) (fun c24 => ?_) (fun c24 => ?_)
    · refine x_iload_n 75 rfl dX11_readPart_74 2 rfl rfl ?_
      refine x_bipush 77 rfl dX11_readPart_75 (by decide) ?_
      refine x_icmp_ne 80 95 rfl dX11_readPart_77 (by decide) (fun c77 => ?_) (fun c77 => ?_)
      · refine x_iload_n 96 rfl dX11_readPart_95 2 rfl rfl ?_
        refine x_aload_n 97 rfl dX11_readPart_96 0 rfl rfl ?_
        refine x_geti 100 rfl fX11_221 dX11_readPart_97 (lyl55 hL) (lys55 hL) (by decide) ?_
        try simp (disch := omega) only [z_up_ne, z_up_nk, z_up_eq, z_mup_ne, z_mup_eq, Int.reduceToNat, Int.toNat_natCast, rd_19, rd_20, rd_21, rd_o, rd_ne, rd_u19, rd_u20, rd_u21]
        refine x_icmp_lt 103 157 rfl dX11_readPart_100 (by decide) (fun c100 => ?_) (fun c100 => ?_)
        · refine x_aload_n 158 rfl dX11_readPart_157 0 rfl rfl ?_
          refine x_cVu 161 rfl lX11_175 dX11_readPart_158 (lyl55 hL) (lys55 hL) (c_X11_faults1 hL (by omega)) rfl rfl (Nat.le_of_ble_eq_true rfl) (fun M1 hM1 => ?_)
          rw [hM1, Int.toNat_natCast]
          refine x_retu dX11_readPart_161 rfl ?_
          rw [show g_part (M 64) (M 65) o inner s = .inl s.1 by (unfold g_part; rw [if_neg (by omega)]; split <;> first | rfl | (rw [if_neg (by omega), if_neg (by intro hh; have h1 := hh.1; rw [if_pos h1] at ho2 ho3; omega), if_neg (by rw [← ho2, ← ho3]; omega)]))]
          exact ⟨_, _, rfl⟩
        · refine x_iload_n 104 rfl dX11_readPart_103 2 rfl rfl ?_
          refine x_aload_n 105 rfl dX11_readPart_104 0 rfl rfl ?_
          refine x_geti 108 rfl fX11_224 dX11_readPart_105 (lyl55 hL) (lys55 hL) (by decide) ?_
          try simp (disch := omega) only [z_up_ne, z_up_nk, z_up_eq, z_mup_ne, z_mup_eq, Int.reduceToNat, Int.toNat_natCast, rd_19, rd_20, rd_21, rd_o, rd_ne, rd_u19, rd_u20, rd_u21]
          refine x_icmp_gt 111 157 rfl dX11_readPart_108 (by decide) (fun c108 => ?_) (fun c108 => ?_)
          · refine x_aload_n 158 rfl dX11_readPart_157 0 rfl rfl ?_
            refine x_cVu 161 rfl lX11_175 dX11_readPart_158 (lyl55 hL) (lys55 hL) (c_X11_faults1 hL (by omega)) rfl rfl (Nat.le_of_ble_eq_true rfl) (fun M1 hM1 => ?_)
            rw [hM1, Int.toNat_natCast]
            refine x_retu dX11_readPart_161 rfl ?_
            rw [show g_part (M 64) (M 65) o inner s = .inl s.1 by (unfold g_part; rw [if_neg (by omega)]; split <;> first | rfl | (rw [if_neg (by omega), if_neg (by intro hh; have h1 := hh.1; rw [if_pos h1] at ho2 ho3; omega), if_neg (by rw [← ho2, ← ho3]; omega)]))]
            exact ⟨_, _, rfl⟩
          · refine x_aload_n 112 rfl dX11_readPart_111 0 rfl rfl ?_
            refine x_cVu 115 rfl lX11_227 dX11_readPart_112 (lyl55 hL) (lys55 hL) (show zX (d + 2) 0 0 mX11_leaf [zn 55] sz S (rd M (s.1 : Int) (s.2.1 : Int) (-1)) (zU sz S (fun M' => M' = if s.2.1 = 50 then rd M (s.1 : Int) ((s.2.1 : Int) + 1) (M 66 s.1) else rd M ((g_lf s).1 : Int) ((g_lf s).2.1 : Int) (-1))) by split <;> first | exact c_X11_leaf0 hL hR hA (by assumption) | exact c_X11_leaf1 hL hR hA (by assumption)) rfl rfl (Nat.le_of_ble_eq_true rfl) (fun M1 hM1 => ?_)
            by_cases hl : s.2.1 = 50
            · rw [hM1, if_pos hl]
              refine x_aload_n 116 rfl dX11_readPart_115 0 rfl rfl ?_
              refine x_getz 119 rfl fX11_195 dX11_readPart_116 (lyl55 hL) (lys55 hL) (by decide) ?_
              try simp (disch := omega) only [z_up_ne, z_up_nk, z_up_eq, z_mup_ne, z_mup_eq, Int.reduceToNat, Int.toNat_natCast, rd_19, rd_20, rd_21, rd_o, rd_ne, rd_u19, rd_u20, rd_u21]
              refine x_if_eq 122 135 rfl dX11_readPart_119 (by decide) (fun c119 => ?_) (fun c119 => ?_)
              · refine x_aload_n 136 rfl dX11_readPart_135 0 rfl rfl ?_
                refine x_getz 139 rfl fX11_195 dX11_readPart_136 (lyl55 hL) (lys55 hL) (by decide) ?_
                try simp (disch := omega) only [z_up_ne, z_up_nk, z_up_eq, z_mup_ne, z_mup_eq, Int.reduceToNat, Int.toNat_natCast, rd_19, rd_20, rd_21, rd_o, rd_ne, rd_u19, rd_u20, rd_u21]
                refine x_if_eq 142 161 rfl dX11_readPart_139 (by decide) (fun c139 => ?_) (fun c139 => ?_)
                · refine x_retu dX11_readPart_161 rfl ?_
                  rw [show g_part (M 64) (M 65) o inner s = .inl s.1 by (unfold g_part; rw [if_neg (by omega), if_pos hl])]
                  exact ⟨_, _, rfl⟩
                · refine x_iload_n 143 rfl dX11_readPart_142 2 rfl rfl ?_
                  refine x_bipush 145 rfl dX11_readPart_143 (by decide) ?_
                  refine x_icmp_ne 148 161 rfl dX11_readPart_145 (by decide) (fun c145 => ?_) (fun c145 => ?_)
                  · refine x_retu dX11_readPart_161 rfl ?_
                    rw [show g_part (M 64) (M 65) o inner s = .inl s.1 by (unfold g_part; rw [if_neg (by omega), if_pos hl])]
                    exact ⟨_, _, rfl⟩
                  · refine x_aload_n 149 rfl dX11_readPart_148 0 rfl rfl ?_
                    refine x_iconst 150 rfl dX11_readPart_149 (by decide) ?_
                    refine x_iconst 151 rfl dX11_readPart_150 (by decide) ?_
                    refine x_cVu 154 rfl lX11_191 dX11_readPart_151 (lyl55 hL) (lys55 hL) (c_X11_mustN0 hL hb) rfl rfl (Nat.le_of_ble_eq_true rfl) (fun M1 hM1 => ?_)
                    rw [hM1]
                    refine x_goto 161 dX11_readPart_154 (by decide) ?_
                    refine x_retu dX11_readPart_161 rfl ?_
                    rw [show g_part (M 64) (M 65) o inner s = .inl s.1 by (unfold g_part; rw [if_neg (by omega), if_pos hl])]
                    exact ⟨_, _, rfl⟩
              · refine x_iload_n 123 rfl dX11_readPart_122 2 rfl rfl ?_
                refine x_bipush 125 rfl dX11_readPart_123 (by decide) ?_
                refine x_icmp_ne 128 135 rfl dX11_readPart_125 (by decide) (fun c125 => ?_) (fun c125 => ?_)
                · refine x_aload_n 136 rfl dX11_readPart_135 0 rfl rfl ?_
                  refine x_getz 139 rfl fX11_195 dX11_readPart_136 (lyl55 hL) (lys55 hL) (by decide) ?_
                  try simp (disch := omega) only [z_up_ne, z_up_nk, z_up_eq, z_mup_ne, z_mup_eq, Int.reduceToNat, Int.toNat_natCast, rd_19, rd_20, rd_21, rd_o, rd_ne, rd_u19, rd_u20, rd_u21]
                  refine x_if_eq 142 161 rfl dX11_readPart_139 (by decide) (fun c139 => ?_) (fun c139 => ?_)
                  · refine x_retu dX11_readPart_161 rfl ?_
                    rw [show g_part (M 64) (M 65) o inner s = .inl s.1 by (unfold g_part; rw [if_neg (by omega), if_pos hl])]
                    exact ⟨_, _, rfl⟩
                  · refine x_iload_n 143 rfl dX11_readPart_142 2 rfl rfl ?_
                    refine x_bipush 145 rfl dX11_readPart_143 (by decide) ?_
                    refine x_icmp_ne 148 161 rfl dX11_readPart_145 (by decide) (fun c145 => ?_) (fun c145 => ?_)
                    · refine x_retu dX11_readPart_161 rfl ?_
                      rw [show g_part (M 64) (M 65) o inner s = .inl s.1 by (unfold g_part; rw [if_neg (by omega), if_pos hl])]
                      exact ⟨_, _, rfl⟩
                    · refine x_aload_n 149 rfl dX11_readPart_148 0 rfl rfl ?_
                      refine x_iconst 150 rfl dX11_readPart_149 (by decide) ?_
                      refine x_iconst 151 rfl dX11_readPart_150 (by decide) ?_
                      refine x_cVu 154 rfl lX11_191 dX11_readPart_151 (lyl55 hL) (lys55 hL) (c_X11_mustN0 hL hb) rfl rfl (Nat.le_of_ble_eq_true rfl) (fun M1 hM1 => ?_)
                      rw [hM1]
                      refine x_goto 161 dX11_readPart_154 (by decide) ?_
                      refine x_retu dX11_readPart_161 rfl ?_
                      rw [show g_part (M 64) (M 65) o inner s = .inl s.1 by (unfold g_part; rw [if_neg (by omega), if_pos hl])]
                      exact ⟨_, _, rfl⟩
                · refine x_aload_n 129 rfl dX11_readPart_128 0 rfl rfl ?_
                  refine x_iconst 130 rfl dX11_readPart_129 (by decide) ?_
                  refine x_bipush 132 rfl dX11_readPart_130 (by decide) ?_
                  refine x_cVu 135 rfl lX11_191 dX11_readPart_132 (lyl55 hL) (lys55 hL) (c_X11_mustN0 hL hb) rfl rfl (Nat.le_of_ble_eq_true rfl) (fun M1 hM1 => ?_)
                  rw [hM1]
                  refine x_aload_n 136 rfl dX11_readPart_135 0 rfl rfl ?_
                  refine x_getz 139 rfl fX11_195 dX11_readPart_136 (lyl55 hL) (lys55 hL) (by decide) ?_
                  try simp (disch := omega) only [z_up_ne, z_up_nk, z_up_eq, z_mup_ne, z_mup_eq, Int.reduceToNat, Int.toNat_natCast, rd_19, rd_20, rd_21, rd_o, rd_ne, rd_u19, rd_u20, rd_u21]
                  refine x_if_eq 142 161 rfl dX11_readPart_139 (by decide) (fun c139 => ?_) (fun c139 => ?_)
                  · refine x_retu dX11_readPart_161 rfl ?_
                    rw [show g_part (M 64) (M 65) o inner s = .inl s.1 by (unfold g_part; rw [if_neg (by omega), if_pos hl])]
                    exact ⟨_, _, rfl⟩
                  · refine x_iload_n 143 rfl dX11_readPart_142 2 rfl rfl ?_
                    refine x_bipush 145 rfl dX11_readPart_143 (by decide) ?_
                    refine x_icmp_ne 148 161 rfl dX11_readPart_145 (by decide) (fun c145 => ?_) (fun c145 => ?_)
                    · refine x_retu dX11_readPart_161 rfl ?_
                      rw [show g_part (M 64) (M 65) o inner s = .inl s.1 by (unfold g_part; rw [if_neg (by omega), if_pos hl])]
                      exact ⟨_, _, rfl⟩
                    · refine x_aload_n 149 rfl dX11_readPart_148 0 rfl rfl ?_
                      refine x_iconst 150 rfl dX11_readPart_149 (by decide) ?_
                      refine x_iconst 151 rfl dX11_readPart_150 (by decide) ?_
                      refine x_cVu 154 rfl lX11_191 dX11_readPart_151 (lyl55 hL) (lys55 hL) (c_X11_mustN0 hL hb) rfl rfl (Nat.le_of_ble_eq_true rfl) (fun M1 hM1 => ?_)
                      rw [hM1]
                      refine x_goto 161 dX11_readPart_154 (by decide) ?_
                      refine x_retu dX11_readPart_161 rfl ?_
                      rw [show g_part (M 64) (M 65) o inner s = .inl s.1 by (unfold g_part; rw [if_neg (by omega), if_pos hl])]
                      exact ⟨_, _, rfl⟩
            · rw [hM1, if_neg hl]
              refine x_aload_n 116 rfl dX11_readPart_115 0 rfl rfl ?_
              refine x_getz 119 rfl fX11_195 dX11_readPart_116 (lyl55 hL) (lys55 hL) (by decide) ?_
              try simp (disch := omega) only [z_up_ne, z_up_nk, z_up_eq, z_mup_ne, z_mup_eq, Int.reduceToNat, Int.toNat_natCast, rd_19, rd_20, rd_21, rd_o, rd_ne, rd_u19, rd_u20, rd_u21]
              refine x_if_eq 122 135 rfl dX11_readPart_119 (by decide) (fun c119 => ?_) (fun c119 => ?_)
              · have ho : ¬ o = true := by intro h; simp [h] at ho1; omega
                refine x_aload_n 136 rfl dX11_readPart_135 0 rfl rfl ?_
                refine x_getz 139 rfl fX11_195 dX11_readPart_136 (lyl55 hL) (lys55 hL) (by decide) ?_
                try simp (disch := omega) only [z_up_ne, z_up_nk, z_up_eq, z_mup_ne, z_mup_eq, Int.reduceToNat, Int.toNat_natCast, rd_19, rd_20, rd_21, rd_o, rd_ne, rd_u19, rd_u20, rd_u21]
                refine x_if_eq 142 161 rfl dX11_readPart_139 (by decide) (fun c139 => ?_) (fun c139 => ?_)
                · refine x_retu dX11_readPart_161 rfl ?_
                  rw [show g_part (M 64) (M 65) o inner s = .inr (g_em (g_lf s) (2 + 16 * kap (M 64 s.1)), fun e => some (e (M 64 s.1) 0)) by (unfold g_part; rw [if_neg (by omega), if_neg hl, if_neg (by omega), if_neg (by intro hh; first | exact ho hh.1 | omega), if_pos (by rw [← ho2, ← ho3]; omega)])]
                  rfl
                · exfalso; omega
              · have ho : o = true := by cases o with | true => rfl | false => simp at ho1; omega
                refine x_iload_n 123 rfl dX11_readPart_122 2 rfl rfl ?_
                refine x_bipush 125 rfl dX11_readPart_123 (by decide) ?_
                refine x_icmp_ne 128 135 rfl dX11_readPart_125 (by decide) (fun c125 => ?_) (fun c125 => ?_)
                · refine x_aload_n 136 rfl dX11_readPart_135 0 rfl rfl ?_
                  refine x_getz 139 rfl fX11_195 dX11_readPart_136 (lyl55 hL) (lys55 hL) (by decide) ?_
                  try simp (disch := omega) only [z_up_ne, z_up_nk, z_up_eq, z_mup_ne, z_mup_eq, Int.reduceToNat, Int.toNat_natCast, rd_19, rd_20, rd_21, rd_o, rd_ne, rd_u19, rd_u20, rd_u21]
                  refine x_if_eq 142 161 rfl dX11_readPart_139 (by decide) (fun c139 => ?_) (fun c139 => ?_)
                  · exfalso; omega
                  · refine x_iload_n 143 rfl dX11_readPart_142 2 rfl rfl ?_
                    refine x_bipush 145 rfl dX11_readPart_143 (by decide) ?_
                    refine x_icmp_ne 148 161 rfl dX11_readPart_145 (by decide) (fun c145 => ?_) (fun c145 => ?_)
                    · refine x_retu dX11_readPart_161 rfl ?_
                      rw [show g_part (M 64) (M 65) o inner s = .inr (g_em (g_lf s) (2 + 16 * kap (M 64 s.1)), fun e => some (e (M 64 s.1) 0)) by (unfold g_part; rw [if_neg (by omega), if_neg hl, if_neg (by omega), if_neg (by intro hh; first | exact ho hh.1 | omega), if_pos (by rw [← ho2, ← ho3]; omega)])]
                      rfl
                    · refine x_aload_n 149 rfl dX11_readPart_148 0 rfl rfl ?_
                      refine x_iconst 150 rfl dX11_readPart_149 (by decide) ?_
                      refine x_iconst 151 rfl dX11_readPart_150 (by decide) ?_
                      refine x_cVu 154 rfl lX11_191 dX11_readPart_151 (lyl55 hL) (lys55 hL) (c_X11_mustN1 hL hR (gA_lf hA hl (hR.1.lt hA1 (by omega)))) rfl rfl (Nat.le_of_ble_eq_true rfl) (fun M2 hr2 => ?_)
                      rcases hr2 with ⟨hx, hM2⟩ | ⟨hx, hM2⟩
                      · rw [hM2]
                        refine x_goto 161 dX11_readPart_154 (by decide) ?_
                        refine x_retu dX11_readPart_161 rfl ?_
                        rw [show g_part (M 64) (M 65) o inner s = .inr (g_em (g_ad (g_lf s)) (2 + 16 * ((if M 64 s.1 = 14 then 13 else 21) + M 65 (s.1 + 1))), fun e => some (e (M 64 s.1) (M 65 (s.1 + 1)))) by (unfold g_part; rw [if_neg (by omega), if_neg hl, if_neg (by omega), if_pos ⟨ho, by omega⟩, if_pos (by simp only [g_lf1] at hx; split <;> omega)])]
                        rfl
                      · rw [hM2]
                        refine x_goto 161 dX11_readPart_154 (by decide) ?_
                        refine x_retu dX11_readPart_161 rfl ?_
                        rw [show g_part (M 64) (M 65) o inner s = .inl (s.1 + 1) by (unfold g_part; rw [if_neg (by omega), if_neg hl, if_neg (by omega), if_pos ⟨ho, by omega⟩, if_neg (by have hv1 := hR.1.2.2.2 (s.1 + 1) (hR.1.lt hA1 (by omega)); simp only [g_lf1] at hx; split <;> omega)])]
                        exact ⟨_, _, rfl⟩
                · refine x_aload_n 129 rfl dX11_readPart_128 0 rfl rfl ?_
                  refine x_iconst 130 rfl dX11_readPart_129 (by decide) ?_
                  refine x_bipush 132 rfl dX11_readPart_130 (by decide) ?_
                  refine x_cVu 135 rfl lX11_191 dX11_readPart_132 (lyl55 hL) (lys55 hL) (c_X11_mustN1 hL hR (gA_lf hA hl (hR.1.lt hA1 (by omega)))) rfl rfl (Nat.le_of_ble_eq_true rfl) (fun M2 hr2 => ?_)
                  rcases hr2 with ⟨hx, hM2⟩ | ⟨hx, hM2⟩
                  · rw [hM2]
                    refine x_aload_n 136 rfl dX11_readPart_135 0 rfl rfl ?_
                    refine x_getz 139 rfl fX11_195 dX11_readPart_136 (lyl55 hL) (lys55 hL) (by decide) ?_
                    try simp (disch := omega) only [z_up_ne, z_up_nk, z_up_eq, z_mup_ne, z_mup_eq, Int.reduceToNat, Int.toNat_natCast, rd_19, rd_20, rd_21, rd_o, rd_ne, rd_u19, rd_u20, rd_u21]
                    refine x_if_eq 142 161 rfl dX11_readPart_139 (by decide) (fun c139 => ?_) (fun c139 => ?_)
                    · exfalso; omega
                    · refine x_iload_n 143 rfl dX11_readPart_142 2 rfl rfl ?_
                      refine x_bipush 145 rfl dX11_readPart_143 (by decide) ?_
                      refine x_icmp_ne 148 161 rfl dX11_readPart_145 (by decide) (fun c145 => ?_) (fun c145 => ?_)
                      · refine x_retu dX11_readPart_161 rfl ?_
                        rw [show g_part (M 64) (M 65) o inner s = .inr (g_em (g_ad (g_lf s)) (2 + 16 * ((if M 64 s.1 = 14 then 13 else 21) + M 65 (s.1 + 1))), fun e => some (e (M 64 s.1) (M 65 (s.1 + 1)))) by (unfold g_part; rw [if_neg (by omega), if_neg hl, if_neg (by omega), if_pos ⟨ho, by omega⟩, if_pos (by simp only [g_lf1] at hx; split <;> omega)])]
                        rfl
                      · exfalso; omega
                  · rw [hM2]
                    refine x_aload_n 136 rfl dX11_readPart_135 0 rfl rfl ?_
                    refine x_getz 139 rfl fX11_195 dX11_readPart_136 (lyl55 hL) (lys55 hL) (by decide) ?_
                    try simp (disch := omega) only [z_up_ne, z_up_nk, z_up_eq, z_mup_ne, z_mup_eq, Int.reduceToNat, Int.toNat_natCast, rd_19, rd_20, rd_21, rd_o, rd_ne, rd_u19, rd_u20, rd_u21]
                    refine x_if_eq 142 161 rfl dX11_readPart_139 (by decide) (fun c139 => ?_) (fun c139 => ?_)
                    · exfalso; omega
                    · refine x_iload_n 143 rfl dX11_readPart_142 2 rfl rfl ?_
                      refine x_bipush 145 rfl dX11_readPart_143 (by decide) ?_
                      refine x_icmp_ne 148 161 rfl dX11_readPart_145 (by decide) (fun c145 => ?_) (fun c145 => ?_)
                      · refine x_retu dX11_readPart_161 rfl ?_
                        rw [show g_part (M 64) (M 65) o inner s = .inl (s.1 + 1) by (unfold g_part; rw [if_neg (by omega), if_neg hl, if_neg (by omega), if_pos ⟨ho, by omega⟩, if_neg (by have hv1 := hR.1.2.2.2 (s.1 + 1) (hR.1.lt hA1 (by omega)); simp only [g_lf1] at hx; split <;> omega)])]
                        exact ⟨_, _, rfl⟩
                      · exfalso; omega
      · refine x_aload_n 81 rfl dX11_readPart_80 0 rfl rfl ?_
        refine x_getr 84 rfl fX11_53 dX11_readPart_81 (lyl55 hL) (lys55 hL) (by decide) (65) rfl ?_
        refine x_aload_n 85 rfl dX11_readPart_84 0 rfl rfl ?_
        refine x_geti 88 rfl fX11_169 dX11_readPart_85 (lyl55 hL) (lys55 hL) (by decide) ?_
        try simp (disch := omega) only [z_up_ne, z_up_nk, z_up_eq, z_mup_ne, z_mup_eq, Int.reduceToNat, Int.toNat_natCast, rd_19, rd_20, rd_21, rd_o, rd_ne, rd_u19, rd_u20, rd_u21]
        refine x_iald 89 rfl dX11_readPart_88 (lyl65 hL) (lys65 hL) (by omega) (by omega) ?_
        try simp (disch := omega) only [z_up_ne, z_up_nk, z_up_eq, z_mup_ne, z_mup_eq, Int.reduceToNat, Int.toNat_natCast, rd_19, rd_20, rd_21, rd_o, rd_ne, rd_u19, rd_u20, rd_u21]
        refine x_sipush 92 rfl dX11_readPart_89 (by decide) ?_
        refine x_icmp_le 95 111 rfl dX11_readPart_92 (by decide) (fun c92 => ?_) (fun c92 => ?_)
        · refine x_aload_n 112 rfl dX11_readPart_111 0 rfl rfl ?_
          refine x_cVu 115 rfl lX11_227 dX11_readPart_112 (lyl55 hL) (lys55 hL) (show zX (d + 2) 0 0 mX11_leaf [zn 55] sz S (rd M (s.1 : Int) (s.2.1 : Int) (-1)) (zU sz S (fun M' => M' = if s.2.1 = 50 then rd M (s.1 : Int) ((s.2.1 : Int) + 1) (M 66 s.1) else rd M ((g_lf s).1 : Int) ((g_lf s).2.1 : Int) (-1))) by split <;> first | exact c_X11_leaf0 hL hR hA (by assumption) | exact c_X11_leaf1 hL hR hA (by assumption)) rfl rfl (Nat.le_of_ble_eq_true rfl) (fun M1 hM1 => ?_)
          by_cases hl : s.2.1 = 50
          · rw [hM1, if_pos hl]
            refine x_aload_n 116 rfl dX11_readPart_115 0 rfl rfl ?_
            refine x_getz 119 rfl fX11_195 dX11_readPart_116 (lyl55 hL) (lys55 hL) (by decide) ?_
            try simp (disch := omega) only [z_up_ne, z_up_nk, z_up_eq, z_mup_ne, z_mup_eq, Int.reduceToNat, Int.toNat_natCast, rd_19, rd_20, rd_21, rd_o, rd_ne, rd_u19, rd_u20, rd_u21]
            refine x_if_eq 122 135 rfl dX11_readPart_119 (by decide) (fun c119 => ?_) (fun c119 => ?_)
            · refine x_aload_n 136 rfl dX11_readPart_135 0 rfl rfl ?_
              refine x_getz 139 rfl fX11_195 dX11_readPart_136 (lyl55 hL) (lys55 hL) (by decide) ?_
              try simp (disch := omega) only [z_up_ne, z_up_nk, z_up_eq, z_mup_ne, z_mup_eq, Int.reduceToNat, Int.toNat_natCast, rd_19, rd_20, rd_21, rd_o, rd_ne, rd_u19, rd_u20, rd_u21]
              refine x_if_eq 142 161 rfl dX11_readPart_139 (by decide) (fun c139 => ?_) (fun c139 => ?_)
              · refine x_retu dX11_readPart_161 rfl ?_
                rw [show g_part (M 64) (M 65) o inner s = .inl s.1 by (unfold g_part; rw [if_neg (by omega), if_pos hl])]
                exact ⟨_, _, rfl⟩
              · refine x_iload_n 143 rfl dX11_readPart_142 2 rfl rfl ?_
                refine x_bipush 145 rfl dX11_readPart_143 (by decide) ?_
                refine x_icmp_ne 148 161 rfl dX11_readPart_145 (by decide) (fun c145 => ?_) (fun c145 => ?_)
                · refine x_retu dX11_readPart_161 rfl ?_
                  rw [show g_part (M 64) (M 65) o inner s = .inl s.1 by (unfold g_part; rw [if_neg (by omega), if_pos hl])]
                  exact ⟨_, _, rfl⟩
                · exfalso; omega
            · refine x_iload_n 123 rfl dX11_readPart_122 2 rfl rfl ?_
              refine x_bipush 125 rfl dX11_readPart_123 (by decide) ?_
              refine x_icmp_ne 128 135 rfl dX11_readPart_125 (by decide) (fun c125 => ?_) (fun c125 => ?_)
              · refine x_aload_n 136 rfl dX11_readPart_135 0 rfl rfl ?_
                refine x_getz 139 rfl fX11_195 dX11_readPart_136 (lyl55 hL) (lys55 hL) (by decide) ?_
                try simp (disch := omega) only [z_up_ne, z_up_nk, z_up_eq, z_mup_ne, z_mup_eq, Int.reduceToNat, Int.toNat_natCast, rd_19, rd_20, rd_21, rd_o, rd_ne, rd_u19, rd_u20, rd_u21]
                refine x_if_eq 142 161 rfl dX11_readPart_139 (by decide) (fun c139 => ?_) (fun c139 => ?_)
                · refine x_retu dX11_readPart_161 rfl ?_
                  rw [show g_part (M 64) (M 65) o inner s = .inl s.1 by (unfold g_part; rw [if_neg (by omega), if_pos hl])]
                  exact ⟨_, _, rfl⟩
                · refine x_iload_n 143 rfl dX11_readPart_142 2 rfl rfl ?_
                  refine x_bipush 145 rfl dX11_readPart_143 (by decide) ?_
                  refine x_icmp_ne 148 161 rfl dX11_readPart_145 (by decide) (fun c145 => ?_) (fun c145 => ?_)
                  · refine x_retu dX11_readPart_161 rfl ?_
                    rw [show g_part (M 64) (M 65) o inner s = .inl s.1 by (unfold g_part; rw [if_neg (by omega), if_pos hl])]
                    exact ⟨_, _, rfl⟩
                  · exfalso; omega
              · exfalso; omega
          · rw [hM1, if_neg hl]
            refine x_aload_n 116 rfl dX11_readPart_115 0 rfl rfl ?_
            refine x_getz 119 rfl fX11_195 dX11_readPart_116 (lyl55 hL) (lys55 hL) (by decide) ?_
            try simp (disch := omega) only [z_up_ne, z_up_nk, z_up_eq, z_mup_ne, z_mup_eq, Int.reduceToNat, Int.toNat_natCast, rd_19, rd_20, rd_21, rd_o, rd_ne, rd_u19, rd_u20, rd_u21]
            refine x_if_eq 122 135 rfl dX11_readPart_119 (by decide) (fun c119 => ?_) (fun c119 => ?_)
            · refine x_aload_n 136 rfl dX11_readPart_135 0 rfl rfl ?_
              refine x_getz 139 rfl fX11_195 dX11_readPart_136 (lyl55 hL) (lys55 hL) (by decide) ?_
              try simp (disch := omega) only [z_up_ne, z_up_nk, z_up_eq, z_mup_ne, z_mup_eq, Int.reduceToNat, Int.toNat_natCast, rd_19, rd_20, rd_21, rd_o, rd_ne, rd_u19, rd_u20, rd_u21]
              refine x_if_eq 142 161 rfl dX11_readPart_139 (by decide) (fun c139 => ?_) (fun c139 => ?_)
              · refine x_retu dX11_readPart_161 rfl ?_
                rw [show g_part (M 64) (M 65) o inner s = .inr (g_em (g_lf s) (1 + 16 * M 65 s.1), fun _ => some (M 65 s.1)) by (unfold g_part; rw [if_neg (by omega), if_neg hl, if_pos (by omega)])]
                rfl
              · refine x_iload_n 143 rfl dX11_readPart_142 2 rfl rfl ?_
                refine x_bipush 145 rfl dX11_readPart_143 (by decide) ?_
                refine x_icmp_ne 148 161 rfl dX11_readPart_145 (by decide) (fun c145 => ?_) (fun c145 => ?_)
                · refine x_retu dX11_readPart_161 rfl ?_
                  rw [show g_part (M 64) (M 65) o inner s = .inr (g_em (g_lf s) (1 + 16 * M 65 s.1), fun _ => some (M 65 s.1)) by (unfold g_part; rw [if_neg (by omega), if_neg hl, if_pos (by omega)])]
                  rfl
                · exfalso; omega
            · refine x_iload_n 123 rfl dX11_readPart_122 2 rfl rfl ?_
              refine x_bipush 125 rfl dX11_readPart_123 (by decide) ?_
              refine x_icmp_ne 128 135 rfl dX11_readPart_125 (by decide) (fun c125 => ?_) (fun c125 => ?_)
              · refine x_aload_n 136 rfl dX11_readPart_135 0 rfl rfl ?_
                refine x_getz 139 rfl fX11_195 dX11_readPart_136 (lyl55 hL) (lys55 hL) (by decide) ?_
                try simp (disch := omega) only [z_up_ne, z_up_nk, z_up_eq, z_mup_ne, z_mup_eq, Int.reduceToNat, Int.toNat_natCast, rd_19, rd_20, rd_21, rd_o, rd_ne, rd_u19, rd_u20, rd_u21]
                refine x_if_eq 142 161 rfl dX11_readPart_139 (by decide) (fun c139 => ?_) (fun c139 => ?_)
                · refine x_retu dX11_readPart_161 rfl ?_
                  rw [show g_part (M 64) (M 65) o inner s = .inr (g_em (g_lf s) (1 + 16 * M 65 s.1), fun _ => some (M 65 s.1)) by (unfold g_part; rw [if_neg (by omega), if_neg hl, if_pos (by omega)])]
                  rfl
                · refine x_iload_n 143 rfl dX11_readPart_142 2 rfl rfl ?_
                  refine x_bipush 145 rfl dX11_readPart_143 (by decide) ?_
                  refine x_icmp_ne 148 161 rfl dX11_readPart_145 (by decide) (fun c145 => ?_) (fun c145 => ?_)
                  · refine x_retu dX11_readPart_161 rfl ?_
                    rw [show g_part (M 64) (M 65) o inner s = .inr (g_em (g_lf s) (1 + 16 * M 65 s.1), fun _ => some (M 65 s.1)) by (unfold g_part; rw [if_neg (by omega), if_neg hl, if_pos (by omega)])]
                    rfl
                  · exfalso; omega
              · exfalso; omega
        · refine x_iload_n 96 rfl dX11_readPart_95 2 rfl rfl ?_
          refine x_aload_n 97 rfl dX11_readPart_96 0 rfl rfl ?_
          refine x_geti 100 rfl fX11_221 dX11_readPart_97 (lyl55 hL) (lys55 hL) (by decide) ?_
          try simp (disch := omega) only [z_up_ne, z_up_nk, z_up_eq, z_mup_ne, z_mup_eq, Int.reduceToNat, Int.toNat_natCast, rd_19, rd_20, rd_21, rd_o, rd_ne, rd_u19, rd_u20, rd_u21]
          refine x_icmp_lt 103 157 rfl dX11_readPart_100 (by decide) (fun c100 => ?_) (fun c100 => ?_)
          · refine x_aload_n 158 rfl dX11_readPart_157 0 rfl rfl ?_
            refine x_cVu 161 rfl lX11_175 dX11_readPart_158 (lyl55 hL) (lys55 hL) (c_X11_faults1 hL (by omega)) rfl rfl (Nat.le_of_ble_eq_true rfl) (fun M1 hM1 => ?_)
            rw [hM1, Int.toNat_natCast]
            refine x_retu dX11_readPart_161 rfl ?_
            rw [show g_part (M 64) (M 65) o inner s = .inl s.1 by (unfold g_part; rw [if_neg (by omega)]; split <;> first | rfl | (rw [if_neg (by omega), if_neg (by intro hh; have h1 := hh.1; rw [if_pos h1] at ho2 ho3; omega), if_neg (by rw [← ho2, ← ho3]; omega)]))]
            exact ⟨_, _, rfl⟩
          · refine x_iload_n 104 rfl dX11_readPart_103 2 rfl rfl ?_
            refine x_aload_n 105 rfl dX11_readPart_104 0 rfl rfl ?_
            refine x_geti 108 rfl fX11_224 dX11_readPart_105 (lyl55 hL) (lys55 hL) (by decide) ?_
            try simp (disch := omega) only [z_up_ne, z_up_nk, z_up_eq, z_mup_ne, z_mup_eq, Int.reduceToNat, Int.toNat_natCast, rd_19, rd_20, rd_21, rd_o, rd_ne, rd_u19, rd_u20, rd_u21]
            refine x_icmp_gt 111 157 rfl dX11_readPart_108 (by decide) (fun c108 => ?_) (fun c108 => ?_)
            · refine x_aload_n 158 rfl dX11_readPart_157 0 rfl rfl ?_
              refine x_cVu 161 rfl lX11_175 dX11_readPart_158 (lyl55 hL) (lys55 hL) (c_X11_faults1 hL (by omega)) rfl rfl (Nat.le_of_ble_eq_true rfl) (fun M1 hM1 => ?_)
              rw [hM1, Int.toNat_natCast]
              refine x_retu dX11_readPart_161 rfl ?_
              rw [show g_part (M 64) (M 65) o inner s = .inl s.1 by (unfold g_part; rw [if_neg (by omega)]; split <;> first | rfl | (rw [if_neg (by omega), if_neg (by intro hh; have h1 := hh.1; rw [if_pos h1] at ho2 ho3; omega), if_neg (by rw [← ho2, ← ho3]; omega)]))]
              exact ⟨_, _, rfl⟩
            · refine x_aload_n 112 rfl dX11_readPart_111 0 rfl rfl ?_
              refine x_cVu 115 rfl lX11_227 dX11_readPart_112 (lyl55 hL) (lys55 hL) (show zX (d + 2) 0 0 mX11_leaf [zn 55] sz S (rd M (s.1 : Int) (s.2.1 : Int) (-1)) (zU sz S (fun M' => M' = if s.2.1 = 50 then rd M (s.1 : Int) ((s.2.1 : Int) + 1) (M 66 s.1) else rd M ((g_lf s).1 : Int) ((g_lf s).2.1 : Int) (-1))) by split <;> first | exact c_X11_leaf0 hL hR hA (by assumption) | exact c_X11_leaf1 hL hR hA (by assumption)) rfl rfl (Nat.le_of_ble_eq_true rfl) (fun M1 hM1 => ?_)
              by_cases hl : s.2.1 = 50
              · rw [hM1, if_pos hl]
                refine x_aload_n 116 rfl dX11_readPart_115 0 rfl rfl ?_
                refine x_getz 119 rfl fX11_195 dX11_readPart_116 (lyl55 hL) (lys55 hL) (by decide) ?_
                try simp (disch := omega) only [z_up_ne, z_up_nk, z_up_eq, z_mup_ne, z_mup_eq, Int.reduceToNat, Int.toNat_natCast, rd_19, rd_20, rd_21, rd_o, rd_ne, rd_u19, rd_u20, rd_u21]
                refine x_if_eq 122 135 rfl dX11_readPart_119 (by decide) (fun c119 => ?_) (fun c119 => ?_)
                · refine x_aload_n 136 rfl dX11_readPart_135 0 rfl rfl ?_
                  refine x_getz 139 rfl fX11_195 dX11_readPart_136 (lyl55 hL) (lys55 hL) (by decide) ?_
                  try simp (disch := omega) only [z_up_ne, z_up_nk, z_up_eq, z_mup_ne, z_mup_eq, Int.reduceToNat, Int.toNat_natCast, rd_19, rd_20, rd_21, rd_o, rd_ne, rd_u19, rd_u20, rd_u21]
                  refine x_if_eq 142 161 rfl dX11_readPart_139 (by decide) (fun c139 => ?_) (fun c139 => ?_)
                  · refine x_retu dX11_readPart_161 rfl ?_
                    rw [show g_part (M 64) (M 65) o inner s = .inl s.1 by (unfold g_part; rw [if_neg (by omega), if_pos hl])]
                    exact ⟨_, _, rfl⟩
                  · refine x_iload_n 143 rfl dX11_readPart_142 2 rfl rfl ?_
                    refine x_bipush 145 rfl dX11_readPart_143 (by decide) ?_
                    refine x_icmp_ne 148 161 rfl dX11_readPart_145 (by decide) (fun c145 => ?_) (fun c145 => ?_)
                    · refine x_retu dX11_readPart_161 rfl ?_
                      rw [show g_part (M 64) (M 65) o inner s = .inl s.1 by (unfold g_part; rw [if_neg (by omega), if_pos hl])]
                      exact ⟨_, _, rfl⟩
                    · refine x_aload_n 149 rfl dX11_readPart_148 0 rfl rfl ?_
                      refine x_iconst 150 rfl dX11_readPart_149 (by decide) ?_
                      refine x_iconst 151 rfl dX11_readPart_150 (by decide) ?_
                      refine x_cVu 154 rfl lX11_191 dX11_readPart_151 (lyl55 hL) (lys55 hL) (c_X11_mustN0 hL hb) rfl rfl (Nat.le_of_ble_eq_true rfl) (fun M1 hM1 => ?_)
                      rw [hM1]
                      refine x_goto 161 dX11_readPart_154 (by decide) ?_
                      refine x_retu dX11_readPart_161 rfl ?_
                      rw [show g_part (M 64) (M 65) o inner s = .inl s.1 by (unfold g_part; rw [if_neg (by omega), if_pos hl])]
                      exact ⟨_, _, rfl⟩
                · refine x_iload_n 123 rfl dX11_readPart_122 2 rfl rfl ?_
                  refine x_bipush 125 rfl dX11_readPart_123 (by decide) ?_
                  refine x_icmp_ne 128 135 rfl dX11_readPart_125 (by decide) (fun c125 => ?_) (fun c125 => ?_)
                  · refine x_aload_n 136 rfl dX11_readPart_135 0 rfl rfl ?_
                    refine x_getz 139 rfl fX11_195 dX11_readPart_136 (lyl55 hL) (lys55 hL) (by decide) ?_
                    try simp (disch := omega) only [z_up_ne, z_up_nk, z_up_eq, z_mup_ne, z_mup_eq, Int.reduceToNat, Int.toNat_natCast, rd_19, rd_20, rd_21, rd_o, rd_ne, rd_u19, rd_u20, rd_u21]
                    refine x_if_eq 142 161 rfl dX11_readPart_139 (by decide) (fun c139 => ?_) (fun c139 => ?_)
                    · refine x_retu dX11_readPart_161 rfl ?_
                      rw [show g_part (M 64) (M 65) o inner s = .inl s.1 by (unfold g_part; rw [if_neg (by omega), if_pos hl])]
                      exact ⟨_, _, rfl⟩
                    · refine x_iload_n 143 rfl dX11_readPart_142 2 rfl rfl ?_
                      refine x_bipush 145 rfl dX11_readPart_143 (by decide) ?_
                      refine x_icmp_ne 148 161 rfl dX11_readPart_145 (by decide) (fun c145 => ?_) (fun c145 => ?_)
                      · refine x_retu dX11_readPart_161 rfl ?_
                        rw [show g_part (M 64) (M 65) o inner s = .inl s.1 by (unfold g_part; rw [if_neg (by omega), if_pos hl])]
                        exact ⟨_, _, rfl⟩
                      · refine x_aload_n 149 rfl dX11_readPart_148 0 rfl rfl ?_
                        refine x_iconst 150 rfl dX11_readPart_149 (by decide) ?_
                        refine x_iconst 151 rfl dX11_readPart_150 (by decide) ?_
                        refine x_cVu 154 rfl lX11_191 dX11_readPart_151 (lyl55 hL) (lys55 hL) (c_X11_mustN0 hL hb) rfl rfl (Nat.le_of_ble_eq_true rfl) (fun M1 hM1 => ?_)
                        rw [hM1]
                        refine x_goto 161 dX11_readPart_154 (by decide) ?_
                        refine x_retu dX11_readPart_161 rfl ?_
                        rw [show g_part (M 64) (M 65) o inner s = .inl s.1 by (unfold g_part; rw [if_neg (by omega), if_pos hl])]
                        exact ⟨_, _, rfl⟩
                  · refine x_aload_n 129 rfl dX11_readPart_128 0 rfl rfl ?_
                    refine x_iconst 130 rfl dX11_readPart_129 (by decide) ?_
                    refine x_bipush 132 rfl dX11_readPart_130 (by decide) ?_
                    refine x_cVu 135 rfl lX11_191 dX11_readPart_132 (lyl55 hL) (lys55 hL) (c_X11_mustN0 hL hb) rfl rfl (Nat.le_of_ble_eq_true rfl) (fun M1 hM1 => ?_)
                    rw [hM1]
                    refine x_aload_n 136 rfl dX11_readPart_135 0 rfl rfl ?_
                    refine x_getz 139 rfl fX11_195 dX11_readPart_136 (lyl55 hL) (lys55 hL) (by decide) ?_
                    try simp (disch := omega) only [z_up_ne, z_up_nk, z_up_eq, z_mup_ne, z_mup_eq, Int.reduceToNat, Int.toNat_natCast, rd_19, rd_20, rd_21, rd_o, rd_ne, rd_u19, rd_u20, rd_u21]
                    refine x_if_eq 142 161 rfl dX11_readPart_139 (by decide) (fun c139 => ?_) (fun c139 => ?_)
                    · refine x_retu dX11_readPart_161 rfl ?_
                      rw [show g_part (M 64) (M 65) o inner s = .inl s.1 by (unfold g_part; rw [if_neg (by omega), if_pos hl])]
                      exact ⟨_, _, rfl⟩
                    · refine x_iload_n 143 rfl dX11_readPart_142 2 rfl rfl ?_
                      refine x_bipush 145 rfl dX11_readPart_143 (by decide) ?_
                      refine x_icmp_ne 148 161 rfl dX11_readPart_145 (by decide) (fun c145 => ?_) (fun c145 => ?_)
                      · refine x_retu dX11_readPart_161 rfl ?_
                        rw [show g_part (M 64) (M 65) o inner s = .inl s.1 by (unfold g_part; rw [if_neg (by omega), if_pos hl])]
                        exact ⟨_, _, rfl⟩
                      · refine x_aload_n 149 rfl dX11_readPart_148 0 rfl rfl ?_
                        refine x_iconst 150 rfl dX11_readPart_149 (by decide) ?_
                        refine x_iconst 151 rfl dX11_readPart_150 (by decide) ?_
                        refine x_cVu 154 rfl lX11_191 dX11_readPart_151 (lyl55 hL) (lys55 hL) (c_X11_mustN0 hL hb) rfl rfl (Nat.le_of_ble_eq_true rfl) (fun M1 hM1 => ?_)
                        rw [hM1]
                        refine x_goto 161 dX11_readPart_154 (by decide) ?_
                        refine x_retu dX11_readPart_161 rfl ?_
                        rw [show g_part (M 64) (M 65) o inner s = .inl s.1 by (unfold g_part; rw [if_neg (by omega), if_pos hl])]
                        exact ⟨_, _, rfl⟩
              · rw [hM1, if_neg hl]
                refine x_aload_n 116 rfl dX11_readPart_115 0 rfl rfl ?_
                refine x_getz 119 rfl fX11_195 dX11_readPart_116 (lyl55 hL) (lys55 hL) (by decide) ?_
                try simp (disch := omega) only [z_up_ne, z_up_nk, z_up_eq, z_mup_ne, z_mup_eq, Int.reduceToNat, Int.toNat_natCast, rd_19, rd_20, rd_21, rd_o, rd_ne, rd_u19, rd_u20, rd_u21]
                refine x_if_eq 122 135 rfl dX11_readPart_119 (by decide) (fun c119 => ?_) (fun c119 => ?_)
                · have ho : ¬ o = true := by intro h; simp [h] at ho1; omega
                  refine x_aload_n 136 rfl dX11_readPart_135 0 rfl rfl ?_
                  refine x_getz 139 rfl fX11_195 dX11_readPart_136 (lyl55 hL) (lys55 hL) (by decide) ?_
                  try simp (disch := omega) only [z_up_ne, z_up_nk, z_up_eq, z_mup_ne, z_mup_eq, Int.reduceToNat, Int.toNat_natCast, rd_19, rd_20, rd_21, rd_o, rd_ne, rd_u19, rd_u20, rd_u21]
                  refine x_if_eq 142 161 rfl dX11_readPart_139 (by decide) (fun c139 => ?_) (fun c139 => ?_)
                  · refine x_retu dX11_readPart_161 rfl ?_
                    rw [show g_part (M 64) (M 65) o inner s = .inr (g_em (g_lf s) (2 + 16 * kap (M 64 s.1)), fun e => some (e (M 64 s.1) 0)) by (unfold g_part; rw [if_neg (by omega), if_neg hl, if_neg (by omega), if_neg (by intro hh; first | exact ho hh.1 | omega), if_pos (by rw [← ho2, ← ho3]; omega)])]
                    rfl
                  · exfalso; omega
                · have ho : o = true := by cases o with | true => rfl | false => simp at ho1; omega
                  refine x_iload_n 123 rfl dX11_readPart_122 2 rfl rfl ?_
                  refine x_bipush 125 rfl dX11_readPart_123 (by decide) ?_
                  refine x_icmp_ne 128 135 rfl dX11_readPart_125 (by decide) (fun c125 => ?_) (fun c125 => ?_)
                  · refine x_aload_n 136 rfl dX11_readPart_135 0 rfl rfl ?_
                    refine x_getz 139 rfl fX11_195 dX11_readPart_136 (lyl55 hL) (lys55 hL) (by decide) ?_
                    try simp (disch := omega) only [z_up_ne, z_up_nk, z_up_eq, z_mup_ne, z_mup_eq, Int.reduceToNat, Int.toNat_natCast, rd_19, rd_20, rd_21, rd_o, rd_ne, rd_u19, rd_u20, rd_u21]
                    refine x_if_eq 142 161 rfl dX11_readPart_139 (by decide) (fun c139 => ?_) (fun c139 => ?_)
                    · exfalso; omega
                    · refine x_iload_n 143 rfl dX11_readPart_142 2 rfl rfl ?_
                      refine x_bipush 145 rfl dX11_readPart_143 (by decide) ?_
                      refine x_icmp_ne 148 161 rfl dX11_readPart_145 (by decide) (fun c145 => ?_) (fun c145 => ?_)
                      · refine x_retu dX11_readPart_161 rfl ?_
                        rw [show g_part (M 64) (M 65) o inner s = .inr (g_em (g_lf s) (2 + 16 * kap (M 64 s.1)), fun e => some (e (M 64 s.1) 0)) by (unfold g_part; rw [if_neg (by omega), if_neg hl, if_neg (by omega), if_neg (by intro hh; first | exact ho hh.1 | omega), if_pos (by rw [← ho2, ← ho3]; omega)])]
                        rfl
                      · refine x_aload_n 149 rfl dX11_readPart_148 0 rfl rfl ?_
                        refine x_iconst 150 rfl dX11_readPart_149 (by decide) ?_
                        refine x_iconst 151 rfl dX11_readPart_150 (by decide) ?_
                        refine x_cVu 154 rfl lX11_191 dX11_readPart_151 (lyl55 hL) (lys55 hL) (c_X11_mustN1 hL hR (gA_lf hA hl (hR.1.lt hA1 (by omega)))) rfl rfl (Nat.le_of_ble_eq_true rfl) (fun M2 hr2 => ?_)
                        rcases hr2 with ⟨hx, hM2⟩ | ⟨hx, hM2⟩
                        · rw [hM2]
                          refine x_goto 161 dX11_readPart_154 (by decide) ?_
                          refine x_retu dX11_readPart_161 rfl ?_
                          rw [show g_part (M 64) (M 65) o inner s = .inr (g_em (g_ad (g_lf s)) (2 + 16 * ((if M 64 s.1 = 14 then 13 else 21) + M 65 (s.1 + 1))), fun e => some (e (M 64 s.1) (M 65 (s.1 + 1)))) by (unfold g_part; rw [if_neg (by omega), if_neg hl, if_neg (by omega), if_pos ⟨ho, by omega⟩, if_pos (by simp only [g_lf1] at hx; split <;> omega)])]
                          rfl
                        · rw [hM2]
                          refine x_goto 161 dX11_readPart_154 (by decide) ?_
                          refine x_retu dX11_readPart_161 rfl ?_
                          rw [show g_part (M 64) (M 65) o inner s = .inl (s.1 + 1) by (unfold g_part; rw [if_neg (by omega), if_neg hl, if_neg (by omega), if_pos ⟨ho, by omega⟩, if_neg (by have hv1 := hR.1.2.2.2 (s.1 + 1) (hR.1.lt hA1 (by omega)); simp only [g_lf1] at hx; split <;> omega)])]
                          exact ⟨_, _, rfl⟩
                  · refine x_aload_n 129 rfl dX11_readPart_128 0 rfl rfl ?_
                    refine x_iconst 130 rfl dX11_readPart_129 (by decide) ?_
                    refine x_bipush 132 rfl dX11_readPart_130 (by decide) ?_
                    refine x_cVu 135 rfl lX11_191 dX11_readPart_132 (lyl55 hL) (lys55 hL) (c_X11_mustN1 hL hR (gA_lf hA hl (hR.1.lt hA1 (by omega)))) rfl rfl (Nat.le_of_ble_eq_true rfl) (fun M2 hr2 => ?_)
                    rcases hr2 with ⟨hx, hM2⟩ | ⟨hx, hM2⟩
                    · rw [hM2]
                      refine x_aload_n 136 rfl dX11_readPart_135 0 rfl rfl ?_
                      refine x_getz 139 rfl fX11_195 dX11_readPart_136 (lyl55 hL) (lys55 hL) (by decide) ?_
                      try simp (disch := omega) only [z_up_ne, z_up_nk, z_up_eq, z_mup_ne, z_mup_eq, Int.reduceToNat, Int.toNat_natCast, rd_19, rd_20, rd_21, rd_o, rd_ne, rd_u19, rd_u20, rd_u21]
                      refine x_if_eq 142 161 rfl dX11_readPart_139 (by decide) (fun c139 => ?_) (fun c139 => ?_)
                      · exfalso; omega
                      · refine x_iload_n 143 rfl dX11_readPart_142 2 rfl rfl ?_
                        refine x_bipush 145 rfl dX11_readPart_143 (by decide) ?_
                        refine x_icmp_ne 148 161 rfl dX11_readPart_145 (by decide) (fun c145 => ?_) (fun c145 => ?_)
                        · refine x_retu dX11_readPart_161 rfl ?_
                          rw [show g_part (M 64) (M 65) o inner s = .inr (g_em (g_ad (g_lf s)) (2 + 16 * ((if M 64 s.1 = 14 then 13 else 21) + M 65 (s.1 + 1))), fun e => some (e (M 64 s.1) (M 65 (s.1 + 1)))) by (unfold g_part; rw [if_neg (by omega), if_neg hl, if_neg (by omega), if_pos ⟨ho, by omega⟩, if_pos (by simp only [g_lf1] at hx; split <;> omega)])]
                          rfl
                        · exfalso; omega
                    · rw [hM2]
                      refine x_aload_n 136 rfl dX11_readPart_135 0 rfl rfl ?_
                      refine x_getz 139 rfl fX11_195 dX11_readPart_136 (lyl55 hL) (lys55 hL) (by decide) ?_
                      try simp (disch := omega) only [z_up_ne, z_up_nk, z_up_eq, z_mup_ne, z_mup_eq, Int.reduceToNat, Int.toNat_natCast, rd_19, rd_20, rd_21, rd_o, rd_ne, rd_u19, rd_u20, rd_u21]
                      refine x_if_eq 142 161 rfl dX11_readPart_139 (by decide) (fun c139 => ?_) (fun c139 => ?_)
                      · exfalso; omega
                      · refine x_iload_n 143 rfl dX11_readPart_142 2 rfl rfl ?_
                        refine x_bipush 145 rfl dX11_readPart_143 (by decide) ?_
                        refine x_icmp_ne 148 161 rfl dX11_readPart_145 (by decide) (fun c145 => ?_) (fun c145 => ?_)
                        · refine x_retu dX11_readPart_161 rfl ?_
                          rw [show g_part (M 64) (M 65) o inner s = .inl (s.1 + 1) by (unfold g_part; rw [if_neg (by omega), if_neg hl, if_neg (by omega), if_pos ⟨ho, by omega⟩, if_neg (by have hv1 := hR.1.2.2.2 (s.1 + 1) (hR.1.lt hA1 (by omega)); simp only [g_lf1] at hx; split <;> omega)])]
                          exact ⟨_, _, rfl⟩
                        · exfalso; omega
    · refine x_iload_n 28 rfl dX11_readPart_27 1 rfl rfl ?_
      refine x_bipush 30 rfl dX11_readPart_28 (by decide) ?_
      refine x_icmp_ne 33 37 rfl dX11_readPart_30 (by decide) (fun c30 => ?_) (fun c30 => ?_)
      · rcases hin with ⟨hin, h8⟩ | ⟨f, hin1, h8, hg, hf⟩
        · exfalso; omega
        refine x_aload_n 38 rfl dX11_readPart_37 0 rfl rfl ?_
        refine x_cVi 41 rfl lX11_165 dX11_readPart_38 (lyl55 hL) (lys55 hL) (c_X11_fine1 hL) rfl rfl (Nat.le_of_ble_eq_true rfl) (fun r M1 hr1 => ?_)
        obtain ⟨rfl, hM1⟩ := hr1
        rw [hM1]
        refine x_if_ne 44 45 rfl dX11_readPart_41 (by decide) (fun c41 => ?_) (fun c41 => ?_)
        · refine x_aload_n 46 rfl dX11_readPart_45 0 rfl rfl ?_
          refine x_dupr 47 rfl dX11_readPart_46 ?_
          refine x_geti 50 rfl fX11_169 dX11_readPart_47 (lyl55 hL) (lys55 hL) (by decide) ?_
          try simp (disch := omega) only [z_up_ne, z_up_nk, z_up_eq, z_mup_ne, z_mup_eq, Int.reduceToNat, Int.toNat_natCast, rd_19, rd_20, rd_21, rd_o, rd_ne, rd_u19, rd_u20, rd_u21]
          refine x_iconst 51 rfl dX11_readPart_50 (by decide) ?_
          refine y_iadd 52 rfl dX11_readPart_51 (by omega) ?_
          refine x_puti 55 rfl fX11_169 dX11_readPart_52 (lyl55 hL) (lys55 hL) (by decide) ?_
          try simp only [rd_19, rd_20, rd_21, rd_o, rd_ne, rd_u19, rd_u20, rd_u21]
          rw [rd_ad s]
          refine x_aload_n 56 rfl dX11_readPart_55 0 rfl rfl ?_
          refine x_iload_n 57 rfl dX11_readPart_56 1 rfl rfl ?_
          refine x_iconst 58 rfl dX11_readPart_57 (by decide) ?_
          refine y_iadd 59 rfl dX11_readPart_58 (by omega) ?_
          refine x_cVu 62 rfl lX11_181 dX11_readPart_59 (lyl55 hL) (lys55 hL) (hf (g_ad s) (gW_A hA (gW_ad hA (hR.1.lt hA1 (by omega))))) rfl rfl (Nat.le_of_ble_eq_true rfl) (fun M2 hr2 => ?_)
          rcases hq : f (g_ad s) with t1 | ⟨s1, w1⟩
          · rw [hq] at hr2
            obtain ⟨x1, y1, hM2⟩ := hr2
            rw [hM2]
            have hb1 : M 66 t1 ≠ -1 := by have := hR.2 t1 ((hg (g_ad s) (gW_A hA (gW_ad hA (hR.1.lt hA1 (by omega))))).1 t1 hq); omega
            refine x_aload_n 63 rfl dX11_readPart_62 0 rfl rfl ?_
            refine x_bipush 65 rfl dX11_readPart_63 (by decide) ?_
            refine x_cSi 68 rfl lX11_211 dX11_readPart_65 (c_X11_signOf (by decide)) rfl rfl (Nat.le_of_ble_eq_true rfl) (fun r M1 hr1 => ?_)
            obtain ⟨rfl, hM1⟩ := hr1
            rw [hM1]
            refine x_cVu 71 rfl lX11_185 dX11_readPart_68 (lyl55 hL) (lys55 hL) (c_X11_must0 hL hb1) rfl rfl (Nat.le_of_ble_eq_true rfl) (fun M1 hM1 => ?_)
            rw [hM1]
            refine x_goto 161 dX11_readPart_71 (by decide) ?_
            refine x_retu dX11_readPart_161 rfl ?_
            rw [show g_part (M 64) (M 65) o inner s = .inl t1 by (unfold g_part; rw [if_pos (by omega), hin1]; simp only [hq, g_bd])]
            exact ⟨_, _, rfl⟩
          · rw [hq] at hr2
            have hM2 : M2 = rd M (s1.1 : Int) (s1.2.1 : Int) (-1) := hr2
            rw [hM2]
            have hw1 := (hg (g_ad s) (gW_A hA (gW_ad hA (hR.1.lt hA1 (by omega))))).2 s1 w1 hq
            have hA9 := gW_A (gW_A hA (gW_ad hA (hR.1.lt hA1 (by omega)))) hw1
            refine x_aload_n 63 rfl dX11_readPart_62 0 rfl rfl ?_
            refine x_bipush 65 rfl dX11_readPart_63 (by decide) ?_
            refine x_cSi 68 rfl lX11_211 dX11_readPart_65 (c_X11_signOf (by decide)) rfl rfl (Nat.le_of_ble_eq_true rfl) (fun r M1 hr1 => ?_)
            obtain ⟨rfl, hM1⟩ := hr1
            rw [hM1]
            refine x_cVu 71 rfl lX11_185 dX11_readPart_68 (lyl55 hL) (lys55 hL) (c_X11_must1 hL hR hA9) rfl rfl (Nat.le_of_ble_eq_true rfl) (fun M3 hr3 => ?_)
            rcases hr3 with ⟨hx, hM3⟩ | ⟨hx, hM3⟩
            · rw [hM3]
              refine x_goto 161 dX11_readPart_71 (by decide) ?_
              refine x_retu dX11_readPart_161 rfl ?_
              rw [show g_part (M 64) (M 65) o inner s = .inr (g_ad s1, w1) by (unfold g_part; rw [if_pos (by omega), hin1]; simp only [hq, g_bd]; rw [if_pos (by omega)])]
              rfl
            · rw [hM3]
              refine x_goto 161 dX11_readPart_71 (by decide) ?_
              refine x_retu dX11_readPart_161 rfl ?_
              rw [show g_part (M 64) (M 65) o inner s = .inl s1.1 by (unfold g_part; rw [if_pos (by omega), hin1]; simp only [hq, g_bd]; rw [if_neg (by omega)])]
              exact ⟨_, _, rfl⟩
        · exfalso; omega
      · have hin1 : inner = none := by rcases hin with ⟨hin, h8⟩ | ⟨f, h1, h8, hg, hf⟩; exact hin; exfalso; omega
        refine x_aload_n 34 rfl dX11_readPart_33 0 rfl rfl ?_
        refine x_cVu 37 rfl lX11_175 dX11_readPart_34 (lyl55 hL) (lys55 hL) (c_X11_faults1 hL (by omega)) rfl rfl (Nat.le_of_ble_eq_true rfl) (fun M1 hM1 => ?_)
        rw [hM1]
        rw [Int.toNat_natCast]
        refine x_aload_n 38 rfl dX11_readPart_37 0 rfl rfl ?_
        refine x_cVi 41 rfl lX11_165 dX11_readPart_38 (lyl55 hL) (lys55 hL) (c_X11_fine0 hL hb) rfl rfl (Nat.le_of_ble_eq_true rfl) (fun r M1 hr1 => ?_)
        obtain ⟨rfl, hM1⟩ := hr1
        rw [hM1]
        refine x_if_ne 44 45 rfl dX11_readPart_41 (by decide) (fun c41 => ?_) (fun c41 => ?_)
        · exfalso; omega
        · refine x_retu dX11_readPart_44 rfl ?_
          rw [show g_part (M 64) (M 65) o inner s = .inl s.1 by (unfold g_part; rw [if_pos (by omega), hin1])]
          exact ⟨_, _, rfl⟩
  · exfalso; omega
