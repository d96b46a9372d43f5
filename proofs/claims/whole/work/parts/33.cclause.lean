def ct (M : zMem) (m : Int) (hd : Nat → Int) : zMem := z_mup (z_up M 36 0 m) 37 hd
section CTT
variable {M : zMem} {m x t fl pa br u : Int} {hd cd : Nat → Int}
theorem ct_0 : ct M m hd 36 0 = m := by simp [ct, z_up, z_mup]
theorem ct_37 : ct M m hd 37 = hd := by funext j; simp [ct, z_mup]
theorem ct_ne {i : Nat} (h1 : i ≠ 36) (h2 : i ≠ 37) : ct M m hd i = M i := by funext j; simp [ct, z_up, z_mup, h1, h2]
theorem crt_w0 : z_up (cr (ct M m hd) t fl pa br u cd) 36 0 x = cr (ct M x hd) t fl pa br u cd := by
  funext i j
  by_cases h : i = 38
  · subst h; simp [cr, z_up, z_mup]
  · by_cases h4 : j = 0 <;> by_cases h1 : i = 36 <;> by_cases h2 : i = 37 <;> simp [cr, ct, z_up, z_mup, h, h1, h2, h4]
theorem crt_w37 {k : Nat} : z_up (cr (ct M m hd) t fl pa br u cd) 37 k x = cr (ct M m (ku hd k x)) t fl pa br u cd := by
  funext i j
  by_cases h : i = 37
  · subst h; by_cases h4 : j = k <;> simp [cr, ct, z_up, z_mup, ku, h4]
  · by_cases h1 : i = 38 <;> simp [cr, ct, z_up, z_mup, h, h1]
end CTT
theorem CKr_ct {M : zMem} {c v : Nat → Int} {n : Nat} {m : Int} {hd : Nat → Int} (h : CKr M c v n) : CKr (ct M m hd) c v n := by
  unfold CKr at h ⊢
  simp (disch := decide) only [ct_ne]
  exact h
def hdw (hd : Nat → Int) (m : Nat) (x : Int × Int × Int × Int × Int) : Nat → Int := fun j => if j = 5 * m then x.1 else if j = 5 * m + 1 then x.2.1 else if j = 5 * m + 2 then x.2.2.1 else if j = 5 * m + 3 then x.2.2.2.1 else if j = 5 * m + 4 then x.2.2.2.2 else hd j
section HDW
variable {hd : Nat → Int} {m i : Nat} {k f s t x y : Int}
theorem hdw_open : ku (ku (ku (ku (ku hd (5 * m) k) (5 * m + 1) (-1)) (5 * m + 2) (-1)) (5 * m + 3) (-1)) (5 * m + 4) 1 = hdw hd m (k, -1, -1, -1, 1) := by
  funext j; simp only [ku, hdw]
  by_cases h0 : j = 5 * m
  · subst h0; simp
  · by_cases h1 : j = 5 * m + 1
    · subst h1; simp
    · by_cases h2 : j = 5 * m + 2
      · subst h2; simp
      · by_cases h3 : j = 5 * m + 3
        · subst h3; simp
        · simp [h0, h1, h2, h3]
theorem hdw_1 (hi : i = 5 * m + 1) : ku (hdw hd m (k, f, s, t, x)) i y = hdw hd m (k, y, s, t, x) := by
  subst hi
  funext j; simp only [ku, hdw]
  by_cases h1 : j = 5 * m + 1
  · subst h1; simp
  · simp [h1]
theorem hdw_2 (hi : i = 5 * m + 2) : ku (hdw hd m (k, f, s, t, x)) i y = hdw hd m (k, f, y, t, x) := by
  subst hi
  funext j; simp only [ku, hdw]
  by_cases h1 : j = 5 * m + 2
  · subst h1; simp
  · simp [h1]
theorem hdw_3 (hi : i = 5 * m + 3) : ku (hdw hd m (k, f, s, t, x)) i y = hdw hd m (k, f, s, y, x) := by
  subst hi
  funext j; simp only [ku, hdw]
  by_cases h1 : j = 5 * m + 3
  · subst h1; simp
  · simp [h1]
theorem hdw_4 (hi : i = 5 * m + 4) : ku (hdw hd m (k, f, s, t, x)) i y = hdw hd m (k, f, s, t, y) := by
  subst hi
  funext j; simp only [ku, hdw]
  by_cases h1 : j = 5 * m + 4
  · subst h1; simp
  · simp [h1]
end HDW
def croC (M : zMem) (m : Nat) (hd : Nat → Int) (res : gRC) (M' : zMem) : Prop := match res with
  | .inl t => ∃ (m' : Nat) (hd' : Nat → Int) (x y u : Int) (cd : Nat → Int), m' ≤ 12 ∧ (0 ≤ u ∧ u ≤ 400) ∧ M' = cr (ct M (m' : Int) hd') x (M 34 t) y 0 u cd
  | .inr q => M' = cr (ct M ((m + 1 : Nat) : Int) (hdw hd m q.2.1)) (q.1.1 : Int) (-1) (q.1.2.1 : Int) 0 (q.1.2.2.1 : Int) q.1.2.2.2

set_option maxRecDepth 100000 in
set_option maxHeartbeats 4000000 in
theorem c_X9_setT {d sz : Nat} {S : zSh} {M : zMem} (hL : LY S sz) {m : Nat} {hd : Nat → Int} {t fl pa u : Int} {cd : Nat → Int} {w x : Int} (hm : m < 12) (hw : 0 ≤ w ∧ w < 5) : zX d 0 0 mX9_set [zn 36, zi w, zi x] sz S (cr (ct M ((m + 1 : Nat) : Int) hd) t fl pa 0 u cd) (zU sz S (fun M' => M' = cr (ct M ((m + 1 : Nat) : Int) (ku hd (5 * m + w.toNat) x)) t fl pa 0 u cd)) := by
  have hm1 : ((m + 1 : Nat) : Int) = (m : Int) + 1 := by omega
  refine zX_of pl_RX9 [some (zn 36), some (zi w), some (zi x), none] 1 rfl rfl ?_
  refine x_aload_n 1 rfl dX9_set_0 0 rfl rfl ?_
  refine x_geti 4 rfl fX9_18 dX9_set_1 (lyl36 hL) (lys36 hL) (by decide) ?_
  try simp (disch := omega) only [z_up_ne, z_up_nk, z_up_eq, z_mup_ne, z_mup_eq, Int.reduceToNat, Int.toNat_natCast, cr_4, cr_5, cr_6, cr_7, cr_o, cr_u, cr_uo, cr_c, cr_ne, cr_w4, cr_w5, cr_w6, cr_w7, cr_wu, cr_wc, ct_0, ct_37, ct_ne, crt_w0, crt_w37]
  refine x_iconst 5 rfl dX9_set_4 (by decide) ?_
  refine y_isub 6 rfl dX9_set_5 (by omega) ?_
  refine x_iconst 7 rfl dX9_set_6 (by decide) ?_
  refine y_imul 8 rfl dX9_set_7 (by omega) ?_
  refine x_iload_n 9 rfl dX9_set_8 1 rfl rfl ?_
  refine y_iadd 10 rfl dX9_set_9 (by omega) ?_
  refine y_istore_n 11 rfl dX9_set_10 rfl rfl (ls' := [_, _, _, _]) rfl (by decide) ?_
  refine x_iload_n 12 rfl dX9_set_11 3 rfl rfl ?_
  refine x_if_lt 15 31 rfl dX9_set_12 (by decide) (fun c12 => ?_) (fun c12 => ?_)
  · exfalso; omega
  · refine x_iload_n 16 rfl dX9_set_15 3 rfl rfl ?_
    refine x_aload_n 17 rfl dX9_set_16 0 rfl rfl ?_
    refine x_getr 20 rfl fX9_11 dX9_set_17 (lyl36 hL) (lys36 hL) (by decide) (37) rfl ?_
    refine x_alen (t := 0) 21 rfl dX9_set_20 (lyl37 hL) (lys37 hL) (Or.inl rfl) (by decide) ?_
    refine x_icmp_ge 24 31 rfl dX9_set_21 (by decide) (fun c21 => ?_) (fun c21 => ?_)
    · exfalso; omega
    · refine x_aload_n 25 rfl dX9_set_24 0 rfl rfl ?_
      refine x_getr 28 rfl fX9_11 dX9_set_25 (lyl36 hL) (lys36 hL) (by decide) (37) rfl ?_
      refine x_iload_n 29 rfl dX9_set_28 3 rfl rfl ?_
      refine x_iload_n 30 rfl dX9_set_29 2 rfl rfl ?_
      refine x_iast 31 rfl dX9_set_30 (lyl37 hL) (lys37 hL) (by omega) (by omega) ?_
      try simp only [cr_4, cr_5, cr_6, cr_7, cr_o, cr_u, cr_uo, cr_c, cr_ne, cr_w4, cr_w5, cr_w6, cr_w7, cr_wu, cr_wc, ct_0, ct_37, ct_ne, crt_w0, crt_w37]
      refine x_retu dX9_set_31 rfl ?_
      rw [show ((((m + 1 : Nat) : Int) - 1) * 5 + w).toNat = 5 * m + w.toNat by omega]

set_option maxRecDepth 100000 in
set_option maxHeartbeats 4000000 in
theorem c_X9_openT {d sz : Nat} {S : zSh} {M : zMem} (hL : LY S sz) {m : Nat} {hd : Nat → Int} {t fl pa u : Int} {cd : Nat → Int} {x : Int} (hm : m < 12) : zX (d + 1) 0 0 mX9_open [zn 36, zi x] sz S (cr (ct M (m : Int) hd) t fl pa 0 u cd) (zU sz S (fun M' => M' = cr (ct M ((m + 1 : Nat) : Int) (hdw hd m (x, -1, -1, -1, 1))) t fl pa 0 u cd)) := by
  refine zX_of pl_RX9 [some (zn 36), some (zi x)] 0 rfl rfl ?_
  refine x_aload_n 1 rfl dX9_open_0 0 rfl rfl ?_
  refine x_geti 4 rfl fX9_18 dX9_open_1 (lyl36 hL) (lys36 hL) (by decide) ?_
  try simp (disch := omega) only [z_up_ne, z_up_nk, z_up_eq, z_mup_ne, z_mup_eq, Int.reduceToNat, Int.toNat_natCast, cr_4, cr_5, cr_6, cr_7, cr_o, cr_u, cr_uo, cr_c, cr_ne, cr_w4, cr_w5, cr_w6, cr_w7, cr_wu, cr_wc, ct_0, ct_37, ct_ne, crt_w0, crt_w37]
  refine x_iconst 5 rfl dX9_open_4 (by decide) ?_
  refine y_iadd 6 rfl dX9_open_5 (by omega) ?_
  refine x_iconst 7 rfl dX9_open_6 (by decide) ?_
  refine y_imul 8 rfl dX9_open_7 (by omega) ?_
  refine x_aload_n 9 rfl dX9_open_8 0 rfl rfl ?_
  refine x_getr 12 rfl fX9_11 dX9_open_9 (lyl36 hL) (lys36 hL) (by decide) (37) rfl ?_
  refine x_alen (t := 0) 13 rfl dX9_open_12 (lyl37 hL) (lys37 hL) (Or.inl rfl) (by decide) ?_
  refine x_icmp_le 16 17 rfl dX9_open_13 (by decide) (fun c13 => ?_) (fun c13 => ?_)
  · refine x_aload_n 18 rfl dX9_open_17 0 rfl rfl ?_
    refine x_dupr 19 rfl dX9_open_18 ?_
    refine x_geti 22 rfl fX9_18 dX9_open_19 (lyl36 hL) (lys36 hL) (by decide) ?_
    try simp (disch := omega) only [z_up_ne, z_up_nk, z_up_eq, z_mup_ne, z_mup_eq, Int.reduceToNat, Int.toNat_natCast, cr_4, cr_5, cr_6, cr_7, cr_o, cr_u, cr_uo, cr_c, cr_ne, cr_w4, cr_w5, cr_w6, cr_w7, cr_wu, cr_wc, ct_0, ct_37, ct_ne, crt_w0, crt_w37]
    refine x_iconst 23 rfl dX9_open_22 (by decide) ?_
    refine y_iadd 24 rfl dX9_open_23 (by omega) ?_
    refine x_puti 27 rfl fX9_18 dX9_open_24 (lyl36 hL) (lys36 hL) (by decide) ?_
    try simp only [cr_4, cr_5, cr_6, cr_7, cr_o, cr_u, cr_uo, cr_c, cr_ne, cr_w4, cr_w5, cr_w6, cr_w7, cr_wu, cr_wc, ct_0, ct_37, ct_ne, crt_w0, crt_w37]
    rw [show (m : Int) + 1 = ((m + 1 : Nat) : Int) by omega]
    refine x_aload_n 28 rfl dX9_open_27 0 rfl rfl ?_
    refine x_iconst 29 rfl dX9_open_28 (by decide) ?_
    refine x_iload_n 30 rfl dX9_open_29 1 rfl rfl ?_
    refine x_cVu 33 rfl lX9_34 dX9_open_30 (lyl36 hL) (lys36 hL) (c_X9_setT hL hm (by decide)) rfl rfl (Nat.le_of_ble_eq_true rfl) (fun M5 hM5 => ?_)
    rw [hM5]
    refine x_aload_n 34 rfl dX9_open_33 0 rfl rfl ?_
    refine x_iconst 35 rfl dX9_open_34 (by decide) ?_
    refine x_iconst 36 rfl dX9_open_35 (by decide) ?_
    refine x_cVu 39 rfl lX9_34 dX9_open_36 (lyl36 hL) (lys36 hL) (c_X9_setT hL hm (by decide)) rfl rfl (Nat.le_of_ble_eq_true rfl) (fun M5 hM5 => ?_)
    rw [hM5]
    refine x_aload_n 40 rfl dX9_open_39 0 rfl rfl ?_
    refine x_iconst 41 rfl dX9_open_40 (by decide) ?_
    refine x_iconst 42 rfl dX9_open_41 (by decide) ?_
    refine x_cVu 45 rfl lX9_34 dX9_open_42 (lyl36 hL) (lys36 hL) (c_X9_setT hL hm (by decide)) rfl rfl (Nat.le_of_ble_eq_true rfl) (fun M5 hM5 => ?_)
    rw [hM5]
    refine x_aload_n 46 rfl dX9_open_45 0 rfl rfl ?_
    refine x_iconst 47 rfl dX9_open_46 (by decide) ?_
    refine x_iconst 48 rfl dX9_open_47 (by decide) ?_
    refine x_cVu 51 rfl lX9_34 dX9_open_48 (lyl36 hL) (lys36 hL) (c_X9_setT hL hm (by decide)) rfl rfl (Nat.le_of_ble_eq_true rfl) (fun M5 hM5 => ?_)
    rw [hM5]
    refine x_aload_n 52 rfl dX9_open_51 0 rfl rfl ?_
    refine x_iconst 53 rfl dX9_open_52 (by decide) ?_
    refine x_iconst 54 rfl dX9_open_53 (by decide) ?_
    refine x_cVu 57 rfl lX9_34 dX9_open_54 (lyl36 hL) (lys36 hL) (c_X9_setT hL hm (by decide)) rfl rfl (Nat.le_of_ble_eq_true rfl) (fun M5 hM5 => ?_)
    rw [hM5]
    refine x_retu dX9_open_57 rfl ?_
    rw [← hdw_open]
    rfl
  · exfalso; omega

theorem c_X6_sum8 {d sz : Nat} {S : zSh} {M : zMem} (hL : LY S sz) {n : Nat} {c v : Nat → Int} (hT : TK c v n) (hC : CKr M c v n) {o : Bool} (hO : M 32 8 = (if o = true then 0 else 1)) {m : Nat} {hd : Nat → Int} {s : gS} (hA : gA n s) : zX (d + 29) 0 0 mX6_sum [zn 32] sz S (cr (ct M (m : Int) hd) (s.1 : Int) (-1) (s.2.1 : Int) 0 (s.2.2.1 : Int) s.2.2.2) (zU sz S (fun M' => cro (ct M (m : Int) hd) 0 (g_sumD c v o 8 s) M')) := c_X6_sumD (M := ct M (m : Int) hd) hL hT (CKr_ct hC) (by simp (disch := decide) only [ct_ne]; exact hO) 8 (d := d) hA (br := 0) rfl
theorem c_X6_test8 {d sz : Nat} {S : zSh} {M : zMem} (hL : LY S sz) {n : Nat} {c v : Nat → Int} (hT : TK c v n) (hC : CKr M c v n) {o : Bool} (hO : M 32 8 = (if o = true then 0 else 1)) {m : Nat} {hd : Nat → Int} {s : gS} (hA : gA n s) : zX (d + 32) 0 0 mX6_test [zn 32] sz S (cr (ct M (m : Int) hd) (s.1 : Int) (-1) (s.2.1 : Int) 0 (s.2.2.1 : Int) s.2.2.2) (zU sz S (fun M' => cro (ct M (m : Int) hd) 0 (g_testD c v o 8 s) M')) := c_X6_testD (M := ct M (m : Int) hd) hL hT (CKr_ct hC) (by simp (disch := decide) only [ct_ne]; exact hO) 8 (d := d) hA (br := 0) rfl

set_option maxRecDepth 100000 in
set_option maxHeartbeats 4000000 in
theorem c_X6_sumOf1 {d sz : Nat} {S : zSh} {M : zMem} (hL : LY S sz) {n : Nat} {c v : Nat → Int} (hT : TK c v n) (hC : CKr M c v n) {o : Bool} (hO : M 32 8 = (if o = true then 0 else 1)) {m : Nat} {hd : Nat → Int} {s : gS} (hA : gA n s) {x : Int} (hx : 0 ≤ x ∧ x < 5) (hm : m < 12) (hu : ∀ s1 w, g_sumD c v o 8 s = .inr (s1, w) → s1.2.2.1 < 400) : zX (d + 30) 0 0 mX6_sumOf [zn 32, zi x] sz S (cr (ct M ((m + 1 : Nat) : Int) hd) (s.1 : Int) (-1) (s.2.1 : Int) 0 (s.2.2.1 : Int) s.2.2.2) (zU sz S (fun M' => (∃ t x1 y1 u1 cd1, g_sumD c v o 8 s = .inl t ∧ (0 ≤ u1 ∧ u1 ≤ 400) ∧ M' = cr (ct M ((m + 1 : Nat) : Int) (ku hd (5 * m + x.toNat) (s.2.2.1 : Int))) x1 (M 34 t) y1 0 u1 cd1) ∨ (∃ s1 w, g_sumD c v o 8 s = .inr (s1, w) ∧ M' = (cr (ct M ((m + 1 : Nat) : Int) (ku hd (5 * m + x.toNat) (s.2.2.1 : Int))) ((g_em s1 0).1 : Int) (-1) ((g_em s1 0).2.1 : Int) 0 ((g_em s1 0).2.2.1 : Int) (g_em s1 0).2.2.2)))) := by
  refine zX_of pl_RX6 [some (zn 32), some (zi x)] 0 rfl rfl ?_
  refine x_aload_n 1 rfl dX6_sumOf_0 0 rfl rfl ?_
  refine x_getr 4 rfl fX6_26 dX6_sumOf_1 (lyl32 hL) (lys32 hL) (by decide) (36) rfl ?_
  refine x_iload_n 5 rfl dX6_sumOf_4 1 rfl rfl ?_
  refine x_aload_n 6 rfl dX6_sumOf_5 0 rfl rfl ?_
  refine x_getr 9 rfl fX6_26 dX6_sumOf_6 (lyl32 hL) (lys32 hL) (by decide) (36) rfl ?_
  refine x_geti 12 rfl fX6_118 dX6_sumOf_9 (lyl36 hL) (lys36 hL) (by decide) ?_
  try simp (disch := omega) only [z_up_ne, z_up_nk, z_up_eq, z_mup_ne, z_mup_eq, Int.reduceToNat, Int.toNat_natCast, cr_4, cr_5, cr_6, cr_7, cr_o, cr_u, cr_uo, cr_c, cr_ne, cr_w4, cr_w5, cr_w6, cr_w7, cr_wu, cr_wc, ct_0, ct_37, ct_ne, crt_w0, crt_w37]
  refine x_cVu 15 rfl lX6_121 dX6_sumOf_12 (lyl36 hL) (lys36 hL) (c_X9_setT hL hm hx) rfl rfl (Nat.le_of_ble_eq_true rfl) (fun M5 hM5 => ?_)
  rw [hM5]
  refine x_aload_n 16 rfl dX6_sumOf_15 0 rfl rfl ?_
  refine x_cVu 19 rfl lX6_130 dX6_sumOf_16 (lyl32 hL) (lys32 hL) (c_X6_sum8 hL hT hC hO hA) rfl rfl (Nat.le_of_ble_eq_true rfl) (fun M2 hr2 => ?_)
  rcases hq2 : g_sumD c v o 8 s with t2 | ⟨s2, w2⟩
  · rw [hq2] at hr2
    obtain ⟨x1, y1, u1, cd1, hu1, hM2⟩ := hr2
    rw [hM2]
    refine x_aload_n 20 rfl dX6_sumOf_19 0 rfl rfl ?_
    refine x_getr 23 rfl fX6_26 dX6_sumOf_20 (lyl32 hL) (lys32 hL) (by decide) (36) rfl ?_
    refine x_iconst 24 rfl dX6_sumOf_23 (by decide) ?_
    refine x_iconst 25 rfl dX6_sumOf_24 (by decide) ?_
    refine x_cVu 28 rfl lX6_127 dX6_sumOf_25 (lyl36 hL) (lys36 hL) (c_X9_em0 hL hu1 (by decide) (by decide)) rfl rfl (Nat.le_of_ble_eq_true rfl) (fun M4 hr4 => ?_)
    obtain ⟨u4, cd4, hu4, hM4⟩ := hr4
    rw [hM4]
    refine x_retu dX6_sumOf_28 rfl ?_
    left; exact ⟨t2, _, _, _, _, rfl, hu4, by rw [ct_ne (by decide) (by decide)]⟩
  · rw [hq2] at hr2
    have hM2 : M2 = (cr (ct M ((m + 1 : Nat) : Int) (ku hd (5 * m + x.toNat) (s.2.2.1 : Int))) (s2.1 : Int) (-1) (s2.2.1 : Int) 0 (s2.2.2.1 : Int) s2.2.2.2) := hr2
    rw [hM2]
    refine x_aload_n 20 rfl dX6_sumOf_19 0 rfl rfl ?_
    refine x_getr 23 rfl fX6_26 dX6_sumOf_20 (lyl32 hL) (lys32 hL) (by decide) (36) rfl ?_
    refine x_iconst 24 rfl dX6_sumOf_23 (by decide) ?_
    refine x_iconst 25 rfl dX6_sumOf_24 (by decide) ?_
    refine x_cVu 28 rfl lX6_127 dX6_sumOf_25 (lyl36 hL) (lys36 hL) (c_X9_em1 hL (s := s2) (hu s2 w2 hq2) (by decide) (by decide)) rfl rfl (Nat.le_of_ble_eq_true rfl) (fun M4 hM4 => ?_)
    rw [hM4, show (0 : Int) + 16 * 0 = 0 by decide]
    refine x_retu dX6_sumOf_28 rfl ?_
    right; exact ⟨s2, w2, rfl, rfl⟩

set_option maxRecDepth 100000 in
set_option maxHeartbeats 4000000 in
theorem c_X6_sumOf0 {d sz : Nat} {S : zSh} {M : zMem} (hL : LY S sz) {m : Nat} {hd : Nat → Int} {t fl pa u : Int} {cd : Nat → Int} (hf : fl ≠ -1) (hu : 0 ≤ u ∧ u ≤ 400) {x : Int} (hx : 0 ≤ x ∧ x < 5) (hm : m < 12) : zX (d + 30) 0 0 mX6_sumOf [zn 32, zi x] sz S (cr (ct M ((m + 1 : Nat) : Int) hd) t fl pa 0 u cd) (zU sz S (fun M' => ∃ hd' u' cd', (0 ≤ u' ∧ u' ≤ 400) ∧ M' = cr (ct M ((m + 1 : Nat) : Int) hd') t fl pa 0 u' cd')) := by
  refine zX_of pl_RX6 [some (zn 32), some (zi x)] 0 rfl rfl ?_
  refine x_aload_n 1 rfl dX6_sumOf_0 0 rfl rfl ?_
  refine x_getr 4 rfl fX6_26 dX6_sumOf_1 (lyl32 hL) (lys32 hL) (by decide) (36) rfl ?_
  refine x_iload_n 5 rfl dX6_sumOf_4 1 rfl rfl ?_
  refine x_aload_n 6 rfl dX6_sumOf_5 0 rfl rfl ?_
  refine x_getr 9 rfl fX6_26 dX6_sumOf_6 (lyl32 hL) (lys32 hL) (by decide) (36) rfl ?_
  refine x_geti 12 rfl fX6_118 dX6_sumOf_9 (lyl36 hL) (lys36 hL) (by decide) ?_
  try simp (disch := omega) only [z_up_ne, z_up_nk, z_up_eq, z_mup_ne, z_mup_eq, Int.reduceToNat, Int.toNat_natCast, cr_4, cr_5, cr_6, cr_7, cr_o, cr_u, cr_uo, cr_c, cr_ne, cr_w4, cr_w5, cr_w6, cr_w7, cr_wu, cr_wc, ct_0, ct_37, ct_ne, crt_w0, crt_w37]
  refine x_cVu 15 rfl lX6_121 dX6_sumOf_12 (lyl36 hL) (lys36 hL) (c_X9_setT hL hm hx) rfl rfl (Nat.le_of_ble_eq_true rfl) (fun M5 hM5 => ?_)
  rw [hM5]
  refine x_aload_n 16 rfl dX6_sumOf_15 0 rfl rfl ?_
  refine x_cVu 19 rfl lX6_130 dX6_sumOf_16 (lyl32 hL) (lys32 hL) (c_X6_sum0 hL hf) rfl rfl (Nat.le_of_ble_eq_true rfl) (fun M1 hM1 => ?_)
  rw [hM1]
  refine x_aload_n 20 rfl dX6_sumOf_19 0 rfl rfl ?_
  refine x_getr 23 rfl fX6_26 dX6_sumOf_20 (lyl32 hL) (lys32 hL) (by decide) (36) rfl ?_
  refine x_iconst 24 rfl dX6_sumOf_23 (by decide) ?_
  refine x_iconst 25 rfl dX6_sumOf_24 (by decide) ?_
  refine x_cVu 28 rfl lX6_127 dX6_sumOf_25 (lyl36 hL) (lys36 hL) (c_X9_em0 hL hu (by decide) (by decide)) rfl rfl (Nat.le_of_ble_eq_true rfl) (fun M4 hr4 => ?_)
  obtain ⟨u4, cd4, hu4, hM4⟩ := hr4
  rw [hM4]
  refine x_retu dX6_sumOf_28 rfl ?_
  exact ⟨_, _, _, hu4, rfl⟩

set_option maxRecDepth 100000 in
set_option maxHeartbeats 4000000 in
theorem c_X6_times1 {d sz : Nat} {S : zSh} {M : zMem} (hL : LY S sz) {n : Nat} {c v : Nat → Int} (hT : TK c v n) (hC : CKr M c v n) {m : Nat} {hd : Nat → Int} {s : gS} (hA : gA n s) (hm : m < 12) : zX (d + 1) 0 0 mX6_times [zn 32] sz S (cr (ct M ((m + 1 : Nat) : Int) hd) (s.1 : Int) (-1) (s.2.1 : Int) 0 (s.2.2.1 : Int) s.2.2.2) (zU sz S (fun M' => ((c s.1 = 50 ∧ 1 ≤ v s.1 ∧ v s.1 ≤ 20) ∧ M' = (cr (ct M ((m + 1 : Nat) : Int) (ku hd (5 * m + 4) (v s.1))) ((g_ad s).1 : Int) (-1) ((g_ad s).2.1 : Int) 0 ((g_ad s).2.2.1 : Int) (g_ad s).2.2.2)) ∨ (¬ (c s.1 = 50 ∧ 1 ≤ v s.1 ∧ v s.1 ≤ 20) ∧ M' = (cr (ct M ((m + 1 : Nat) : Int) hd) (s.1 : Int) (M 34 s.1) (s.2.1 : Int) 0 (s.2.2.1 : Int) s.2.2.2)))) := by
  have hA1 := hA.1
  have hn := hT.1
  have h35 := (hC.2 s.1 hA1).2.1
  have hv0 := hT.2.2.2 s.1 hA1
  refine zX_of pl_RX6 [some (zn 32)] 0 rfl rfl ?_
  refine x_aload_n 1 rfl dX6_times_0 0 rfl rfl ?_
  refine x_bipush 3 rfl dX6_times_1 (by decide) ?_
  refine x_cVi 6 rfl lX6_66 dX6_times_3 (lyl32 hL) (lys32 hL) (c_X6_stands1 hL hT (CKr_ct hC) hA1 kp31) rfl rfl (Nat.le_of_ble_eq_true rfl) (fun r M1 hr1 => ?_)
  rcases hr1 with ⟨hx, rfl, hM1⟩ | ⟨hx, rfl, hM1⟩
  · rw [hM1]
    refine x_if_eq 9 66 rfl dX6_times_6 (by decide) (fun c6 => ?_) (fun c6 => ?_)
    · exfalso; omega
    · refine x_aload_n 10 rfl dX6_times_9 0 rfl rfl ?_
      refine x_getr 13 rfl fX6_18 dX6_times_10 (lyl32 hL) (lys32 hL) (by decide) (35) rfl ?_
      refine x_aload_n 14 rfl dX6_times_13 0 rfl rfl ?_
      refine x_geti 17 rfl fX6_47 dX6_times_14 (lyl32 hL) (lys32 hL) (by decide) ?_
      try simp (disch := omega) only [z_up_ne, z_up_nk, z_up_eq, z_mup_ne, z_mup_eq, Int.reduceToNat, Int.toNat_natCast, cr_4, cr_5, cr_6, cr_7, cr_o, cr_u, cr_uo, cr_c, cr_ne, cr_w4, cr_w5, cr_w6, cr_w7, cr_wu, cr_wc, ct_0, ct_37, ct_ne, crt_w0, crt_w37]
      refine x_iald 18 rfl dX6_times_17 (lyl35 hL) (lys35 hL) (by omega) (by omega) ?_
      try simp (disch := omega) only [z_up_ne, z_up_nk, z_up_eq, z_mup_ne, z_mup_eq, Int.reduceToNat, Int.toNat_natCast, cr_4, cr_5, cr_6, cr_7, cr_o, cr_u, cr_uo, cr_c, cr_ne, cr_w4, cr_w5, cr_w6, cr_w7, cr_wu, cr_wc, ct_0, ct_37, ct_ne, crt_w0, crt_w37]
      refine x_iconst 19 rfl dX6_times_18 (by decide) ?_
      refine x_icmp_lt 22 66 rfl dX6_times_19 (by decide) (fun c19 => ?_) (fun c19 => ?_)
      · refine x_aload_n 67 rfl dX6_times_66 0 rfl rfl ?_
        refine x_cVu 70 rfl lX6_60 dX6_times_67 (lyl32 hL) (lys32 hL) (c_X6_fail1 hL hT (CKr_ct hC) hA1) rfl rfl (Nat.le_of_ble_eq_true rfl) (fun M4 hM4 => ?_)
        rw [hM4, ct_ne (by decide) (by decide)]
        refine x_retu dX6_times_70 rfl ?_
        first | (left; refine ⟨by omega, ?_⟩; rw [show v s.1 = M 35 s.1 by omega]; (first | done | rfl)) | (right; exact ⟨by omega, rfl⟩)
      · refine x_aload_n 23 rfl dX6_times_22 0 rfl rfl ?_
        refine x_getr 26 rfl fX6_18 dX6_times_23 (lyl32 hL) (lys32 hL) (by decide) (35) rfl ?_
        refine x_aload_n 27 rfl dX6_times_26 0 rfl rfl ?_
        refine x_geti 30 rfl fX6_47 dX6_times_27 (lyl32 hL) (lys32 hL) (by decide) ?_
        try simp (disch := omega) only [z_up_ne, z_up_nk, z_up_eq, z_mup_ne, z_mup_eq, Int.reduceToNat, Int.toNat_natCast, cr_4, cr_5, cr_6, cr_7, cr_o, cr_u, cr_uo, cr_c, cr_ne, cr_w4, cr_w5, cr_w6, cr_w7, cr_wu, cr_wc, ct_0, ct_37, ct_ne, crt_w0, crt_w37]
        refine x_iald 31 rfl dX6_times_30 (lyl35 hL) (lys35 hL) (by omega) (by omega) ?_
        try simp (disch := omega) only [z_up_ne, z_up_nk, z_up_eq, z_mup_ne, z_mup_eq, Int.reduceToNat, Int.toNat_natCast, cr_4, cr_5, cr_6, cr_7, cr_o, cr_u, cr_uo, cr_c, cr_ne, cr_w4, cr_w5, cr_w6, cr_w7, cr_wu, cr_wc, ct_0, ct_37, ct_ne, crt_w0, crt_w37]
        refine x_bipush 33 rfl dX6_times_31 (by decide) ?_
        refine x_icmp_gt 36 66 rfl dX6_times_33 (by decide) (fun c33 => ?_) (fun c33 => ?_)
        · refine x_aload_n 67 rfl dX6_times_66 0 rfl rfl ?_
          refine x_cVu 70 rfl lX6_60 dX6_times_67 (lyl32 hL) (lys32 hL) (c_X6_fail1 hL hT (CKr_ct hC) hA1) rfl rfl (Nat.le_of_ble_eq_true rfl) (fun M4 hM4 => ?_)
          rw [hM4, ct_ne (by decide) (by decide)]
          refine x_retu dX6_times_70 rfl ?_
          first | (left; refine ⟨by omega, ?_⟩; rw [show v s.1 = M 35 s.1 by omega]; (first | done | rfl)) | (right; exact ⟨by omega, rfl⟩)
        · refine x_aload_n 37 rfl dX6_times_36 0 rfl rfl ?_
          refine x_getr 40 rfl fX6_26 dX6_times_37 (lyl32 hL) (lys32 hL) (by decide) (36) rfl ?_
          refine x_iconst 41 rfl dX6_times_40 (by decide) ?_
          refine x_aload_n 42 rfl dX6_times_41 0 rfl rfl ?_
          refine x_getr 45 rfl fX6_18 dX6_times_42 (lyl32 hL) (lys32 hL) (by decide) (35) rfl ?_
          refine x_aload_n 46 rfl dX6_times_45 0 rfl rfl ?_
          refine x_geti 49 rfl fX6_47 dX6_times_46 (lyl32 hL) (lys32 hL) (by decide) ?_
          try simp (disch := omega) only [z_up_ne, z_up_nk, z_up_eq, z_mup_ne, z_mup_eq, Int.reduceToNat, Int.toNat_natCast, cr_4, cr_5, cr_6, cr_7, cr_o, cr_u, cr_uo, cr_c, cr_ne, cr_w4, cr_w5, cr_w6, cr_w7, cr_wu, cr_wc, ct_0, ct_37, ct_ne, crt_w0, crt_w37]
          refine x_iald 50 rfl dX6_times_49 (lyl35 hL) (lys35 hL) (by omega) (by omega) ?_
          try simp (disch := omega) only [z_up_ne, z_up_nk, z_up_eq, z_mup_ne, z_mup_eq, Int.reduceToNat, Int.toNat_natCast, cr_4, cr_5, cr_6, cr_7, cr_o, cr_u, cr_uo, cr_c, cr_ne, cr_w4, cr_w5, cr_w6, cr_w7, cr_wu, cr_wc, ct_0, ct_37, ct_ne, crt_w0, crt_w37]
          refine x_cVu 53 rfl lX6_121 dX6_times_50 (lyl36 hL) (lys36 hL) (c_X9_setT hL hm (by decide)) rfl rfl (Nat.le_of_ble_eq_true rfl) (fun M5 hM5 => ?_)
          rw [hM5]
          refine x_aload_n 54 rfl dX6_times_53 0 rfl rfl ?_
          refine x_dupr 55 rfl dX6_times_54 ?_
          refine x_geti 58 rfl fX6_47 dX6_times_55 (lyl32 hL) (lys32 hL) (by decide) ?_
          try simp (disch := omega) only [z_up_ne, z_up_nk, z_up_eq, z_mup_ne, z_mup_eq, Int.reduceToNat, Int.toNat_natCast, cr_4, cr_5, cr_6, cr_7, cr_o, cr_u, cr_uo, cr_c, cr_ne, cr_w4, cr_w5, cr_w6, cr_w7, cr_wu, cr_wc, ct_0, ct_37, ct_ne, crt_w0, crt_w37]
          refine x_iconst 59 rfl dX6_times_58 (by decide) ?_
          refine y_iadd 60 rfl dX6_times_59 (by omega) ?_
          refine x_puti 63 rfl fX6_47 dX6_times_60 (lyl32 hL) (lys32 hL) (by decide) ?_
          try simp only [cr_4, cr_5, cr_6, cr_7, cr_o, cr_u, cr_uo, cr_c, cr_ne, cr_w4, cr_w5, cr_w6, cr_w7, cr_wu, cr_wc, ct_0, ct_37, ct_ne, crt_w0, crt_w37]
          rw [cr_ad s]
          refine x_goto 70 dX6_times_63 (by decide) ?_
          refine x_retu dX6_times_70 rfl ?_
          first | (left; refine ⟨by omega, ?_⟩; rw [show v s.1 = M 35 s.1 by omega]; (first | done | rfl)) | (right; exact ⟨by omega, rfl⟩)
  · rw [hM1]
    refine x_if_eq 9 66 rfl dX6_times_6 (by decide) (fun c6 => ?_) (fun c6 => ?_)
    · refine x_aload_n 67 rfl dX6_times_66 0 rfl rfl ?_
      refine x_cVu 70 rfl lX6_60 dX6_times_67 (lyl32 hL) (lys32 hL) (c_X6_fail1 hL hT (CKr_ct hC) hA1) rfl rfl (Nat.le_of_ble_eq_true rfl) (fun M4 hM4 => ?_)
      rw [hM4, ct_ne (by decide) (by decide)]
      refine x_retu dX6_times_70 rfl ?_
      first | (left; refine ⟨by omega, ?_⟩; rw [show v s.1 = M 35 s.1 by omega]; (first | done | rfl)) | (right; exact ⟨by omega, rfl⟩)
    · exfalso; omega

theorem kp13 : KP 13 1 := ⟨by decide, by decide, by decide +kernel⟩
theorem kp14 : KP 14 2 := ⟨by decide, by decide, by decide +kernel⟩
theorem kp15 : KP 15 3 := ⟨by decide, by decide, by decide +kernel⟩
theorem kp16 : KP 16 21 := ⟨by decide, by decide, by decide +kernel⟩
theorem kp17 : KP 17 23 := ⟨by decide, by decide, by decide +kernel⟩
theorem kp18 : KP 18 24 := ⟨by decide, by decide, by decide +kernel⟩
theorem kp19 : KP 19 26 := ⟨by decide, by decide, by decide +kernel⟩
set_option maxRecDepth 100000 in
set_option maxHeartbeats 4000000 in
theorem c_X6_clause {d sz : Nat} {S : zSh} {M : zMem} (hL : LY S sz) {n : Nat} {c v : Nat → Int} (hT : TK c v n) (hC : CKr M c v n) {o : Bool} (hO : M 32 8 = (if o = true then 0 else 1)) {m : Nat} {hd : Nat → Int} {s : gS} (hA : gA n s) (hm : m < 12) {R : gRC} (hq : g_cl o c v s = R) : zX (d + 33) 0 0 mX6_clause [zn 32] sz S (cr (ct M (m : Int) hd) (s.1 : Int) (-1) (s.2.1 : Int) 0 (s.2.2.1 : Int) s.2.2.2) (zU sz S (fun M' => croC M m hd R M')) := by
  have hn := hT.1
  have hA1 := hA.1
  have hG := gG_sumD (o := o) hT 8
  have h3 := hC.1
  have hGt := gG_testD (o := o) hT 8
  have main : ∀ K : Int, M 33 s.1 = K → (if o = true then 16 ≤ K ∧ K ≤ 19 else 13 ≤ K ∧ K ≤ 15) → ∀ j2 j3 : Int, zW mX6_clause (d + 33) 0 0 [] (zU sz S (fun M' => croC M m hd R M')) 71 [some (zn 32), some (zi K), some (zi j2), some (zi j3)] [] sz S (cr (ct M (m : Int) hd) (s.1 : Int) (-1) (s.2.1 : Int) 0 (s.2.2.1 : Int) s.2.2.2) := by
    intro K hK hKr
    have hcs : c s.1 ≠ 0 := by
      intro h0
      rcases (hC.2 s.1 hA1).1 with h | ⟨h1, h2⟩
      · rw [h0, hK] at h; have h9 : K = 30 := h; split at hKr <;> omega
      · split at hKr <;> omega
    have hkap := kst_nz hT hC hA1 hcs
    rw [hK] at hkap
    have hA2 := gW_A hA (gW_ad hA (hT.lt hA1 hcs))
    have bad164 : ∀ (j2 j3 : Int) (hd9 : Nat → Int) (t fl pa u : Int) (cd : Nat → Int), fl ≠ -1 → (0 ≤ u ∧ u ≤ 400) → (∀ hd8 u8 cd8, (0 ≤ u8 ∧ u8 ≤ 400) → croC M m hd R (cr (ct M ((m + 1 : Nat) : Int) hd8) t fl pa 0 u8 cd8)) → zW mX6_clause (d + 33) 0 0 [] (zU sz S (fun M' => croC M m hd R M')) 164 [some (zn 32), some (zi K), some (zi j2), some (zi j3)] [] sz S (cr (ct M ((m + 1 : Nat) : Int) hd9) t fl pa 0 u cd) := by
      intro j2 j3 hd9 t fl pa u cd hf hu hQ
      refine x_aload_n 165 rfl dX6_clause_164 0 rfl rfl ?_
      refine x_bipush 167 rfl dX6_clause_165 (by decide) ?_
      refine x_cVi 170 rfl lX6_66 dX6_clause_167 (lyl32 hL) (lys32 hL) (c_X6_stands0 hL hf) rfl rfl (Nat.le_of_ble_eq_true rfl) (fun r M1 hr1 => ?_)
      obtain ⟨rfl, hM1⟩ := hr1
      rw [hM1]
      refine x_if_eq 173 211 rfl dX6_clause_170 (by decide) (fun c170 => ?_) (fun c170 => ?_)
      · refine x_retu dX6_clause_211 rfl ?_
        exact hQ _ _ _ hu
      · exfalso; omega
    have bad134 : ∀ (j2 j3 : Int) (hd9 : Nat → Int) (t fl pa u : Int) (cd : Nat → Int), fl ≠ -1 → (0 ≤ u ∧ u ≤ 400) → (∀ hd8 u8 cd8, (0 ≤ u8 ∧ u8 ≤ 400) → croC M m hd R (cr (ct M ((m + 1 : Nat) : Int) hd8) t fl pa 0 u8 cd8)) → zW mX6_clause (d + 33) 0 0 [] (zU sz S (fun M' => croC M m hd R M')) 134 [some (zn 32), some (zi K), some (zi j2), some (zi j3)] [] sz S (cr (ct M ((m + 1 : Nat) : Int) hd9) t fl pa 0 u cd) := by
      intro j2 j3 hd9 t fl pa u cd hf hu hQ
      refine x_aload_n 135 rfl dX6_clause_134 0 rfl rfl ?_
      refine x_getz 138 rfl fX6_43 dX6_clause_135 (lyl32 hL) (lys32 hL) (by decide) ?_
      try simp (disch := omega) only [z_up_ne, z_up_nk, z_up_eq, z_mup_ne, z_mup_eq, Int.reduceToNat, Int.toNat_natCast, cr_4, cr_5, cr_6, cr_7, cr_o, cr_u, cr_uo, cr_c, cr_ne, cr_w4, cr_w5, cr_w6, cr_w7, cr_wu, cr_wc, ct_0, ct_37, ct_ne, crt_w0, crt_w37]
      refine x_if_ne 141 164 rfl dX6_clause_138 (by decide) (fun c138 => ?_) (fun c138 => ?_)
      · exact bad164 _ _ _ _ _ _ _ _ hf hu hQ
      · refine x_aload_n 142 rfl dX6_clause_141 0 rfl rfl ?_
        refine x_bipush 144 rfl dX6_clause_142 (by decide) ?_
        refine x_cVi 147 rfl lX6_66 dX6_clause_144 (lyl32 hL) (lys32 hL) (c_X6_stands0 hL hf) rfl rfl (Nat.le_of_ble_eq_true rfl) (fun r M1 hr1 => ?_)
        obtain ⟨rfl, hM1⟩ := hr1
        rw [hM1]
        refine x_if_eq 150 164 rfl dX6_clause_147 (by decide) (fun c147 => ?_) (fun c147 => ?_)
        · exact bad164 _ _ _ _ _ _ _ _ hf hu hQ
        · exfalso; omega
    have tail : ∀ (j2 j3 : Int) (s3 : gS) (k f s2 x : Int) (w1 w2 : gV), gA n s3 → g_tail c v o s3 (fun q wt => ((k, f, s2, q, x), w1, w2, wt)) = R → zW mX6_clause (d + 33) 0 0 [] (zU sz S (fun M' => croC M m hd R M')) 164 [some (zn 32), some (zi K), some (zi j2), some (zi j3)] [] sz S (cr (ct M ((m + 1 : Nat) : Int) (hdw hd m (k, f, s2, -1, x))) (s3.1 : Int) (-1) (s3.2.1 : Int) 0 (s3.2.2.1 : Int) s3.2.2.2) := by
      intro j2 j3 s3 k f s2 x w1 w2 hB h5
      have hB0 := hB.1
      refine x_aload_n 165 rfl dX6_clause_164 0 rfl rfl ?_
      refine x_bipush 167 rfl dX6_clause_165 (by decide) ?_
      refine x_cVi 170 rfl lX6_66 dX6_clause_167 (lyl32 hL) (lys32 hL) (c_X6_stands1 hL hT (CKr_ct hC) hB.1 kp23) rfl rfl (Nat.le_of_ble_eq_true rfl) (fun r M1 hr1 => ?_)
      rcases hr1 with ⟨hx, rfl, hM1⟩ | ⟨hx, rfl, hM1⟩
      · rw [hM1]
        unfold g_tail at h5
        rw [if_pos hx] at h5
        have hc1 : c s3.1 ≠ 0 := by omega
        have hB2 := gW_A hB (gW_ad hB (hT.lt hB.1 hc1))
        refine x_if_eq 173 211 rfl dX6_clause_170 (by decide) (fun c170 => ?_) (fun c170 => ?_)
        · exfalso; omega
        · refine x_aload_n 174 rfl dX6_clause_173 0 rfl rfl ?_
          refine x_dupr 175 rfl dX6_clause_174 ?_
          refine x_geti 178 rfl fX6_47 dX6_clause_175 (lyl32 hL) (lys32 hL) (by decide) ?_
          try simp (disch := omega) only [z_up_ne, z_up_nk, z_up_eq, z_mup_ne, z_mup_eq, Int.reduceToNat, Int.toNat_natCast, cr_4, cr_5, cr_6, cr_7, cr_o, cr_u, cr_uo, cr_c, cr_ne, cr_w4, cr_w5, cr_w6, cr_w7, cr_wu, cr_wc, ct_0, ct_37, ct_ne, crt_w0, crt_w37]
          refine x_iconst 179 rfl dX6_clause_178 (by decide) ?_
          refine y_iadd 180 rfl dX6_clause_179 (by omega) ?_
          refine x_puti 183 rfl fX6_47 dX6_clause_180 (lyl32 hL) (lys32 hL) (by decide) ?_
          try simp only [cr_4, cr_5, cr_6, cr_7, cr_o, cr_u, cr_uo, cr_c, cr_ne, cr_w4, cr_w5, cr_w6, cr_w7, cr_wu, cr_wc, ct_0, ct_37, ct_ne, crt_w0, crt_w37]
          rw [cr_ad s3]
          refine x_aload_n 184 rfl dX6_clause_183 0 rfl rfl ?_
          refine x_getr 187 rfl fX6_26 dX6_clause_184 (lyl32 hL) (lys32 hL) (by decide) (36) rfl ?_
          refine x_iconst 188 rfl dX6_clause_187 (by decide) ?_
          refine x_aload_n 189 rfl dX6_clause_188 0 rfl rfl ?_
          refine x_getr 192 rfl fX6_26 dX6_clause_189 (lyl32 hL) (lys32 hL) (by decide) (36) rfl ?_
          refine x_geti 195 rfl fX6_118 dX6_clause_192 (lyl36 hL) (lys36 hL) (by decide) ?_
          try simp (disch := omega) only [z_up_ne, z_up_nk, z_up_eq, z_mup_ne, z_mup_eq, Int.reduceToNat, Int.toNat_natCast, cr_4, cr_5, cr_6, cr_7, cr_o, cr_u, cr_uo, cr_c, cr_ne, cr_w4, cr_w5, cr_w6, cr_w7, cr_wu, cr_wc, ct_0, ct_37, ct_ne, crt_w0, crt_w37]
          refine x_cVu 198 rfl lX6_121 dX6_clause_195 (lyl36 hL) (lys36 hL) (c_X9_setT hL hm (by decide)) rfl rfl (Nat.le_of_ble_eq_true rfl) (fun M5 hM5 => ?_)
          rw [hM5, hdw_3 (show 5 * m + Int.toNat 3 = 5 * m + 3 from rfl)]
          refine x_aload_n 199 rfl dX6_clause_198 0 rfl rfl ?_
          refine x_cVu 202 rfl lX6_124 dX6_clause_199 (lyl32 hL) (lys32 hL) (c_X6_test8 hL hT hC hO hB2) rfl rfl (Nat.le_of_ble_eq_true rfl) (fun M2 hr2 => ?_)
          rcases hq2 : g_testD c v o 8 (g_ad s3) with t2 | ⟨s4, w4⟩
          · rw [hq2] at hr2 h5
            obtain ⟨x1, y1, u1, cd1, hu1, hM2⟩ := hr2
            rw [hM2]
            refine x_aload_n 203 rfl dX6_clause_202 0 rfl rfl ?_
            refine x_getr 206 rfl fX6_26 dX6_clause_203 (lyl32 hL) (lys32 hL) (by decide) (36) rfl ?_
            refine x_iconst 207 rfl dX6_clause_206 (by decide) ?_
            refine x_iconst 208 rfl dX6_clause_207 (by decide) ?_
            refine x_cVu 211 rfl lX6_127 dX6_clause_208 (lyl36 hL) (lys36 hL) (c_X9_em0 hL hu1 (by decide) (by decide)) rfl rfl (Nat.le_of_ble_eq_true rfl) (fun M4 hr4 => ?_)
            obtain ⟨u4, cd4, hu4, hM4⟩ := hr4
            rw [hM4]
            refine x_retu dX6_clause_211 rfl ?_
            rw [← h5]
            exact ⟨m + 1, _, _, _, _, _, hm, hu4, by rw [ct_ne (by decide) (by decide)]⟩
          · rw [hq2, g_bc_inr] at h5
            rw [hq2] at hr2
            have hM2 : M2 = (cr (ct M ((m + 1 : Nat) : Int) (hdw hd m (k, f, s2, ((g_ad s3).2.2.1 : Int), x))) (s4.1 : Int) (-1) (s4.2.1 : Int) 0 (s4.2.2.1 : Int) s4.2.2.2) := hr2
            rw [hM2]
            have h9 := gW_A hB (gW_step hT hGt hB hc1 hq2 (x := 0) (by decide))
            have h8 : s4.2.2.1 + 1 ≤ s4.1 := h9.2.2
            have h7 : s4.1 ≤ n := h9.1
            refine x_aload_n 203 rfl dX6_clause_202 0 rfl rfl ?_
            refine x_getr 206 rfl fX6_26 dX6_clause_203 (lyl32 hL) (lys32 hL) (by decide) (36) rfl ?_
            refine x_iconst 207 rfl dX6_clause_206 (by decide) ?_
            refine x_iconst 208 rfl dX6_clause_207 (by decide) ?_
            refine x_cVu 211 rfl lX6_127 dX6_clause_208 (lyl36 hL) (lys36 hL) (c_X9_em1 hL (s := s4) (by omega) (by decide) (by decide)) rfl rfl (Nat.le_of_ble_eq_true rfl) (fun M4 hM4 => ?_)
            rw [hM4, show (0 : Int) + 16 * 0 = 0 by decide]
            refine x_retu dX6_clause_211 rfl ?_
            rw [← h5]
            rfl
      · rw [hM1]
        unfold g_tail at h5
        rw [if_neg hx] at h5
        refine x_if_eq 173 211 rfl dX6_clause_170 (by decide) (fun c170 => ?_) (fun c170 => ?_)
        · refine x_retu dX6_clause_211 rfl ?_
          rw [← h5]
          rfl
        · exfalso; omega
    have rest : ∀ (j2 j3 : Int) (s3 : gS) (k f s2 : Int) (w1 w2 : gV), gA n s3 → (if o = true then g_rest c v s3 (fun tm q wt => ((k, f, s2, q, tm), w1, w2, wt)) else g_tail c v o s3 (fun q wt => ((k, f, s2, q, 1), w1, w2, wt))) = R → zW mX6_clause (d + 33) 0 0 [] (zU sz S (fun M' => croC M m hd R M')) 134 [some (zn 32), some (zi K), some (zi j2), some (zi j3)] [] sz S (cr (ct M ((m + 1 : Nat) : Int) (hdw hd m (k, f, s2, -1, 1))) (s3.1 : Int) (-1) (s3.2.1 : Int) 0 (s3.2.2.1 : Int) s3.2.2.2) := by
      intro j2 j3 s3 k f s2 w1 w2 hB h5
      have hB0 := hB.1
      refine x_aload_n 135 rfl dX6_clause_134 0 rfl rfl ?_
      refine x_getz 138 rfl fX6_43 dX6_clause_135 (lyl32 hL) (lys32 hL) (by decide) ?_
      try simp (disch := omega) only [z_up_ne, z_up_nk, z_up_eq, z_mup_ne, z_mup_eq, Int.reduceToNat, Int.toNat_natCast, cr_4, cr_5, cr_6, cr_7, cr_o, cr_u, cr_uo, cr_c, cr_ne, cr_w4, cr_w5, cr_w6, cr_w7, cr_wu, cr_wc, ct_0, ct_37, ct_ne, crt_w0, crt_w37]
      refine x_if_ne 141 164 rfl dX6_clause_138 (by decide) (fun c138 => ?_) (fun c138 => ?_)
      · have ho : ¬ o = true := by intro h; rw [if_pos h] at hO; omega
        rw [if_neg ho] at h5
        exact tail j2 j3 s3 k f s2 1 w1 w2 hB h5
      · have ho : o = true := by cases o with | true => rfl | false => (simp at hO; omega)
        rw [if_pos ho] at h5
        refine x_aload_n 142 rfl dX6_clause_141 0 rfl rfl ?_
        refine x_bipush 144 rfl dX6_clause_142 (by decide) ?_
        refine x_cVi 147 rfl lX6_66 dX6_clause_144 (lyl32 hL) (lys32 hL) (c_X6_stands1 hL hT (CKr_ct hC) hB.1 kp22) rfl rfl (Nat.le_of_ble_eq_true rfl) (fun r M1 hr1 => ?_)
        rcases hr1 with ⟨hx, rfl, hM1⟩ | ⟨hx, rfl, hM1⟩
        · rw [hM1]
          unfold g_rest at h5
          rw [if_pos hx] at h5
          have hlt := hT.lt hB.1 (show c s3.1 ≠ 0 by omega)
          have hB2 := gW_A hB (gW_ad hB hlt)
          refine x_if_eq 150 164 rfl dX6_clause_147 (by decide) (fun c147 => ?_) (fun c147 => ?_)
          · exfalso; omega
          · refine x_aload_n 151 rfl dX6_clause_150 0 rfl rfl ?_
            refine x_dupr 152 rfl dX6_clause_151 ?_
            refine x_geti 155 rfl fX6_47 dX6_clause_152 (lyl32 hL) (lys32 hL) (by decide) ?_
            try simp (disch := omega) only [z_up_ne, z_up_nk, z_up_eq, z_mup_ne, z_mup_eq, Int.reduceToNat, Int.toNat_natCast, cr_4, cr_5, cr_6, cr_7, cr_o, cr_u, cr_uo, cr_c, cr_ne, cr_w4, cr_w5, cr_w6, cr_w7, cr_wu, cr_wc, ct_0, ct_37, ct_ne, crt_w0, crt_w37]
            refine x_iconst 156 rfl dX6_clause_155 (by decide) ?_
            refine y_iadd 157 rfl dX6_clause_156 (by omega) ?_
            refine x_puti 160 rfl fX6_47 dX6_clause_157 (lyl32 hL) (lys32 hL) (by decide) ?_
            try simp only [cr_4, cr_5, cr_6, cr_7, cr_o, cr_u, cr_uo, cr_c, cr_ne, cr_w4, cr_w5, cr_w6, cr_w7, cr_wu, cr_wc, ct_0, ct_37, ct_ne, crt_w0, crt_w37]
            rw [cr_ad s3]
            refine x_aload_n 161 rfl dX6_clause_160 0 rfl rfl ?_
            refine x_cVu 164 rfl lX6_115 dX6_clause_161 (lyl32 hL) (lys32 hL) (c_X6_times1 hL hT hC hB2 hm) rfl rfl (Nat.le_of_ble_eq_true rfl) (fun M3 hr3 => ?_)
            rcases hr3 with ⟨hy, hM3⟩ | ⟨hy, hM3⟩
            · rw [hM3, hdw_4 rfl]
              have hy : c (s3.1 + 1) = 50 ∧ 1 ≤ v (s3.1 + 1) ∧ v (s3.1 + 1) ≤ 20 := hy
              rw [if_pos hy, ← ho] at h5
              exact tail j2 j3 (g_ad (g_ad s3)) k f s2 (v (s3.1 + 1)) w1 w2 (gW_A hB2 (gW_ad hB2 (hT.lt hB2.1 (show c (s3.1 + 1) ≠ 0 by omega)))) h5
            · rw [hM3]
              have hy : ¬ (c (s3.1 + 1) = 50 ∧ 1 ≤ v (s3.1 + 1) ∧ v (s3.1 + 1) ≤ 20) := hy
              rw [if_neg hy] at h5
              have hf : M 34 (s3.1 + 1) ≠ -1 := by have := (hC.2 (s3.1 + 1) (hlt)).2.2; omega
              have hu0 : (g_ad s3).2.2.1 ≤ 400 := by have := hB2.2.2; have := hB2.1; omega
              exact bad164 _ _ _ _ _ _ _ _ hf (by omega) (fun hd8 u8 cd8 hu8 => by rw [← h5]; exact ⟨m + 1, hd8, _, _, u8, cd8, hm, hu8, rfl⟩)
        · rw [hM1]
          unfold g_rest at h5
          rw [if_neg hx, ← ho] at h5
          refine x_if_eq 150 164 rfl dX6_clause_147 (by decide) (fun c147 => ?_) (fun c147 => ?_)
          · exact tail j2 j3 s3 k f s2 1 w1 w2 hB h5
          · exfalso; omega
    have mid0 : ∀ (j2 j3 : Int) (hd9 : Nat → Int) (t fl pa u : Int) (cd : Nat → Int), fl ≠ -1 → (0 ≤ u ∧ u ≤ 400) → (∀ hd8 u8 cd8, (0 ≤ u8 ∧ u8 ≤ 400) → croC M m hd R (cr (ct M ((m + 1 : Nat) : Int) hd8) t fl pa 0 u8 cd8)) → zW mX6_clause (d + 33) 0 0 [] (zU sz S (fun M' => croC M m hd R M')) 100 [some (zn 32), some (zi K), some (zi j2), some (zi j3)] [] sz S (cr (ct M ((m + 1 : Nat) : Int) hd9) t fl pa 0 u cd) := by
      intro j2 j3 hd9 t fl pa u cd hf hu hQ
      refine x_iload_n 101 rfl dX6_clause_100 1 rfl rfl ?_
      refine x_bipush 103 rfl dX6_clause_101 (by decide) ?_
      refine x_icmp_eq 106 112 rfl dX6_clause_103 (by decide) (fun c103 => ?_) (fun c103 => ?_)
      · refine x_aload_n 113 rfl dX6_clause_112 0 rfl rfl ?_
        refine x_iload_n 114 rfl dX6_clause_113 1 rfl rfl ?_
        refine x_bipush 116 rfl dX6_clause_114 (by decide) ?_
        refine x_icmp_ne 119 124 rfl dX6_clause_116 (by decide) (fun c116 => ?_) (fun c116 => ?_)
        · refine x_bipush 126 rfl dX6_clause_124 (by decide) ?_
          refine x_cVu 129 rfl lX6_112 dX6_clause_126 (lyl32 hL) (lys32 hL) (c_X6_take0 hL hf) rfl rfl (Nat.le_of_ble_eq_true rfl) (fun M1 hM1 => ?_)
          rw [hM1]
          refine x_aload_n 130 rfl dX6_clause_129 0 rfl rfl ?_
          refine x_iconst 131 rfl dX6_clause_130 (by decide) ?_
          refine x_cVu 134 rfl lX6_109 dX6_clause_131 (lyl32 hL) (lys32 hL) (c_X6_sumOf0 hL hf hu (by decide) hm) rfl rfl (Nat.le_of_ble_eq_true rfl) (fun M4 hr4 => ?_)
          obtain ⟨hd4, u4, cd4, hu4, hM4⟩ := hr4
          rw [hM4]
          first | exact bad134 _ _ _ _ _ _ _ _ hf hu4 hQ | exact bad134 _ _ _ _ _ _ _ _ hf hu hQ
        · refine x_bipush 121 rfl dX6_clause_119 (by decide) ?_
          refine x_goto 126 dX6_clause_121 (by decide) ?_
          refine x_cVu 129 rfl lX6_112 dX6_clause_126 (lyl32 hL) (lys32 hL) (c_X6_take0 hL hf) rfl rfl (Nat.le_of_ble_eq_true rfl) (fun M1 hM1 => ?_)
          rw [hM1]
          refine x_aload_n 130 rfl dX6_clause_129 0 rfl rfl ?_
          refine x_iconst 131 rfl dX6_clause_130 (by decide) ?_
          refine x_cVu 134 rfl lX6_109 dX6_clause_131 (lyl32 hL) (lys32 hL) (c_X6_sumOf0 hL hf hu (by decide) hm) rfl rfl (Nat.le_of_ble_eq_true rfl) (fun M4 hr4 => ?_)
          obtain ⟨hd4, u4, cd4, hu4, hM4⟩ := hr4
          rw [hM4]
          first | exact bad134 _ _ _ _ _ _ _ _ hf hu4 hQ | exact bad134 _ _ _ _ _ _ _ _ hf hu hQ
      · refine x_iload_n 107 rfl dX6_clause_106 1 rfl rfl ?_
        refine x_bipush 109 rfl dX6_clause_107 (by decide) ?_
        refine x_icmp_ne 112 134 rfl dX6_clause_109 (by decide) (fun c109 => ?_) (fun c109 => ?_)
        · first | exact bad134 _ _ _ _ _ _ _ _ hf hu4 hQ | exact bad134 _ _ _ _ _ _ _ _ hf hu hQ
        · refine x_aload_n 113 rfl dX6_clause_112 0 rfl rfl ?_
          refine x_iload_n 114 rfl dX6_clause_113 1 rfl rfl ?_
          refine x_bipush 116 rfl dX6_clause_114 (by decide) ?_
          refine x_icmp_ne 119 124 rfl dX6_clause_116 (by decide) (fun c116 => ?_) (fun c116 => ?_)
          · refine x_bipush 126 rfl dX6_clause_124 (by decide) ?_
            refine x_cVu 129 rfl lX6_112 dX6_clause_126 (lyl32 hL) (lys32 hL) (c_X6_take0 hL hf) rfl rfl (Nat.le_of_ble_eq_true rfl) (fun M1 hM1 => ?_)
            rw [hM1]
            refine x_aload_n 130 rfl dX6_clause_129 0 rfl rfl ?_
            refine x_iconst 131 rfl dX6_clause_130 (by decide) ?_
            refine x_cVu 134 rfl lX6_109 dX6_clause_131 (lyl32 hL) (lys32 hL) (c_X6_sumOf0 hL hf hu (by decide) hm) rfl rfl (Nat.le_of_ble_eq_true rfl) (fun M4 hr4 => ?_)
            obtain ⟨hd4, u4, cd4, hu4, hM4⟩ := hr4
            rw [hM4]
            first | exact bad134 _ _ _ _ _ _ _ _ hf hu4 hQ | exact bad134 _ _ _ _ _ _ _ _ hf hu hQ
          · refine x_bipush 121 rfl dX6_clause_119 (by decide) ?_
            refine x_goto 126 dX6_clause_121 (by decide) ?_
            refine x_cVu 129 rfl lX6_112 dX6_clause_126 (lyl32 hL) (lys32 hL) (c_X6_take0 hL hf) rfl rfl (Nat.le_of_ble_eq_true rfl) (fun M1 hM1 => ?_)
            rw [hM1]
            refine x_aload_n 130 rfl dX6_clause_129 0 rfl rfl ?_
            refine x_iconst 131 rfl dX6_clause_130 (by decide) ?_
            refine x_cVu 134 rfl lX6_109 dX6_clause_131 (lyl32 hL) (lys32 hL) (c_X6_sumOf0 hL hf hu (by decide) hm) rfl rfl (Nat.le_of_ble_eq_true rfl) (fun M4 hr4 => ?_)
            obtain ⟨hd4, u4, cd4, hu4, hM4⟩ := hr4
            rw [hM4]
            first | exact bad134 _ _ _ _ _ _ _ _ hf hu4 hQ | exact bad134 _ _ _ _ _ _ _ _ hf hu hQ
    intro j2 j3
    refine x_aload_n 72 rfl dX6_clause_71 0 rfl rfl ?_
    refine x_getr 75 rfl fX6_26 dX6_clause_72 (lyl32 hL) (lys32 hL) (by decide) (36) rfl ?_
    refine x_iload_n 76 rfl dX6_clause_75 1 rfl rfl ?_
    refine x_cVu 79 rfl lX6_105 dX6_clause_76 (lyl36 hL) (lys36 hL) (c_X9_openT hL hm) rfl rfl (Nat.le_of_ble_eq_true rfl) (fun M5 hM5 => ?_)
    rw [hM5]
    refine x_aload_n 80 rfl dX6_clause_79 0 rfl rfl ?_
    refine x_dupr 81 rfl dX6_clause_80 ?_
    refine x_geti 84 rfl fX6_47 dX6_clause_81 (lyl32 hL) (lys32 hL) (by decide) ?_
    try simp (disch := omega) only [z_up_ne, z_up_nk, z_up_eq, z_mup_ne, z_mup_eq, Int.reduceToNat, Int.toNat_natCast, cr_4, cr_5, cr_6, cr_7, cr_o, cr_u, cr_uo, cr_c, cr_ne, cr_w4, cr_w5, cr_w6, cr_w7, cr_wu, cr_wc, ct_0, ct_37, ct_ne, crt_w0, crt_w37]
    refine x_iconst 85 rfl dX6_clause_84 (by decide) ?_
    refine y_iadd 86 rfl dX6_clause_85 (by omega) ?_
    refine x_puti 89 rfl fX6_47 dX6_clause_86 (lyl32 hL) (lys32 hL) (by decide) ?_
    try simp only [cr_4, cr_5, cr_6, cr_7, cr_o, cr_u, cr_uo, cr_c, cr_ne, cr_w4, cr_w5, cr_w6, cr_w7, cr_wu, cr_wc, ct_0, ct_37, ct_ne, crt_w0, crt_w37]
    rw [cr_ad s]
    refine x_iload_n 90 rfl dX6_clause_89 1 rfl rfl ?_
    refine x_bipush 92 rfl dX6_clause_90 (by decide) ?_
    refine x_icmp_eq 95 100 rfl dX6_clause_92 (by decide) (fun c92 => ?_) (fun c92 => ?_)
    · have hc3 : c s.1 = 3 := (kst hT hC hA1 kp15).mp (by omega)
      have ho : ¬ o = true := by intro h; rw [if_pos h] at hKr; omega
      unfold g_cl g_law at hq
      rw [if_neg ho, if_neg (by omega), if_pos hc3] at hq
      have ho2 : o = false := by cases o with | true => exact absurd rfl ho | false => rfl
      refine x_iload_n 101 rfl dX6_clause_100 1 rfl rfl ?_
      refine x_bipush 103 rfl dX6_clause_101 (by decide) ?_
      refine x_icmp_eq 106 112 rfl dX6_clause_103 (by decide) (fun c103 => ?_) (fun c103 => ?_)
      · exfalso; omega
      · refine x_iload_n 107 rfl dX6_clause_106 1 rfl rfl ?_
        refine x_bipush 109 rfl dX6_clause_107 (by decide) ?_
        refine x_icmp_ne 112 134 rfl dX6_clause_109 (by decide) (fun c109 => ?_) (fun c109 => ?_)
        · refine z_mem (M' := (cr (ct M ((m + 1 : Nat) : Int) (hdw hd m (15, -1, -1, -1, 1))) ((g_ad s).1 : Int) (-1) ((g_ad s).2.1 : Int) 0 ((g_ad s).2.2.1 : Int) (g_ad s).2.2.2)) (by rw [c92]) ?_
          refine rest j2 j3 (g_ad s) 15 (-1) (-1) (v_k 1) (v_k 0) hA2 ?_
          rw [if_neg ho, ho2]
          exact hq
        · exfalso; omega
    · refine x_aload_n 96 rfl dX6_clause_95 0 rfl rfl ?_
      refine x_iconst 97 rfl dX6_clause_96 (by decide) ?_
      refine x_cVu 100 rfl lX6_109 dX6_clause_97 (lyl32 hL) (lys32 hL) (c_X6_sumOf1 hL hT hC hO hA2 (by decide) hm (fun s1 w h => by have h9 := gW_A hA (gW_step hT hG hA hcs h (x := 0) (by decide)); have h8 : s1.2.2.1 + 1 ≤ s1.1 := h9.2.2; have h7 : s1.1 ≤ n := h9.1; omega)) rfl rfl (Nat.le_of_ble_eq_true rfl) (fun M2 hr2 => ?_)
      rcases hr2 with ⟨t2, x1, y1, u1, cd1, hq2, hu1, hM2⟩ | ⟨s2, w2, hq2, hM2⟩
      · rw [hM2]
        have hR : R = .inl t2 := by
          rw [← hq]
          unfold g_cl
          by_cases ho : o = true
          · rw [if_pos ho]; subst ho; unfold g_ord
            by_cases h7 : c s.1 = 21 ∨ c s.1 = 24
            · rw [if_pos h7, hq2]; rfl
            · rw [if_neg h7, if_pos (by rw [if_pos rfl] at hKr; have q1 := kst hT hC hA1 kp16; have q2 := kst hT hC hA1 kp17; have q3 := kst hT hC hA1 kp18; have q4 := kst hT hC hA1 kp19; omega), hq2]; rfl
          · have ho2 : o = false := by cases o with | true => exact absurd rfl ho | false => rfl
            subst ho2; rw [if_neg ho]; unfold g_law
            rw [if_pos (by rw [if_neg ho] at hKr; have q1 := kst hT hC hA1 kp13; have q2 := kst hT hC hA1 kp14; omega), hq2]; rfl
        have hf : M 34 t2 ≠ -1 := by have := (hC.2 t2 ((hG _ hA2).1 t2 hq2)).2.2; omega
        exact mid0 _ _ _ _ _ _ _ _ hf hu1 (fun hd8 u8 cd8 hu8 => by rw [hR]; exact ⟨m + 1, hd8, _, _, u8, cd8, hm, hu8, rfl⟩)
      · rw [hM2, hdw_1 (show 5 * m + Int.toNat 1 = 5 * m + 1 from rfl)]
        rw [show ((g_ad s).2.2.1 : Int) = (s.2.2.1 : Int) from rfl]
        have hA3 := gW_A hA (gW_step hT hG hA hcs hq2 (x := 0) (by decide))
        refine x_iload_n 101 rfl dX6_clause_100 1 rfl rfl ?_
        refine x_bipush 103 rfl dX6_clause_101 (by decide) ?_
        refine x_icmp_eq 106 112 rfl dX6_clause_103 (by decide) (fun c103 => ?_) (fun c103 => ?_)
        · have ho : o = true := by cases o with | true => rfl | false => (simp at hKr; omega)
          have ho9 := ho
          subst ho9
          have hcv : c s.1 = 21 := (kst hT hC hA1 kp16).mp (by omega)
          unfold g_cl g_ord at hq
          rw [if_pos ho, if_pos (by omega), hq2, g_bc_inr] at hq
          rw [show (if c s.1 = 21 then (22 : Int) else 25) = 22 by split <;> omega] at hq
          refine x_aload_n 113 rfl dX6_clause_112 0 rfl rfl ?_
          refine x_iload_n 114 rfl dX6_clause_113 1 rfl rfl ?_
          refine x_bipush 116 rfl dX6_clause_114 (by decide) ?_
          refine x_icmp_ne 119 124 rfl dX6_clause_116 (by decide) (fun c116 => ?_) (fun c116 => ?_)
          · exfalso; omega
          · refine x_bipush 121 rfl dX6_clause_119 (by decide) ?_
            refine x_goto 126 dX6_clause_121 (by decide) ?_
            refine x_cVu 129 rfl lX6_112 dX6_clause_126 (lyl32 hL) (lys32 hL) (c_X6_take1 hL hT (CKr_ct hC) hA3.1 kp20) rfl rfl (Nat.le_of_ble_eq_true rfl) (fun M3 hr3 => ?_)
            rcases hr3 with ⟨hy, hM3⟩ | ⟨hy, hM3⟩
            · rw [hM3]
              have hy : c s2.1 = 22 := hy
              rw [if_pos hy] at hq
              have hcs2 : c (g_em s2 0).1 ≠ 0 := by show c s2.1 ≠ 0; omega
              have hA4 := gW_A hA3 (gW_ad hA3 (hT.lt hA3.1 hcs2))
              refine x_aload_n 130 rfl dX6_clause_129 0 rfl rfl ?_
              refine x_iconst 131 rfl dX6_clause_130 (by decide) ?_
              refine x_cVu 134 rfl lX6_109 dX6_clause_131 (lyl32 hL) (lys32 hL) (c_X6_sumOf1 hL hT hC hO hA4 (by decide) hm (fun s1 w h => by have h9 := gW_A hA3 (gW_step hT hG hA3 hcs2 h (x := 0) (by decide)); have h8 : s1.2.2.1 + 1 ≤ s1.1 := h9.2.2; have h7 : s1.1 ≤ n := h9.1; omega)) rfl rfl (Nat.le_of_ble_eq_true rfl) (fun M5 hr5 => ?_)
              rcases hr5 with ⟨t2, x1, y1, u1, cd1, hq5, hu1, hM2⟩ | ⟨s5, w5, hq5, hM2⟩
              · rw [hM2]
                rw [hq5] at hq
                have hf : M 34 t2 ≠ -1 := by have := (hC.2 t2 ((hG _ hA4).1 t2 hq5)).2.2; omega
                exact bad134 _ _ _ _ _ _ _ _ hf hu1 (fun hd8 u8 cd8 hu8 => by rw [← hq]; exact ⟨m + 1, hd8, _, _, u8, cd8, hm, hu8, rfl⟩)
              · rw [hM2, hdw_2 (show 5 * m + Int.toNat 2 = 5 * m + 2 from rfl)]
                rw [show ((g_ad (g_em s2 0)).2.2.1 : Int) = (s2.2.2.1 : Int) + 1 by simp [g_ad, g_em]]
                rw [hq5, g_bc_inr] at hq
                refine rest j2 j3 (g_em s5 0) K (s.2.2.1 : Int) ((s2.2.2.1 : Int) + 1) w2 w5 (gW_A hA3 (gW_step hT hG hA3 hcs2 hq5 (x := 0) (by decide))) ?_
                rw [if_pos ho, ← hq, hkap]
            · rw [hM3, ct_ne (by decide) (by decide)]
              have hy : ¬ c s2.1 = 22 := hy
              rw [if_neg hy] at hq
              have hf : M 34 s2.1 ≠ -1 := by have := (hC.2 s2.1 (hA3.1)).2.2; omega
              have hu0 : (g_em s2 0).2.2.1 ≤ 400 := by have := hA3.2.2; have := hA3.1; omega
              refine x_aload_n 130 rfl dX6_clause_129 0 rfl rfl ?_
              refine x_iconst 131 rfl dX6_clause_130 (by decide) ?_
              refine x_cVu 134 rfl lX6_109 dX6_clause_131 (lyl32 hL) (lys32 hL) (c_X6_sumOf0 hL hf (by omega) (by decide) hm) rfl rfl (Nat.le_of_ble_eq_true rfl) (fun M4 hr4 => ?_)
              obtain ⟨hd4, u4, cd4, hu4, hM4⟩ := hr4
              rw [hM4]
              exact bad134 _ _ _ _ _ _ _ _ hf hu4 (fun hd8 u8 cd8 hu8 => by rw [← hq]; exact ⟨m + 1, hd8, _, _, u8, cd8, hm, hu8, rfl⟩)
        · refine x_iload_n 107 rfl dX6_clause_106 1 rfl rfl ?_
          refine x_bipush 109 rfl dX6_clause_107 (by decide) ?_
          refine x_icmp_ne 112 134 rfl dX6_clause_109 (by decide) (fun c109 => ?_) (fun c109 => ?_)
          · refine rest j2 j3 (g_em s2 0) K (s.2.2.1 : Int) (-1) w2 (v_k 0) hA3 ?_
            rw [← hq, hkap]
            unfold g_cl
            by_cases ho : o = true
            · rw [if_pos ho, if_pos ho]; subst ho; unfold g_ord
              rw [if_neg (by intro h7; have q1 := kst hT hC hA1 kp16; have q3 := kst hT hC hA1 kp18; omega), if_pos (by rw [if_pos rfl] at hKr; have q1 := kst hT hC hA1 kp16; have q2 := kst hT hC hA1 kp17; have q3 := kst hT hC hA1 kp18; have q4 := kst hT hC hA1 kp19; omega), hq2]
              rfl
            · have ho2 : o = false := by cases o with | true => exact absurd rfl ho | false => rfl
              subst ho2; rw [if_neg ho, if_neg ho]; unfold g_law
              rw [if_pos (by rw [if_neg ho] at hKr; have q1 := kst hT hC hA1 kp13; have q2 := kst hT hC hA1 kp14; omega), hq2]
              rfl
          · have ho : o = true := by cases o with | true => rfl | false => (simp at hKr; omega)
            have ho9 := ho
            subst ho9
            have hcv : c s.1 = 24 := (kst hT hC hA1 kp18).mp (by omega)
            unfold g_cl g_ord at hq
            rw [if_pos ho, if_pos (by omega), hq2, g_bc_inr] at hq
            rw [show (if c s.1 = 21 then (22 : Int) else 25) = 25 by split <;> omega] at hq
            refine x_aload_n 113 rfl dX6_clause_112 0 rfl rfl ?_
            refine x_iload_n 114 rfl dX6_clause_113 1 rfl rfl ?_
            refine x_bipush 116 rfl dX6_clause_114 (by decide) ?_
            refine x_icmp_ne 119 124 rfl dX6_clause_116 (by decide) (fun c116 => ?_) (fun c116 => ?_)
            · refine x_bipush 126 rfl dX6_clause_124 (by decide) ?_
              refine x_cVu 129 rfl lX6_112 dX6_clause_126 (lyl32 hL) (lys32 hL) (c_X6_take1 hL hT (CKr_ct hC) hA3.1 kp21) rfl rfl (Nat.le_of_ble_eq_true rfl) (fun M3 hr3 => ?_)
              rcases hr3 with ⟨hy, hM3⟩ | ⟨hy, hM3⟩
              · rw [hM3]
                have hy : c s2.1 = 25 := hy
                rw [if_pos hy] at hq
                have hcs2 : c (g_em s2 0).1 ≠ 0 := by show c s2.1 ≠ 0; omega
                have hA4 := gW_A hA3 (gW_ad hA3 (hT.lt hA3.1 hcs2))
                refine x_aload_n 130 rfl dX6_clause_129 0 rfl rfl ?_
                refine x_iconst 131 rfl dX6_clause_130 (by decide) ?_
                refine x_cVu 134 rfl lX6_109 dX6_clause_131 (lyl32 hL) (lys32 hL) (c_X6_sumOf1 hL hT hC hO hA4 (by decide) hm (fun s1 w h => by have h9 := gW_A hA3 (gW_step hT hG hA3 hcs2 h (x := 0) (by decide)); have h8 : s1.2.2.1 + 1 ≤ s1.1 := h9.2.2; have h7 : s1.1 ≤ n := h9.1; omega)) rfl rfl (Nat.le_of_ble_eq_true rfl) (fun M5 hr5 => ?_)
                rcases hr5 with ⟨t2, x1, y1, u1, cd1, hq5, hu1, hM2⟩ | ⟨s5, w5, hq5, hM2⟩
                · rw [hM2]
                  rw [hq5] at hq
                  have hf : M 34 t2 ≠ -1 := by have := (hC.2 t2 ((hG _ hA4).1 t2 hq5)).2.2; omega
                  exact bad134 _ _ _ _ _ _ _ _ hf hu1 (fun hd8 u8 cd8 hu8 => by rw [← hq]; exact ⟨m + 1, hd8, _, _, u8, cd8, hm, hu8, rfl⟩)
                · rw [hM2, hdw_2 (show 5 * m + Int.toNat 2 = 5 * m + 2 from rfl)]
                  rw [show ((g_ad (g_em s2 0)).2.2.1 : Int) = (s2.2.2.1 : Int) + 1 by simp [g_ad, g_em]]
                  rw [hq5, g_bc_inr] at hq
                  refine rest j2 j3 (g_em s5 0) K (s.2.2.1 : Int) ((s2.2.2.1 : Int) + 1) w2 w5 (gW_A hA3 (gW_step hT hG hA3 hcs2 hq5 (x := 0) (by decide))) ?_
                  rw [if_pos ho, ← hq, hkap]
              · rw [hM3, ct_ne (by decide) (by decide)]
                have hy : ¬ c s2.1 = 25 := hy
                rw [if_neg hy] at hq
                have hf : M 34 s2.1 ≠ -1 := by have := (hC.2 s2.1 (hA3.1)).2.2; omega
                have hu0 : (g_em s2 0).2.2.1 ≤ 400 := by have := hA3.2.2; have := hA3.1; omega
                refine x_aload_n 130 rfl dX6_clause_129 0 rfl rfl ?_
                refine x_iconst 131 rfl dX6_clause_130 (by decide) ?_
                refine x_cVu 134 rfl lX6_109 dX6_clause_131 (lyl32 hL) (lys32 hL) (c_X6_sumOf0 hL hf (by omega) (by decide) hm) rfl rfl (Nat.le_of_ble_eq_true rfl) (fun M4 hr4 => ?_)
                obtain ⟨hd4, u4, cd4, hu4, hM4⟩ := hr4
                rw [hM4]
                exact bad134 _ _ _ _ _ _ _ _ hf hu4 (fun hd8 u8 cd8 hu8 => by rw [← hq]; exact ⟨m + 1, hd8, _, _, u8, cd8, hm, hu8, rfl⟩)
            · exfalso; omega
  refine zX_of pl_RX6 [some (zn 32), none, none, none] 3 rfl rfl ?_
  refine x_aload_n 1 rfl dX6_clause_0 0 rfl rfl ?_
  refine x_geti 4 rfl fX6_47 dX6_clause_1 (lyl32 hL) (lys32 hL) (by decide) ?_
  try simp (disch := omega) only [z_up_ne, z_up_nk, z_up_eq, z_mup_ne, z_mup_eq, Int.reduceToNat, Int.toNat_natCast, cr_4, cr_5, cr_6, cr_7, cr_o, cr_u, cr_uo, cr_c, cr_ne, cr_w4, cr_w5, cr_w6, cr_w7, cr_wu, cr_wc, ct_0, ct_37, ct_ne, crt_w0, crt_w37]
  refine x_aload_n 5 rfl dX6_clause_4 0 rfl rfl ?_
  refine x_geti 8 rfl fX6_70 dX6_clause_5 (lyl32 hL) (lys32 hL) (by decide) ?_
  try simp (disch := omega) only [z_up_ne, z_up_nk, z_up_eq, z_mup_ne, z_mup_eq, Int.reduceToNat, Int.toNat_natCast, cr_4, cr_5, cr_6, cr_7, cr_o, cr_u, cr_uo, cr_c, cr_ne, cr_w4, cr_w5, cr_w6, cr_w7, cr_wu, cr_wc, ct_0, ct_37, ct_ne, crt_w0, crt_w37]
  refine x_icmp_ge 11 23 rfl dX6_clause_8 (by decide) (fun c8 => ?_) (fun c8 => ?_)
  · exfalso; omega
  · refine x_aload_n 12 rfl dX6_clause_11 0 rfl rfl ?_
    refine x_getr 15 rfl fX6_9 dX6_clause_12 (lyl32 hL) (lys32 hL) (by decide) (33) rfl ?_
    refine x_aload_n 16 rfl dX6_clause_15 0 rfl rfl ?_
    refine x_geti 19 rfl fX6_47 dX6_clause_16 (lyl32 hL) (lys32 hL) (by decide) ?_
    try simp (disch := omega) only [z_up_ne, z_up_nk, z_up_eq, z_mup_ne, z_mup_eq, Int.reduceToNat, Int.toNat_natCast, cr_4, cr_5, cr_6, cr_7, cr_o, cr_u, cr_uo, cr_c, cr_ne, cr_w4, cr_w5, cr_w6, cr_w7, cr_wu, cr_wc, ct_0, ct_37, ct_ne, crt_w0, crt_w37]
    refine x_iald 20 rfl dX6_clause_19 (lyl33 hL) (lys33 hL) (by omega) (by omega) ?_
    try simp (disch := omega) only [z_up_ne, z_up_nk, z_up_eq, z_mup_ne, z_mup_eq, Int.reduceToNat, Int.toNat_natCast, cr_4, cr_5, cr_6, cr_7, cr_o, cr_u, cr_uo, cr_c, cr_ne, cr_w4, cr_w5, cr_w6, cr_w7, cr_wu, cr_wc, ct_0, ct_37, ct_ne, crt_w0, crt_w37]
    refine x_goto 25 dX6_clause_20 (by decide) ?_
    refine y_istore_n 26 rfl dX6_clause_25 rfl rfl (ls' := [_, _, _, _]) rfl (by decide) ?_
    refine x_aload_n 27 rfl dX6_clause_26 0 rfl rfl ?_
    refine x_getz 30 rfl fX6_43 dX6_clause_27 (lyl32 hL) (lys32 hL) (by decide) ?_
    try simp (disch := omega) only [z_up_ne, z_up_nk, z_up_eq, z_mup_ne, z_mup_eq, Int.reduceToNat, Int.toNat_natCast, cr_4, cr_5, cr_6, cr_7, cr_o, cr_u, cr_uo, cr_c, cr_ne, cr_w4, cr_w5, cr_w6, cr_w7, cr_wu, cr_wc, ct_0, ct_37, ct_ne, crt_w0, crt_w37]
    refine x_if_eq 33 38 rfl dX6_clause_30 (by decide) (fun c30 => ?_) (fun c30 => ?_)
    · have ho : o = true := by cases o with | true => rfl | false => (simp at hO; omega)
      refine x_bipush 40 rfl dX6_clause_38 (by decide) ?_
      refine y_istore_n 41 rfl dX6_clause_40 rfl rfl (ls' := [_, _, _, _]) rfl (by decide) ?_
      refine x_aload_n 42 rfl dX6_clause_41 0 rfl rfl ?_
      refine x_getz 45 rfl fX6_43 dX6_clause_42 (lyl32 hL) (lys32 hL) (by decide) ?_
      try simp (disch := omega) only [z_up_ne, z_up_nk, z_up_eq, z_mup_ne, z_mup_eq, Int.reduceToNat, Int.toNat_natCast, cr_4, cr_5, cr_6, cr_7, cr_o, cr_u, cr_uo, cr_c, cr_ne, cr_w4, cr_w5, cr_w6, cr_w7, cr_wu, cr_wc, ct_0, ct_37, ct_ne, crt_w0, crt_w37]
      refine x_if_eq 48 53 rfl dX6_clause_45 (by decide) (fun c45 => ?_) (fun c45 => ?_)
      · refine x_bipush 55 rfl dX6_clause_53 (by decide) ?_
        refine y_istore_n 56 rfl dX6_clause_55 rfl rfl (ls' := [_, _, _, _]) rfl (by decide) ?_
        refine x_iload_n 57 rfl dX6_clause_56 1 rfl rfl ?_
        refine x_iload_n 58 rfl dX6_clause_57 2 rfl rfl ?_
        refine x_icmp_lt 61 66 rfl dX6_clause_58 (by decide) (fun c58 => ?_) (fun c58 => ?_)
        · refine x_aload_n 67 rfl dX6_clause_66 0 rfl rfl ?_
          refine x_cVu 70 rfl lX6_60 dX6_clause_67 (lyl32 hL) (lys32 hL) (c_X6_fail1 hL hT (CKr_ct hC) hA1) rfl rfl (Nat.le_of_ble_eq_true rfl) (fun M4 hM4 => ?_)
          rw [hM4, ct_ne (by decide) (by decide)]
          refine x_retu dX6_clause_70 rfl ?_
          rw [← hq]
          unfold g_cl
          rw [if_pos ho]
          unfold g_ord
          rw [if_neg (by intro h7; have q1 := kst hT hC hA1 kp16; have q2 := kst hT hC hA1 kp17; have q3 := kst hT hC hA1 kp18; have q4 := kst hT hC hA1 kp19; omega), if_neg (by intro h7; have q1 := kst hT hC hA1 kp16; have q2 := kst hT hC hA1 kp17; have q3 := kst hT hC hA1 kp18; have q4 := kst hT hC hA1 kp19; omega)]
          exact ⟨m, hd, _, _, _, _, by omega, (by have := hA.2.2; omega), rfl⟩
        · refine x_iload_n 62 rfl dX6_clause_61 1 rfl rfl ?_
          refine x_iload_n 63 rfl dX6_clause_62 3 rfl rfl ?_
          refine x_icmp_le 66 71 rfl dX6_clause_63 (by decide) (fun c63 => ?_) (fun c63 => ?_)
          · exact main _ rfl (by rw [if_pos ho]; omega) _ _
          · refine x_aload_n 67 rfl dX6_clause_66 0 rfl rfl ?_
            refine x_cVu 70 rfl lX6_60 dX6_clause_67 (lyl32 hL) (lys32 hL) (c_X6_fail1 hL hT (CKr_ct hC) hA1) rfl rfl (Nat.le_of_ble_eq_true rfl) (fun M4 hM4 => ?_)
            rw [hM4, ct_ne (by decide) (by decide)]
            refine x_retu dX6_clause_70 rfl ?_
            rw [← hq]
            unfold g_cl
            rw [if_pos ho]
            unfold g_ord
            rw [if_neg (by intro h7; have q1 := kst hT hC hA1 kp16; have q2 := kst hT hC hA1 kp17; have q3 := kst hT hC hA1 kp18; have q4 := kst hT hC hA1 kp19; omega), if_neg (by intro h7; have q1 := kst hT hC hA1 kp16; have q2 := kst hT hC hA1 kp17; have q3 := kst hT hC hA1 kp18; have q4 := kst hT hC hA1 kp19; omega)]
            exact ⟨m, hd, _, _, _, _, by omega, (by have := hA.2.2; omega), rfl⟩
      · exfalso; omega
    · have ho : ¬ o = true := by intro h; rw [if_pos h] at hO; omega
      refine x_bipush 35 rfl dX6_clause_33 (by decide) ?_
      refine x_goto 40 dX6_clause_35 (by decide) ?_
      refine y_istore_n 41 rfl dX6_clause_40 rfl rfl (ls' := [_, _, _, _]) rfl (by decide) ?_
      refine x_aload_n 42 rfl dX6_clause_41 0 rfl rfl ?_
      refine x_getz 45 rfl fX6_43 dX6_clause_42 (lyl32 hL) (lys32 hL) (by decide) ?_
      try simp (disch := omega) only [z_up_ne, z_up_nk, z_up_eq, z_mup_ne, z_mup_eq, Int.reduceToNat, Int.toNat_natCast, cr_4, cr_5, cr_6, cr_7, cr_o, cr_u, cr_uo, cr_c, cr_ne, cr_w4, cr_w5, cr_w6, cr_w7, cr_wu, cr_wc, ct_0, ct_37, ct_ne, crt_w0, crt_w37]
      refine x_if_eq 48 53 rfl dX6_clause_45 (by decide) (fun c45 => ?_) (fun c45 => ?_)
      · exfalso; omega
      · refine x_bipush 50 rfl dX6_clause_48 (by decide) ?_
        refine x_goto 55 dX6_clause_50 (by decide) ?_
        refine y_istore_n 56 rfl dX6_clause_55 rfl rfl (ls' := [_, _, _, _]) rfl (by decide) ?_
        refine x_iload_n 57 rfl dX6_clause_56 1 rfl rfl ?_
        refine x_iload_n 58 rfl dX6_clause_57 2 rfl rfl ?_
        refine x_icmp_lt 61 66 rfl dX6_clause_58 (by decide) (fun c58 => ?_) (fun c58 => ?_)
        · refine x_aload_n 67 rfl dX6_clause_66 0 rfl rfl ?_
          refine x_cVu 70 rfl lX6_60 dX6_clause_67 (lyl32 hL) (lys32 hL) (c_X6_fail1 hL hT (CKr_ct hC) hA1) rfl rfl (Nat.le_of_ble_eq_true rfl) (fun M4 hM4 => ?_)
          rw [hM4, ct_ne (by decide) (by decide)]
          refine x_retu dX6_clause_70 rfl ?_
          rw [← hq]
          unfold g_cl
          rw [if_neg ho]
          unfold g_law
          rw [if_neg (by intro h7; have q1 := kst hT hC hA1 kp13; have q2 := kst hT hC hA1 kp14; have q3 := kst hT hC hA1 kp15; omega), if_neg (by intro h7; have q1 := kst hT hC hA1 kp13; have q2 := kst hT hC hA1 kp14; have q3 := kst hT hC hA1 kp15; omega)]
          exact ⟨m, hd, _, _, _, _, by omega, (by have := hA.2.2; omega), rfl⟩
        · refine x_iload_n 62 rfl dX6_clause_61 1 rfl rfl ?_
          refine x_iload_n 63 rfl dX6_clause_62 3 rfl rfl ?_
          refine x_icmp_le 66 71 rfl dX6_clause_63 (by decide) (fun c63 => ?_) (fun c63 => ?_)
          · exact main _ rfl (by rw [if_neg ho]; omega) _ _
          · refine x_aload_n 67 rfl dX6_clause_66 0 rfl rfl ?_
            refine x_cVu 70 rfl lX6_60 dX6_clause_67 (lyl32 hL) (lys32 hL) (c_X6_fail1 hL hT (CKr_ct hC) hA1) rfl rfl (Nat.le_of_ble_eq_true rfl) (fun M4 hM4 => ?_)
            rw [hM4, ct_ne (by decide) (by decide)]
            refine x_retu dX6_clause_70 rfl ?_
            rw [← hq]
            unfold g_cl
            rw [if_neg ho]
            unfold g_law
            rw [if_neg (by intro h7; have q1 := kst hT hC hA1 kp13; have q2 := kst hT hC hA1 kp14; have q3 := kst hT hC hA1 kp15; omega), if_neg (by intro h7; have q1 := kst hT hC hA1 kp13; have q2 := kst hT hC hA1 kp14; have q3 := kst hT hC hA1 kp15; omega)]
            exact ⟨m, hd, _, _, _, _, by omega, (by have := hA.2.2; omega), rfl⟩
