/-! law, on the reference's side -/
def roM (M : zMem) (o : Bool) : zMem := z_up (z_up (z_up M 55 10 (if o = true then 1 else 0)) 55 8 (if o = true then 14 else 8)) 55 9 (if o = true then 20 else 17)
theorem roM_ne {M : zMem} {o : Bool} {i : Nat} (h : i ≠ 55) : roM M o i = M i := by unfold roM; rw [z_up_ne h, z_up_ne h, z_up_ne h]
theorem roM_o {M : zMem} {o : Bool} {j : Nat} (h : j ≠ 8) (h1 : j ≠ 9) (h2 : j ≠ 10) : roM M o 55 j = M 55 j := by unfold roM; rw [z_up_nk h1, z_up_nk h, z_up_nk h2]
theorem roM_rdO {M : zMem} {o : Bool} : rdO (roM M o) o := by
  refine ⟨?_, ?_, ?_⟩ <;> simp [roM, z_up]
/-- the memory behind a text's reading -/
def lwN (M : zMem) (o : Bool) (n : Int) (cf vf pf : Nat → Int) (a x y : Int) : zMem := rd (z_up (z_up (sp (roM M o) n cf vf pf) 55 13 0) 55 14 a) x y a
theorem lwN_ne {M : zMem} {o : Bool} {n a x y : Int} {cf vf pf : Nat → Int} {i : Nat} (h : i ≠ 55) (h1 : i ≠ 64) (h2 : i ≠ 65) (h3 : i ≠ 66) : lwN M o n cf vf pf a x y i = M i := by
  unfold lwN rd sp
  rw [z_up_ne h, z_up_ne h, z_up_ne h, z_up_ne h, z_up_ne h, z_up_ne h, z_mup_ne h3, z_mup_ne h2, z_mup_ne h1, roM_ne h]
theorem lwN_64 {M : zMem} {o : Bool} {n a x y : Int} {cf vf pf : Nat → Int} : lwN M o n cf vf pf a x y 64 = cf := by
  unfold lwN rd sp
  rw [z_up_ne (by decide), z_up_ne (by decide), z_up_ne (by decide), z_up_ne (by decide), z_up_ne (by decide), z_up_ne (by decide), z_mup_ne (by decide), z_mup_ne (by decide), z_mup_eq]
theorem lwN_65 {M : zMem} {o : Bool} {n a x y : Int} {cf vf pf : Nat → Int} : lwN M o n cf vf pf a x y 65 = vf := by
  unfold lwN rd sp
  rw [z_up_ne (by decide), z_up_ne (by decide), z_up_ne (by decide), z_up_ne (by decide), z_up_ne (by decide), z_up_ne (by decide), z_mup_ne (by decide), z_mup_eq]
theorem lwN_o {M : zMem} {o : Bool} {n a x y : Int} {cf vf pf : Nat → Int} {j : Nat} (h : j ≠ 8 ∧ j ≠ 9 ∧ j ≠ 10 ∧ j ≠ 13 ∧ j ≠ 14 ∧ j ≠ 18 ∧ j ≠ 19 ∧ j ≠ 20 ∧ j ≠ 21) : lwN M o n cf vf pf a x y 55 j = M 55 j := by
  unfold lwN rd sp
  rw [z_up_nk (by omega), z_up_nk (by omega), z_up_nk (by omega), z_up_nk (by omega), z_up_nk (by omega), z_up_nk (by omega), z_mup_ne (by decide), z_mup_ne (by decide), z_mup_ne (by decide), roM_o (by omega) (by omega) (by omega)]
theorem lwN_18 {M : zMem} {o : Bool} {n a x y : Int} {cf vf pf : Nat → Int} : lwN M o n cf vf pf a x y 55 18 = n := by
  unfold lwN rd sp
  rw [z_up_nk (by decide), z_up_nk (by decide), z_up_nk (by decide), z_up_nk (by decide), z_up_nk (by decide), z_up_eq]
theorem lwN_13 {M : zMem} {o : Bool} {n a x y : Int} {cf vf pf : Nat → Int} : lwN M o n cf vf pf a x y 55 13 = 0 := by
  unfold lwN rd sp
  rw [z_up_nk (by decide), z_up_nk (by decide), z_up_nk (by decide), z_up_nk (by decide), z_up_eq]
theorem lwN_14 {M : zMem} {o : Bool} {n a x y : Int} {cf vf pf : Nat → Int} : lwN M o n cf vf pf a x y 55 14 = a := by
  unfold lwN rd sp
  rw [z_up_nk (by decide), z_up_nk (by decide), z_up_nk (by decide), z_up_eq]
/-- what a reading leaves, by its outcome -/
def rdQ (M : zMem) (o : Bool) (n : Int) (cf vf pf : Nat → Int) (R : Nat ⊕ (gS × List gC)) (r : Int) (M' : zMem) : Prop := (∃ t, R = .inl t ∧ r = 0 ∧ ∃ x y : Int, M' = lwN M o n cf vf pf (pf t) x y) ∨ ((∃ q, R = .inr q) ∧ r = 1 ∧ ∃ x y : Int, M' = lwN M o n cf vf pf (-1) x y)
theorem rdQ_of {M M' : zMem} {o : Bool} {n r : Int} {cf vf pf : Nat → Int} {R : Nat ⊕ (gS × List gC)} (h : rdoT (z_up (sp (roM M o) n cf vf pf) 55 13 0) R r M') : rdQ M o n cf vf pf R r M' := by
  have e : z_up (sp (roM M o) n cf vf pf) 55 13 0 66 = pf := by
    unfold sp
    rw [z_up_ne (by decide), z_up_ne (by decide), z_mup_eq]
  rcases R with t | q
  · obtain ⟨h1, x, y, h2⟩ := h
    rw [e] at h2
    exact Or.inl ⟨t, rfl, h1, x, y, h2⟩
  · obtain ⟨h1, x, y, h2⟩ := h
    exact Or.inr ⟨⟨q, rfl⟩, h1, x, y, h2⟩

set_option maxRecDepth 100000 in
set_option maxHeartbeats 4000000 in
theorem c_X11_readsAs_f {d sz : Nat} {S : zSh} {M : zMem} (hL : LY S sz) {size : Nat} (h13 : M 55 13 = (size : Int)) (hs : size ≤ 400) (hW : wdI M) (hB : tbI M) {T : tS} (hT : tkG (mC (tb M)) (mV (tb M)) (tb M) size 401 0 (0, M 64, M 65, M 66) = T) {cd0 : Nat → Int} {R : Nat ⊕ (gS × List gC)} (hq : g_text false (ku T.2.1 T.1 0) (ku T.2.2.1 T.1 0) T.1 12 (gz cd0) [] = R)  : zX (d + 36) 0 0 mX11_readsAs [zn 55, zi 0] sz S M (zI sz S (fun r M' => rdQ M false (T.1 : Int) (ku T.2.1 T.1 0) (ku T.2.2.1 T.1 0) (ku T.2.2.2 T.1 (size : Int)) R r M')) := by
  refine zX_of pl_RX11 [some (zn 55), some (zi 0)] 0 rfl rfl ?_
  refine x_aload_n 1 rfl dX11_readsAs_0 0 rfl rfl ?_
  refine x_iload_n 2 rfl dX11_readsAs_1 1 rfl rfl ?_
  refine x_putz 5 rfl fX11_195 dX11_readsAs_2 (lyl55 hL) (lys55 hL) (by decide) (by omega) ?_
  refine x_aload_n 6 rfl dX11_readsAs_5 0 rfl rfl ?_
  refine x_iload_n 7 rfl dX11_readsAs_6 1 rfl rfl ?_
  refine x_if_eq 10 15 rfl dX11_readsAs_7 (by decide) (fun c7 => ?_) (fun c7 => ?_)
  · refine x_bipush 17 rfl dX11_readsAs_15 (by decide) ?_
    refine x_puti 20 rfl fX11_221 dX11_readsAs_17 (lyl55 hL) (lys55 hL) (by decide) ?_
    refine x_aload_n 21 rfl dX11_readsAs_20 0 rfl rfl ?_
    refine x_iload_n 22 rfl dX11_readsAs_21 1 rfl rfl ?_
    refine x_if_eq 25 30 rfl dX11_readsAs_22 (by decide) (fun c22 => ?_) (fun c22 => ?_)
    · refine x_bipush 32 rfl dX11_readsAs_30 (by decide) ?_
      refine x_puti 35 rfl fX11_224 dX11_readsAs_32 (lyl55 hL) (lys55 hL) (by decide) ?_
      refine z_mem (M' := roM M false) rfl ?_
      refine x_aload_n 36 rfl dX11_readsAs_35 0 rfl rfl ?_
      refine x_cVi 39 rfl lX11_236 dX11_readsAs_36 (lyl55 hL) (lys55 hL) (c_X11_reads (o := false) (M := roM M false) hL (by rw [roM_o (by decide) (by decide) (by decide)]; exact h13) hs (fun i hi => by rw [roM_ne (by decide)]; exact hW i hi) (fun i hi => by rw [roM_ne (by decide)]; exact hB i hi) roM_rdO (T := T) (by rw [show tb (roM M false) = tb M by unfold tb; rw [roM_ne (by decide)], roM_ne (by decide), roM_ne (by decide), roM_ne (by decide)]; exact hT) hq) rfl rfl (Nat.le_of_ble_eq_true rfl) (fun r1 M1 hr1 => ?_)
      have hr2 := rdQ_of hr1
      refine x_retz dX11_readsAs_39 rfl (by rcases hr2 with ⟨t, -, h, -⟩ | ⟨-, h, -⟩ <;> omega) ?_
      exact hr2
    · exfalso; omega
  · exfalso; omega

set_option maxRecDepth 100000 in
set_option maxHeartbeats 4000000 in
theorem c_X11_readsAs_t {d sz : Nat} {S : zSh} {M : zMem} (hL : LY S sz) {size : Nat} (h13 : M 55 13 = (size : Int)) (hs : size ≤ 400) (hW : wdI M) (hB : tbI M) {T : tS} (hT : tkG (mC (tb M)) (mV (tb M)) (tb M) size 401 0 (0, M 64, M 65, M 66) = T) {cd0 : Nat → Int} {R : Nat ⊕ (gS × List gC)} (hq : g_text true (ku T.2.1 T.1 0) (ku T.2.2.1 T.1 0) T.1 12 (gz cd0) [] = R)  : zX (d + 36) 0 0 mX11_readsAs [zn 55, zi 1] sz S M (zI sz S (fun r M' => rdQ M true (T.1 : Int) (ku T.2.1 T.1 0) (ku T.2.2.1 T.1 0) (ku T.2.2.2 T.1 (size : Int)) R r M')) := by
  refine zX_of pl_RX11 [some (zn 55), some (zi 1)] 0 rfl rfl ?_
  refine x_aload_n 1 rfl dX11_readsAs_0 0 rfl rfl ?_
  refine x_iload_n 2 rfl dX11_readsAs_1 1 rfl rfl ?_
  refine x_putz 5 rfl fX11_195 dX11_readsAs_2 (lyl55 hL) (lys55 hL) (by decide) (by omega) ?_
  refine x_aload_n 6 rfl dX11_readsAs_5 0 rfl rfl ?_
  refine x_iload_n 7 rfl dX11_readsAs_6 1 rfl rfl ?_
  refine x_if_eq 10 15 rfl dX11_readsAs_7 (by decide) (fun c7 => ?_) (fun c7 => ?_)
  · exfalso; omega
  · refine x_bipush 12 rfl dX11_readsAs_10 (by decide) ?_
    refine x_goto 17 dX11_readsAs_12 (by decide) ?_
    refine x_puti 20 rfl fX11_221 dX11_readsAs_17 (lyl55 hL) (lys55 hL) (by decide) ?_
    refine x_aload_n 21 rfl dX11_readsAs_20 0 rfl rfl ?_
    refine x_iload_n 22 rfl dX11_readsAs_21 1 rfl rfl ?_
    refine x_if_eq 25 30 rfl dX11_readsAs_22 (by decide) (fun c22 => ?_) (fun c22 => ?_)
    · exfalso; omega
    · refine x_bipush 27 rfl dX11_readsAs_25 (by decide) ?_
      refine x_goto 32 dX11_readsAs_27 (by decide) ?_
      refine x_puti 35 rfl fX11_224 dX11_readsAs_32 (lyl55 hL) (lys55 hL) (by decide) ?_
      refine z_mem (M' := roM M true) rfl ?_
      refine x_aload_n 36 rfl dX11_readsAs_35 0 rfl rfl ?_
      refine x_cVi 39 rfl lX11_236 dX11_readsAs_36 (lyl55 hL) (lys55 hL) (c_X11_reads (o := true) (M := roM M true) hL (by rw [roM_o (by decide) (by decide) (by decide)]; exact h13) hs (fun i hi => by rw [roM_ne (by decide)]; exact hW i hi) (fun i hi => by rw [roM_ne (by decide)]; exact hB i hi) roM_rdO (T := T) (by rw [show tb (roM M true) = tb M by unfold tb; rw [roM_ne (by decide)], roM_ne (by decide), roM_ne (by decide), roM_ne (by decide)]; exact hT) hq) rfl rfl (Nat.le_of_ble_eq_true rfl) (fun r1 M1 hr1 => ?_)
      have hr2 := rdQ_of hr1
      refine x_retz dX11_readsAs_39 rfl (by rcases hr2 with ⟨t, -, h, -⟩ | ⟨-, h, -⟩ <;> omega) ?_
      exact hr2

def kLs (k : Nat → Int) (t : Nat) (c v : Nat → Int) (n : Int) (i : Nat) : Nat → Int := fun j => if j = 80 + t then n else if 87 + 400 * t ≤ j ∧ j < 87 + 400 * t + i then c (j - (87 + 400 * t)) else if 2887 + 400 * t ≤ j ∧ j < 2887 + 400 * t + i then v (j - (2887 + 400 * t)) else k j
theorem kLs_s {k c v : Nat → Int} {t i : Nat} {n : Int} (ht : t < 6) (hi : i < 400) : ku (ku (kLs k t c v n i) (87 + 400 * t + i) (c i)) (2887 + 400 * t + i) (v i) = kLs k t c v n (i + 1) := by
  funext j
  unfold kLs ku
  by_cases h1 : j = 2887 + 400 * t + i
  · rw [if_pos h1, if_neg (by omega), if_neg (by omega), if_pos (by omega), show j - (2887 + 400 * t) = i by omega]
  · rw [if_neg h1]
    by_cases h2 : j = 87 + 400 * t + i
    · rw [if_pos h2, if_neg (by omega), if_pos (by omega), show j - (87 + 400 * t) = i by omega]
    · rw [if_neg h2]
      show (if j = 80 + t then n else if 87 + 400 * t ≤ j ∧ j < 87 + 400 * t + i then c (j - (87 + 400 * t)) else if 2887 + 400 * t ≤ j ∧ j < 2887 + 400 * t + i then v (j - (2887 + 400 * t)) else k j) = _
      by_cases h3 : j = 80 + t
      · rw [if_pos h3, if_pos h3]
      · rw [if_neg h3, if_neg h3]
        by_cases h4 : 87 + 400 * t ≤ j ∧ j < 87 + 400 * t + i
        · rw [if_pos h4, if_pos (by omega)]
        · rw [if_neg h4, if_neg (c := 87 + 400 * t ≤ j ∧ j < 87 + 400 * t + (i + 1)) (by omega)]
          by_cases h5 : 2887 + 400 * t ≤ j ∧ j < 2887 + 400 * t + i
          · rw [if_pos h5, if_pos (by omega)]
          · rw [if_neg h5, if_neg (by omega)]
theorem kLs_0 {k c v : Nat → Int} {t : Nat} {n : Int} : ku k (80 + t) n = kLs k t c v n 0 := by
  funext j
  unfold kLs ku
  by_cases h3 : j = 80 + t
  · rw [if_pos h3, if_pos h3]
  · rw [if_neg h3, if_neg h3, if_neg (by omega), if_neg (by omega)]

set_option maxRecDepth 100000 in
set_option maxHeartbeats 4000000 in
theorem c_X11_lays {d sz : Nat} {S : zSh} {M : zMem} (hL : LY S sz) {x : Int} (hx : 0 ≤ x ∧ x < 6) {n : Nat} (hn : M 55 18 = (n : Int)) (hn4 : n ≤ 400) : zX d 0 0 mX11_lays [zn 55, zi x] sz S M (zU sz S (fun M' => M' = z_mup M 57 (kLs (M 57) x.toNat (M 64) (M 65) (n : Int) n))) := by
  have loop : ∀ (q i : Nat), n < q + i → i ≤ n → zW mX11_lays d 0 0 [] (zU sz S (fun M' => M' = z_mup M 57 (kLs (M 57) x.toNat (M 64) (M 65) (n : Int) n))) 15 [some (zn 55), some (zi x), some (zi i)] [] sz S (z_mup M 57 (kLs (M 57) x.toNat (M 64) (M 65) (n : Int) i)) := by
    intro q
    induction q with
    | zero => intro i hq hi; omega
    | succ q ih =>
      intro i hq hi
      refine x_iload_n 16 rfl dX11_lays_15 2 rfl rfl ?_
      refine x_aload_n 17 rfl dX11_lays_16 0 rfl rfl ?_
      refine x_geti 20 rfl fX11_149 dX11_lays_17 (lyl55 hL) (lys55 hL) (by decide) ?_
      try simp (disch := omega) only [z_up_ne, z_up_nk, z_up_eq, z_mup_ne, z_mup_eq, Int.reduceToNat, Int.toNat_natCast]
      rw [hn]
      refine x_icmp_ge 23 72 rfl dX11_lays_20 (by decide) (fun c20 => ?_) (fun c20 => ?_)
      · refine x_retu dX11_lays_72 rfl ?_
        rw [show n = i by omega]
      · refine x_aload_n 24 rfl dX11_lays_23 0 rfl rfl ?_
        refine x_getr 27 rfl fX11_24 dX11_lays_24 (lyl55 hL) (lys55 hL) (by decide) (57) rfl ?_
        refine x_bipush 29 rfl dX11_lays_27 (by decide) ?_
        refine x_sipush 32 rfl dX11_lays_29 (by decide) ?_
        refine x_iload_n 33 rfl dX11_lays_32 1 rfl rfl ?_
        refine y_imul 34 rfl dX11_lays_33 (by omega) ?_
        refine y_iadd 35 rfl dX11_lays_34 (by omega) ?_
        refine x_iload_n 36 rfl dX11_lays_35 2 rfl rfl ?_
        refine y_iadd 37 rfl dX11_lays_36 (by omega) ?_
        refine x_aload_n 38 rfl dX11_lays_37 0 rfl rfl ?_
        refine x_getr 41 rfl fX11_50 dX11_lays_38 (lyl55 hL) (lys55 hL) (by decide) (64) rfl ?_
        refine x_iload_n 42 rfl dX11_lays_41 2 rfl rfl ?_
        refine x_iald 43 rfl dX11_lays_42 (lyl64 hL) (lys64 hL) (by omega) (by omega) ?_
        try simp (disch := omega) only [z_up_ne, z_up_nk, z_up_eq, z_mup_ne, z_mup_eq, Int.reduceToNat, Int.toNat_natCast]
        refine x_iast 44 rfl dX11_lays_43 (lyl57 hL) (lys57 hL) (by omega) (by omega) ?_
        refine x_aload_n 45 rfl dX11_lays_44 0 rfl rfl ?_
        refine x_getr 48 rfl fX11_24 dX11_lays_45 (lyl55 hL) (lys55 hL) (by decide) (57) rfl ?_
        refine x_sipush 51 rfl dX11_lays_48 (by decide) ?_
        refine x_sipush 54 rfl dX11_lays_51 (by decide) ?_
        refine x_iload_n 55 rfl dX11_lays_54 1 rfl rfl ?_
        refine y_imul 56 rfl dX11_lays_55 (by omega) ?_
        refine y_iadd 57 rfl dX11_lays_56 (by omega) ?_
        refine x_iload_n 58 rfl dX11_lays_57 2 rfl rfl ?_
        refine y_iadd 59 rfl dX11_lays_58 (by omega) ?_
        refine x_aload_n 60 rfl dX11_lays_59 0 rfl rfl ?_
        refine x_getr 63 rfl fX11_53 dX11_lays_60 (lyl55 hL) (lys55 hL) (by decide) (65) rfl ?_
        refine x_iload_n 64 rfl dX11_lays_63 2 rfl rfl ?_
        refine x_iald 65 rfl dX11_lays_64 (lyl65 hL) (lys65 hL) (by omega) (by omega) ?_
        try simp (disch := omega) only [z_up_ne, z_up_nk, z_up_eq, z_mup_ne, z_mup_eq, Int.reduceToNat, Int.toNat_natCast]
        refine x_iast 66 rfl dX11_lays_65 (lyl57 hL) (lys57 hL) (by omega) (by omega) ?_
        refine z_mem (M' := z_mup M 57 (kLs (M 57) x.toNat (M 64) (M 65) (n : Int) (i + 1))) ?_ ?_
        · rw [show ((87 : Int) + 400 * x + (i : Int)).toNat = 87 + 400 * x.toNat + i by omega, show ((2887 : Int) + 400 * x + (i : Int)).toNat = 2887 + 400 * x.toNat + i by omega, ← kLs_s (by omega) (by omega)]
          simp only [z_upm, z_mup2, z_mup_eq]
        refine w_iinc 69 rfl dX11_lays_66 rfl (by decide) (by omega) rfl (ls' := [_, _, _]) rfl (by decide) ?_
        refine x_goto 15 dX11_lays_69 (by decide) ?_
        exact ih (i + 1) (by omega) (by omega)
  refine zX_of pl_RX11 [some (zn 55), some (zi x), none] 1 rfl rfl ?_
  refine x_aload_n 1 rfl dX11_lays_0 0 rfl rfl ?_
  refine x_getr 4 rfl fX11_24 dX11_lays_1 (lyl55 hL) (lys55 hL) (by decide) (57) rfl ?_
  refine x_bipush 6 rfl dX11_lays_4 (by decide) ?_
  refine x_iload_n 7 rfl dX11_lays_6 1 rfl rfl ?_
  refine y_iadd 8 rfl dX11_lays_7 (by omega) ?_
  refine x_aload_n 9 rfl dX11_lays_8 0 rfl rfl ?_
  refine x_geti 12 rfl fX11_149 dX11_lays_9 (lyl55 hL) (lys55 hL) (by decide) ?_
  try simp (disch := omega) only [z_up_ne, z_up_nk, z_up_eq, z_mup_ne, z_mup_eq, Int.reduceToNat, Int.toNat_natCast]
  rw [hn]
  refine x_iast 13 rfl dX11_lays_12 (lyl57 hL) (lys57 hL) (by omega) (by omega) ?_
  refine z_mem (M' := z_mup M 57 (kLs (M 57) x.toNat (M 64) (M 65) (n : Int) 0)) ?_ ?_
  · rw [show ((80 : Int) + x).toNat = 80 + x.toNat by omega, ← kLs_0, z_upm]
  refine x_iconst 14 rfl dX11_lays_13 (by decide) ?_
  refine y_istore_n 15 rfl dX11_lays_14 rfl rfl (ls' := [_, _, _]) rfl (by decide) ?_
  exact loop (n + 1) 0 (by omega) (by omega)
