theorem ev_tl {M : zMem} {g e : Int} : z_up (z_up (z_up M 55 25 0) 55 22 g) 55 23 e = ev (z_up (z_up M 55 25 0) 55 23 e) g (M 55 24) := by
  funext i j
  by_cases h : i = 55
  · subst h; by_cases h1 : j = 22 <;> by_cases h2 : j = 23 <;> by_cases h3 : j = 24 <;> by_cases h4 : j = 25 <;> simp [ev, z_up, h1, h2, h3, h4] <;> omega
  · simp [ev, z_up, h]
theorem mE_eq {M M' : zMem} (h : M' 67 = M 67) : mE M' false = mE M false := by
  funext c k
  simp only [mE, h]
  rfl
def lwE (k : Nat → Int) (h lay sv g wh db crew : Int) : Int → Int → Int := fun c _ => if c = 8 then h else if c = 9 then lay else if c = 10 then sv else if c = 11 then g else if c = 12 then crew else if c = 13 then k 74 else if c = 14 then db else if c = 15 then wh else if c = 16 then k 0 else if c = 17 then k 2 else 0
def lwA (k : Nat → Int) (h lay sv g wh db crew : Int) (f : Nat → Int) : Prop := f 0 = h ∧ f 1 = lay ∧ f 2 = sv ∧ f 3 = g ∧ f 4 = crew ∧ f 5 = k 74 ∧ f 6 = db ∧ f 7 = wh ∧ f 8 = k 0 ∧ f 9 = k 2
theorem lwA_mE {M : zMem} {k : Nat → Int} {h lay sv g wh db crew : Int} (hA : lwA k h lay sv g wh db crew (M 67)) : mE M false = lwE k h lay sv g wh db crew := by
  obtain ⟨h0, h1, h2, h3, h4, h5, h6, h7, h8, h9⟩ := hA
  funext c x
  simp only [mE, lwE]
  rw [if_neg (by decide)]
  by_cases e : 8 ≤ c ∧ c ≤ 17
  · rw [if_pos e]
    have : c = 8 ∨ c = 9 ∨ c = 10 ∨ c = 11 ∨ c = 12 ∨ c = 13 ∨ c = 14 ∨ c = 15 ∨ c = 16 ∨ c = 17 := by omega
    rcases this with rfl | rfl | rfl | rfl | rfl | rfl | rfl | rfl | rfl | rfl
    · exact h0
    · exact h1
    · exact h2
    · exact h3
    · exact h4
    · exact h5
    · exact h6
    · exact h7
    · exact h8
    · exact h9
  · rw [if_neg e]
    repeat rw [if_neg (by omega)]
def zcasks (Lw : List gC) (k : Nat → Int) (g : Nat) (crew : Int) : Int := if k 79 = -1 then 20 else tellF 1 20 (lastF 13 (lwE k (-1) (-1) (-1) g (k (19 + g)) (-1) crew) Lw)
def hdE (k : Nat → Int) (h : Nat) (lay crew : Int) : Int → Int → Int := lwE k h lay (k 2 - k (31 + h)) (-1) (-1) (k (3 + h)) crew
def zeats (Lw : List gC) (k : Nat → Int) (h : Nat) : Int := if k 79 = -1 then 5 else tellF 0 5 (lastF 14 (hdE k h (k (23 + h)) (zcrew k)) Lw)
def zdes (Lw : List gC) (k : Nat → Int) (h : Nat) (lay crew : Int) : Prop := k 79 ≠ -1 ∧ tellF 0 0 (lastF 15 (hdE k h lay crew) Lw) = 1
/-- the law in force -/
def LwI (k : Nat → Int) (Lw : List gC) : Prop := 0 ≤ k 79 → LawK k (k 79).toNat Lw
def as67 (M : zMem) : Prop := ∀ i, i < 10 → -1000000 ≤ M 67 i ∧ M 67 i ≤ 1000000
theorem as67_mEb {M : zMem} (h : as67 M) : mEb M false := fun c k => by
  simp only [mE]
  rw [if_neg (by decide)]
  split
  · have := h (c - 8).toNat (by omega); omega
  · omega
theorem tellF_in {lo wo : Int} (hlo : 0 ≤ lo ∧ lo ≤ 99) (hwo : 0 ≤ wo ∧ wo ≤ 99) (a : Option Int) : 0 ≤ tellF lo wo a ∧ tellF lo wo a ≤ 99 := by
  unfold tellF clamp
  split
  · exact hwo
  · split <;> (try split) <;> omega
theorem zcasks_in {Lw : List gC} {k : Nat → Int} {g : Nat} {crew : Int} : 1 ≤ zcasks Lw k g crew ∧ zcasks Lw k g crew ≤ 99 := by
  unfold zcasks tellF clamp
  split
  · omega
  · split
    · omega
    · split <;> (try split) <;> omega
theorem zeats_in {Lw : List gC} {k : Nat → Int} {h : Nat} : 0 ≤ zeats Lw k h ∧ zeats Lw k h ≤ 99 := by
  unfold zeats
  split
  · omega
  · exact tellF_in (by omega) (by omega) _

theorem zW_post {mt : zMt} {d kc ks : Nat} {sc : List Int} {pc : Nat} {ls : zLs} {st : List zV} {sz : Nat} {S : zSh} {M : zMem} {sz0 : Nat} {S0 : zSh} {P1 P2 : Int → zMem → Prop} (h : ∀ r M', P1 r M' → P2 r M') (k : zW mt d kc ks sc (zI sz0 S0 P1) pc ls st sz S M) : zW mt d kc ks sc (zI sz0 S0 P2) pc ls st sz S M := by
  intro E D dA p l e R s m args below meth c QQ hE
  refine k E D dA p l e R s m args below meth c QQ ?_
  obtain ⟨a1, a2, a3, a4, a5, a6, a7, a8, a9, a10, a11, a12⟩ := hE
  refine ⟨a1, a2, a3, a4, a5, a6, a7, a8, a9, a10, a11, ?_⟩
  rintro v sz1 S1 M1 H locs cells slots pc1 lr ⟨r, e1, e2, e3, e4⟩
  exact a12 v sz1 S1 M1 H locs cells slots pc1 lr ⟨r, e1, e2, e3, h r M1 e4⟩
set_option maxRecDepth 100000 in
set_option maxHeartbeats 4000000 in
theorem c_X11_tells {d sz : Nat} {S : zSh} {M : zMem} (hL : LY S sz) (hi : KI (M 57)) {Lw : List gC} (hLw : LwI (M 57) Lw) (h67 : as67 M) {hdc lo wo : Int} (hhd : 1 ≤ hdc ∧ hdc ≤ 3) (hlo : 0 ≤ lo ∧ lo ≤ 99) (hwo : 0 ≤ wo ∧ wo ≤ 99) : zX (d + 42) 0 0 mX11_tells [zn 55, zi hdc, zi lo, zi wo] sz S M (zI sz S (fun r M' => r = (if M 57 79 = -1 then wo else tellF lo wo (lastF (12 + hdc) (mE M false) Lw)) ∧ mF M M' ∧ M' 67 = M 67)) := by
  have i1 := hi.1
  refine zX_of pl_RX11 [some (zn 55), some (zi hdc), some (zi lo), some (zi wo), none, none, none, none, none, none, none] 7 rfl rfl ?_
  refine x_aload_n 1 rfl dX11_tells_0 0 rfl rfl ?_
  refine x_getr 4 rfl fX11_24 dX11_tells_1 (lyl55 hL) (lys55 hL) (by decide) (57) rfl ?_
  refine x_bipush 6 rfl dX11_tells_4 (by decide) ?_
  refine x_ialk 7 rfl dX11_tells_6 (lyl57 hL) (lys57 hL) 79 rfl (by decide) ?_
  refine x_iconst 8 rfl dX11_tells_7 (by decide) ?_
  refine x_icmp_ne 11 13 rfl dX11_tells_8 (by decide) (fun c8 => ?_) (fun c8 => ?_)
  · have h79 : 0 ≤ M 57 79 := by omega
    obtain ⟨c, v, n, cd0, s9, hn, hT, hc, hv, hq⟩ := hLw h79
    have hn4 := hT.1
    obtain ⟨t, ht⟩ : ∃ t : Nat, M 57 79 = (t : Int) := ⟨(M 57 79).toNat, by omega⟩
    rw [ht, Int.toNat_natCast] at hn hc hv
    refine x_aload_n 14 rfl dX11_tells_13 0 rfl rfl ?_
    refine x_iconst 15 rfl dX11_tells_14 (by decide) ?_
    refine x_putz 18 rfl fX11_279 dX11_tells_15 (lyl55 hL) (lys55 hL) (by decide) (by decide) ?_
    refine x_iload_n 19 rfl dX11_tells_18 3 rfl rfl ?_
    refine x_i2l 20 rfl dX11_tells_19 ?_
    refine y_lstore 22 rfl dX11_tells_20 rfl (ls' := [_, _, _, _, _, _, _, _, _, _, _]) rfl (by decide) ?_
    refine x_aload_n 23 rfl dX11_tells_22 0 rfl rfl ?_
    refine x_sipush 26 rfl dX11_tells_23 (by decide) ?_
    refine x_aload_n 27 rfl dX11_tells_26 0 rfl rfl ?_
    refine x_getr 30 rfl fX11_24 dX11_tells_27 (lyl55 hL) (lys55 hL) (by decide) (57) rfl ?_
    refine x_bipush 32 rfl dX11_tells_30 (by decide) ?_
    refine x_ialk 33 rfl dX11_tells_32 (lyl57 hL) (lys57 hL) 79 rfl (by decide) ?_
    try simp (disch := omega) only [z_up_ne, z_up_nk, z_up_eq, z_mup_ne, z_mup_eq, Int.reduceToNat, Int.toNat_natCast]
    refine y_imul 34 rfl dX11_tells_33 (by omega) ?_
    refine x_puti 37 rfl fX11_249 dX11_tells_34 (lyl55 hL) (lys55 hL) (by decide) ?_
    rw [ht, show (400 : Int) * (t : Int) = ((400 * t + 0 : Nat) : Int) by omega]
    refine x_aload_n 38 rfl dX11_tells_37 0 rfl rfl ?_
    refine x_aload_n 39 rfl dX11_tells_38 0 rfl rfl ?_
    refine x_geti 42 rfl fX11_249 dX11_tells_39 (lyl55 hL) (lys55 hL) (by decide) ?_
    try simp (disch := omega) only [z_up_ne, z_up_nk, z_up_eq, z_mup_ne, z_mup_eq, Int.reduceToNat, Int.toNat_natCast]
    refine x_aload_n 43 rfl dX11_tells_42 0 rfl rfl ?_
    refine x_getr 46 rfl fX11_24 dX11_tells_43 (lyl55 hL) (lys55 hL) (by decide) (57) rfl ?_
    refine x_bipush 48 rfl dX11_tells_46 (by decide) ?_
    refine x_aload_n 49 rfl dX11_tells_48 0 rfl rfl ?_
    refine x_getr 52 rfl fX11_24 dX11_tells_49 (lyl55 hL) (lys55 hL) (by decide) (57) rfl ?_
    refine x_bipush 54 rfl dX11_tells_52 (by decide) ?_
    refine x_ialk 55 rfl dX11_tells_54 (lyl57 hL) (lys57 hL) 79 rfl (by decide) ?_
    try simp (disch := omega) only [z_up_ne, z_up_nk, z_up_eq, z_mup_ne, z_mup_eq, Int.reduceToNat, Int.toNat_natCast]
    refine y_iadd 56 rfl dX11_tells_55 (by omega) ?_
    refine x_iald 57 rfl dX11_tells_56 (lyl57 hL) (lys57 hL) (by omega) (by omega) ?_
    try simp (disch := omega) only [z_up_ne, z_up_nk, z_up_eq, z_mup_ne, z_mup_eq, Int.reduceToNat, Int.toNat_natCast]
    rw [ht, show ((80 : Int) + (t : Int)).toNat = 80 + t by omega, hn]
    refine y_iadd 58 rfl dX11_tells_57 (by omega) ?_
    refine x_puti 61 rfl fX11_246 dX11_tells_58 (lyl55 hL) (lys55 hL) (by decide) ?_
    try rw [show ((400 * t + 0 : Nat) : Int) + (n : Int) = ((400 * t + n : Nat) : Int) by omega]
    rw [ev_tl]
    refine zW_post ?_ (w_X11_tells61 (M := z_up (z_up M 55 25 0) 55 23 ((400 * t + n : Nat) : Int)) (B := 400 * t) (n := n) (c := c) (v := v) hL ?_ hT ?_ ?_ ?_ hhd hlo hwo hq)
    · rintro r M2 ⟨h1, g, b, h2⟩
      rw [mE_eq (M := M) (by rw [z_up_ne (by decide), z_up_ne (by decide)])] at h1
      refine ⟨by rw [if_neg (by omega)]; exact h1, ⟨fun i a1 a2 => by rw [h2, ev_ne a1, z_up_ne a1, z_up_ne a1], fun j a1 a2 a3 a4 => by rw [h2, ev_o a1 a3, z_up_nk a2, z_up_nk a4]⟩, by rw [h2, ev_ne (by decide), z_up_ne (by decide), z_up_ne (by decide)]⟩
    · refine ⟨by rw [z_up_eq], by omega, fun i hi2 => ?_, fun i hi2 => ?_⟩
      · rw [z_up_ne (by decide), z_up_ne (by decide)]; exact hc i hi2
      · rw [z_up_ne (by decide), z_up_ne (by decide)]; exact hv i hi2
    · rw [z_up_nk (by decide), z_up_eq]
    · rw [z_up_ne (by decide), z_up_ne (by decide)]; exact hi
    · exact as67_mEb (fun i hi2 => by rw [z_up_ne (by decide), z_up_ne (by decide)]; exact h67 i hi2)
  · refine x_iload_n 12 rfl dX11_tells_11 3 rfl rfl ?_
    refine x_reti dX11_tells_12 rfl ?_
    exact ⟨by rw [if_pos (by omega)], mF_refl, rfl⟩

set_option maxRecDepth 100000 in
set_option maxHeartbeats 4000000 in
theorem c_X11_setsNone {d sz : Nat} {S : zSh} {M : zMem} (hL : LY S sz) {x : Int} : zX d 0 0 mX11_setsNone [zn 55, zi x] sz S M (zU sz S (fun M' => ∃ f, M' = z_mup M 67 f ∧ lwA (M 57) (-1) (-1) (-1) (-1) (-1) (-1) x f)) := by
  have loop : ∀ (q i : Nat) (f : Nat → Int), 10 < q + i → i ≤ 10 → (∀ j, j < i → f j = -1) → zW mX11_setsNone d 0 0 [] (zU sz S (fun M' => ∃ f, M' = z_mup M 67 f ∧ lwA (M 57) (-1) (-1) (-1) (-1) (-1) (-1) x f)) 2 [some (zn 55), some (zi x), some (zi (i : Int))] [] sz S (z_mup M 67 f) := by
    intro q
    induction q with
    | zero => intro i f h1 h2; omega
    | succ q ih =>
      intro i f h1 h2 h3
      refine x_iload_n 3 rfl dX11_setsNone_2 2 rfl rfl ?_
      refine x_bipush 5 rfl dX11_setsNone_3 (by decide) ?_
      refine x_icmp_ge 8 21 rfl dX11_setsNone_5 (by decide) (fun c5 => ?_) (fun c5 => ?_)
      · refine x_aload_n 22 rfl dX11_setsNone_21 0 rfl rfl ?_
        refine x_getr 25 rfl fX11_59 dX11_setsNone_22 (lyl55 hL) (lys55 hL) (by decide) (67) rfl ?_
        refine x_iconst 26 rfl dX11_setsNone_25 (by decide) ?_
        refine x_iload_n 27 rfl dX11_setsNone_26 1 rfl rfl ?_
        refine x_iastk 28 rfl dX11_setsNone_27 (lyl67 hL) (lys67 hL) 4 rfl (by decide) ?_
        refine x_aload_n 29 rfl dX11_setsNone_28 0 rfl rfl ?_
        refine x_getr 32 rfl fX11_59 dX11_setsNone_29 (lyl55 hL) (lys55 hL) (by decide) (67) rfl ?_
        refine x_iconst 33 rfl dX11_setsNone_32 (by decide) ?_
        refine x_aload_n 34 rfl dX11_setsNone_33 0 rfl rfl ?_
        refine x_getr 37 rfl fX11_24 dX11_setsNone_34 (lyl55 hL) (lys55 hL) (by decide) (57) rfl ?_
        refine x_bipush 39 rfl dX11_setsNone_37 (by decide) ?_
        refine x_ialk 40 rfl dX11_setsNone_39 (lyl57 hL) (lys57 hL) 74 rfl (by decide) ?_
        try simp (disch := omega) only [z_up_ne, z_up_nk, z_up_eq, z_mup_ne, z_mup_eq, Int.reduceToNat, Int.toNat_natCast]
        refine x_iastk 41 rfl dX11_setsNone_40 (lyl67 hL) (lys67 hL) 5 rfl (by decide) ?_
        refine x_aload_n 42 rfl dX11_setsNone_41 0 rfl rfl ?_
        refine x_getr 45 rfl fX11_59 dX11_setsNone_42 (lyl55 hL) (lys55 hL) (by decide) (67) rfl ?_
        refine x_bipush 47 rfl dX11_setsNone_45 (by decide) ?_
        refine x_aload_n 48 rfl dX11_setsNone_47 0 rfl rfl ?_
        refine x_getr 51 rfl fX11_24 dX11_setsNone_48 (lyl55 hL) (lys55 hL) (by decide) (57) rfl ?_
        refine x_iconst 52 rfl dX11_setsNone_51 (by decide) ?_
        refine x_ialk 53 rfl dX11_setsNone_52 (lyl57 hL) (lys57 hL) 0 rfl (by decide) ?_
        try simp (disch := omega) only [z_up_ne, z_up_nk, z_up_eq, z_mup_ne, z_mup_eq, Int.reduceToNat, Int.toNat_natCast]
        refine x_iastk 54 rfl dX11_setsNone_53 (lyl67 hL) (lys67 hL) 8 rfl (by decide) ?_
        refine x_aload_n 55 rfl dX11_setsNone_54 0 rfl rfl ?_
        refine x_getr 58 rfl fX11_59 dX11_setsNone_55 (lyl55 hL) (lys55 hL) (by decide) (67) rfl ?_
        refine x_bipush 60 rfl dX11_setsNone_58 (by decide) ?_
        refine x_aload_n 61 rfl dX11_setsNone_60 0 rfl rfl ?_
        refine x_getr 64 rfl fX11_24 dX11_setsNone_61 (lyl55 hL) (lys55 hL) (by decide) (57) rfl ?_
        refine x_iconst 65 rfl dX11_setsNone_64 (by decide) ?_
        refine x_ialk 66 rfl dX11_setsNone_65 (lyl57 hL) (lys57 hL) 2 rfl (by decide) ?_
        try simp (disch := omega) only [z_up_ne, z_up_nk, z_up_eq, z_mup_ne, z_mup_eq, Int.reduceToNat, Int.toNat_natCast]
        refine x_iastk 67 rfl dX11_setsNone_66 (lyl67 hL) (lys67 hL) 9 rfl (by decide) ?_
        refine x_retu dX11_setsNone_67 rfl ?_
        refine ⟨_, by rw [z_mupm, z_mupm, z_mupm, z_mupm], ?_⟩
        refine ⟨?_, ?_, ?_, ?_, ?_, ?_, ?_, ?_, ?_, ?_⟩ <;> simp [ku] <;> exact h3 _ (by omega)
      · refine x_aload_n 9 rfl dX11_setsNone_8 0 rfl rfl ?_
        refine x_getr 12 rfl fX11_59 dX11_setsNone_9 (lyl55 hL) (lys55 hL) (by decide) (67) rfl ?_
        refine x_iload_n 13 rfl dX11_setsNone_12 2 rfl rfl ?_
        refine x_iconst 14 rfl dX11_setsNone_13 (by decide) ?_
        refine x_iast 15 rfl dX11_setsNone_14 (lyl67 hL) (lys67 hL) (by omega) (by omega) ?_
        refine w_iinc 18 rfl dX11_setsNone_15 rfl (by decide) (by omega) rfl (ls' := [_, _, _]) rfl (by decide) ?_
        refine x_goto 2 dX11_setsNone_18 (by decide) ?_
        refine z_mem (M' := z_mup M 67 (ku f i (-1))) (by rw [Int.toNat_natCast, z_mupm]) (ih (i + 1) (ku f i (-1)) (by omega) (by omega) (fun j hj => by simp only [ku]; split; rfl; exact h3 j (by omega)))
  refine zX_of pl_RX11 [some (zn 55), some (zi x), none] 1 rfl rfl ?_
  refine x_iconst 1 rfl dX11_setsNone_0 (by decide) ?_
  refine y_istore_n 2 rfl dX11_setsNone_1 rfl rfl (ls' := [_, _, _]) rfl (by decide) ?_
  exact z_mem (M' := z_mup M 67 (M 67)) z_mup_self.symm (loop 11 0 (M 67) (by omega) (by omega) (fun j hj => by omega))

set_option maxRecDepth 100000 in
set_option maxHeartbeats 4000000 in
theorem c_X11_setsHand {d sz : Nat} {S : zSh} {M : zMem} (hL : LY S sz) (hi : KI (M 57)) {x y z : Int} (hx : 0 ≤ x ∧ x < 8) : zX (d + 1) 0 0 mX11_setsHand [zn 55, zi x, zi y, zi z] sz S M (zU sz S (fun M' => ∃ f, M' = z_mup M 67 f ∧ lwA (M 57) x y (M 57 2 - M 57 (31 + x.toNat)) (-1) (-1) (M 57 (3 + x.toNat)) z f)) := by
  have i1 := hi.1
  have i2 := hi.2.1 x.toNat (by omega)
  refine zX_of pl_RX11 [some (zn 55), some (zi x), some (zi y), some (zi z)] 0 rfl rfl ?_
  refine x_aload_n 1 rfl dX11_setsHand_0 0 rfl rfl ?_
  refine x_iload_n 2 rfl dX11_setsHand_1 3 rfl rfl ?_
  refine x_cVu 5 rfl lX11_303 dX11_setsHand_2 (lyl55 hL) (lys55 hL) (c_X11_setsNone hL) rfl rfl (Nat.le_of_ble_eq_true rfl) (fun M1 hr1 => ?_)
  obtain ⟨f, hM1, hf⟩ := hr1
  rw [hM1]
  refine x_aload_n 6 rfl dX11_setsHand_5 0 rfl rfl ?_
  refine x_getr 9 rfl fX11_59 dX11_setsHand_6 (lyl55 hL) (lys55 hL) (by decide) (67) rfl ?_
  refine x_iconst 10 rfl dX11_setsHand_9 (by decide) ?_
  refine x_iload_n 11 rfl dX11_setsHand_10 1 rfl rfl ?_
  refine x_iastk 12 rfl dX11_setsHand_11 (lyl67 hL) (lys67 hL) 0 rfl (by decide) ?_
  refine x_aload_n 13 rfl dX11_setsHand_12 0 rfl rfl ?_
  refine x_getr 16 rfl fX11_59 dX11_setsHand_13 (lyl55 hL) (lys55 hL) (by decide) (67) rfl ?_
  refine x_iconst 17 rfl dX11_setsHand_16 (by decide) ?_
  refine x_iload_n 18 rfl dX11_setsHand_17 2 rfl rfl ?_
  refine x_iastk 19 rfl dX11_setsHand_18 (lyl67 hL) (lys67 hL) 1 rfl (by decide) ?_
  refine x_aload_n 20 rfl dX11_setsHand_19 0 rfl rfl ?_
  refine x_getr 23 rfl fX11_59 dX11_setsHand_20 (lyl55 hL) (lys55 hL) (by decide) (67) rfl ?_
  refine x_iconst 24 rfl dX11_setsHand_23 (by decide) ?_
  refine x_aload_n 25 rfl dX11_setsHand_24 0 rfl rfl ?_
  refine x_getr 28 rfl fX11_24 dX11_setsHand_25 (lyl55 hL) (lys55 hL) (by decide) (57) rfl ?_
  refine x_iconst 29 rfl dX11_setsHand_28 (by decide) ?_
  refine x_ialk 30 rfl dX11_setsHand_29 (lyl57 hL) (lys57 hL) 2 rfl (by decide) ?_
  try simp (disch := omega) only [z_up_ne, z_up_nk, z_up_eq, z_mup_ne, z_mup_eq, Int.reduceToNat, Int.toNat_natCast]
  refine x_aload_n 31 rfl dX11_setsHand_30 0 rfl rfl ?_
  refine x_getr 34 rfl fX11_24 dX11_setsHand_31 (lyl55 hL) (lys55 hL) (by decide) (57) rfl ?_
  refine x_bipush 36 rfl dX11_setsHand_34 (by decide) ?_
  refine x_iload_n 37 rfl dX11_setsHand_36 1 rfl rfl ?_
  refine y_iadd 38 rfl dX11_setsHand_37 (by omega) ?_
  refine x_iald 39 rfl dX11_setsHand_38 (lyl57 hL) (lys57 hL) (by omega) (by omega) ?_
  try simp (disch := omega) only [z_up_ne, z_up_nk, z_up_eq, z_mup_ne, z_mup_eq, Int.reduceToNat, Int.toNat_natCast]
  rw [show ((31 : Int) + x).toNat = 31 + x.toNat by omega]
  refine y_isub 40 rfl dX11_setsHand_39 (by omega) ?_
  refine x_iastk 41 rfl dX11_setsHand_40 (lyl67 hL) (lys67 hL) 2 rfl (by decide) ?_
  refine x_aload_n 42 rfl dX11_setsHand_41 0 rfl rfl ?_
  refine x_getr 45 rfl fX11_59 dX11_setsHand_42 (lyl55 hL) (lys55 hL) (by decide) (67) rfl ?_
  refine x_bipush 47 rfl dX11_setsHand_45 (by decide) ?_
  refine x_aload_n 48 rfl dX11_setsHand_47 0 rfl rfl ?_
  refine x_getr 51 rfl fX11_24 dX11_setsHand_48 (lyl55 hL) (lys55 hL) (by decide) (57) rfl ?_
  refine x_iconst 52 rfl dX11_setsHand_51 (by decide) ?_
  refine x_iload_n 53 rfl dX11_setsHand_52 1 rfl rfl ?_
  refine y_iadd 54 rfl dX11_setsHand_53 (by omega) ?_
  refine x_iald 55 rfl dX11_setsHand_54 (lyl57 hL) (lys57 hL) (by omega) (by omega) ?_
  try simp (disch := omega) only [z_up_ne, z_up_nk, z_up_eq, z_mup_ne, z_mup_eq, Int.reduceToNat, Int.toNat_natCast]
  rw [show ((3 : Int) + x).toNat = 3 + x.toNat by omega]
  refine x_iastk 56 rfl dX11_setsHand_55 (lyl67 hL) (lys67 hL) 6 rfl (by decide) ?_
  refine x_retu dX11_setsHand_56 rfl ?_
  refine ⟨_, by rw [z_mupm, z_mupm, z_mupm, z_mupm], ?_⟩
  obtain ⟨h0, h1, h2, h3, h4, h5, h6, h7, h8, h9⟩ := hf
  refine ⟨?_, ?_, ?_, ?_, ?_, ?_, ?_, ?_, ?_, ?_⟩ <;> simp [ku] <;> assumption

theorem as67_of {M : zMem} {k : Nat → Int} {h lay sv g wh db crew : Int} {f : Nat → Int} (hA : lwA k h lay sv g wh db crew f) (b0 : -1000000 ≤ h ∧ h ≤ 1000000) (b1 : -1000000 ≤ lay ∧ lay ≤ 1000000) (b2 : -1000000 ≤ sv ∧ sv ≤ 1000000) (b3 : -1000000 ≤ g ∧ g ≤ 1000000) (b4 : -1000000 ≤ crew ∧ crew ≤ 1000000) (b5 : -1000000 ≤ k 74 ∧ k 74 ≤ 1000000) (b6 : -1000000 ≤ db ∧ db ≤ 1000000) (b7 : -1000000 ≤ wh ∧ wh ≤ 1000000) (b8 : -1000000 ≤ k 0 ∧ k 0 ≤ 1000000) (b9 : -1000000 ≤ k 2 ∧ k 2 ≤ 1000000) : as67 (z_mup M 67 f) := by
  obtain ⟨h0, h1, h2, h3, h4, h5, h6, h7, h8, h9⟩ := hA
  intro i hi
  rw [z_mup_eq]
  have : i = 0 ∨ i = 1 ∨ i = 2 ∨ i = 3 ∨ i = 4 ∨ i = 5 ∨ i = 6 ∨ i = 7 ∨ i = 8 ∨ i = 9 := by omega
  rcases this with rfl | rfl | rfl | rfl | rfl | rfl | rfl | rfl | rfl | rfl
  · rw [h0]; exact b0
  · rw [h1]; exact b1
  · rw [h2]; exact b2
  · rw [h3]; exact b3
  · rw [h4]; exact b4
  · rw [h5]; exact b5
  · rw [h6]; exact b6
  · rw [h7]; exact b7
  · rw [h8]; exact b8
  · rw [h9]; exact b9
theorem mF_67 {M M' : zMem} {f : Nat → Int} (h : mF (z_mup M 67 f) M') : mF M M' := mF_trans ⟨fun i _ b => z_mup_ne b, fun j _ _ _ _ => by rw [z_mup_ne (by decide)]⟩ h

set_option maxRecDepth 100000 in
set_option maxHeartbeats 4000000 in
theorem c_X11_casksIn {d sz : Nat} {S : zSh} {M : zMem} (hL : LY S sz) (hi : KI (M 57)) {Lw : List gC} (hLw : LwI (M 57) Lw) {x y : Int} (hx : 0 ≤ x ∧ x < 4) (hy : 0 ≤ y ∧ y ≤ 8) : zX (d + 43) 0 0 mX11_casksIn [zn 55, zi x, zi y] sz S M (zI sz S (fun r M' => r = zcasks Lw (M 57) x.toNat y ∧ mF M M')) := by
  have i1 := hi.1
  have i2 := hi.2.2.1 x.toNat (by omega)
  refine zX_of pl_RX11 [some (zn 55), some (zi x), some (zi y)] 0 rfl rfl ?_
  refine x_aload_n 1 rfl dX11_casksIn_0 0 rfl rfl ?_
  refine x_iload_n 2 rfl dX11_casksIn_1 2 rfl rfl ?_
  refine x_cVu 5 rfl lX11_303 dX11_casksIn_2 (lyl55 hL) (lys55 hL) (c_X11_setsNone hL) rfl rfl (Nat.le_of_ble_eq_true rfl) (fun M1 hr1 => ?_)
  obtain ⟨f, hM1, hf⟩ := hr1
  rw [hM1]
  refine x_aload_n 6 rfl dX11_casksIn_5 0 rfl rfl ?_
  refine x_getr 9 rfl fX11_59 dX11_casksIn_6 (lyl55 hL) (lys55 hL) (by decide) (67) rfl ?_
  refine x_iconst 10 rfl dX11_casksIn_9 (by decide) ?_
  refine x_iload_n 11 rfl dX11_casksIn_10 1 rfl rfl ?_
  refine x_iastk 12 rfl dX11_casksIn_11 (lyl67 hL) (lys67 hL) 3 rfl (by decide) ?_
  refine x_aload_n 13 rfl dX11_casksIn_12 0 rfl rfl ?_
  refine x_getr 16 rfl fX11_59 dX11_casksIn_13 (lyl55 hL) (lys55 hL) (by decide) (67) rfl ?_
  refine x_bipush 18 rfl dX11_casksIn_16 (by decide) ?_
  refine x_aload_n 19 rfl dX11_casksIn_18 0 rfl rfl ?_
  refine x_getr 22 rfl fX11_24 dX11_casksIn_19 (lyl55 hL) (lys55 hL) (by decide) (57) rfl ?_
  refine x_bipush 24 rfl dX11_casksIn_22 (by decide) ?_
  refine x_iload_n 25 rfl dX11_casksIn_24 1 rfl rfl ?_
  refine y_iadd 26 rfl dX11_casksIn_25 (by omega) ?_
  refine x_iald 27 rfl dX11_casksIn_26 (lyl57 hL) (lys57 hL) (by omega) (by omega) ?_
  try simp (disch := omega) only [z_up_ne, z_up_nk, z_up_eq, z_mup_ne, z_mup_eq, Int.reduceToNat, Int.toNat_natCast]
  rw [show ((19 : Int) + x).toNat = 19 + x.toNat by omega]
  refine x_iastk 28 rfl dX11_casksIn_27 (lyl67 hL) (lys67 hL) 7 rfl (by decide) ?_
  obtain ⟨F, hF0⟩ : ∃ F, F = ku (ku f 3 x) 7 (M 57 (19 + x.toNat)) := ⟨_, rfl⟩
  have hF : lwA (M 57) (-1) (-1) (-1) x (M 57 (19 + x.toNat)) (-1) y F := by
    obtain ⟨h0, h1, h2, h3, h4, h5, h6, h7, h8, h9⟩ := hf
    rw [hF0]
    refine ⟨?_, ?_, ?_, ?_, ?_, ?_, ?_, ?_, ?_, ?_⟩ <;> simp [ku] <;> assumption
  refine z_mem (M' := z_mup M 67 F) (by rw [hF0, z_mupm, z_mupm]) ?_
  refine x_aload_n 29 rfl dX11_casksIn_28 0 rfl rfl ?_
  refine x_iconst 30 rfl dX11_casksIn_29 (by decide) ?_
  refine x_iconst 31 rfl dX11_casksIn_30 (by decide) ?_
  refine x_bipush 33 rfl dX11_casksIn_31 (by decide) ?_
  refine x_cVi 36 rfl lX11_308 dX11_casksIn_33 (lyl55 hL) (lys55 hL) (c_X11_tells (M := z_mup M 67 F) hL (by rw [z_mup_ne (by decide)]; exact hi) (Lw := Lw) (by rw [z_mup_ne (by decide)]; exact hLw) (as67_of hF (by omega) (by omega) (by omega) (by omega) (by omega) (by omega) (by omega) (by omega) (by omega) (by omega)) (by decide) (by decide) (by decide)) rfl rfl (Nat.le_of_ble_eq_true rfl) (fun r M3 hr3 => ?_)
  obtain ⟨hr4, h5, h6⟩ := hr3
  refine x_reti dX11_casksIn_36 rfl ?_
  refine ⟨?_, mF_67 h5⟩
  rw [hr4, z_mup_ne (by decide), lwA_mE (M := z_mup M 67 F) (by rw [z_mup_eq]; exact hF)]
  unfold zcasks
  rw [Int.toNat_of_nonneg hx.1]
  rfl

set_option maxRecDepth 100000 in
set_option maxHeartbeats 4000000 in
theorem c_X11_eatsFor {d sz : Nat} {S : zSh} {M : zMem} (hL : LY S sz) (hi : KI (M 57)) {Lw : List gC} (hLw : LwI (M 57) Lw) {x : Int} (hx : 0 ≤ x ∧ x < 8) : zX (d + 43) 0 0 mX11_eatsFor [zn 55, zi x] sz S M (zI sz S (fun r M' => r = zeats Lw (M 57) x.toNat ∧ mF M M')) := by
  have i1 := hi.1
  have i2 := hi.2.1 x.toNat (by omega)
  have i3 := zcrew_in hi
  refine zX_of pl_RX11 [some (zn 55), some (zi x)] 0 rfl rfl ?_
  refine x_aload_n 1 rfl dX11_eatsFor_0 0 rfl rfl ?_
  refine x_iload_n 2 rfl dX11_eatsFor_1 1 rfl rfl ?_
  refine x_aload_n 3 rfl dX11_eatsFor_2 0 rfl rfl ?_
  refine x_getr 6 rfl fX11_24 dX11_eatsFor_3 (lyl55 hL) (lys55 hL) (by decide) (57) rfl ?_
  refine x_bipush 8 rfl dX11_eatsFor_6 (by decide) ?_
  refine x_iload_n 9 rfl dX11_eatsFor_8 1 rfl rfl ?_
  refine y_iadd 10 rfl dX11_eatsFor_9 (by omega) ?_
  refine x_iald 11 rfl dX11_eatsFor_10 (lyl57 hL) (lys57 hL) (by omega) (by omega) ?_
  rw [show ((23 : Int) + x).toNat = 23 + x.toNat by omega]
  refine x_aload_n 12 rfl dX11_eatsFor_11 0 rfl rfl ?_
  refine x_cVi 15 rfl lX11_108 dX11_eatsFor_12 (lyl55 hL) (lys55 hL) (c_X11_crewNow hL hi) rfl rfl (Nat.le_of_ble_eq_true rfl) (fun r M1 hr1 => ?_)
  obtain ⟨rfl, hM1⟩ := hr1
  rw [hM1]
  refine x_cVu 18 rfl lX11_312 dX11_eatsFor_15 (lyl55 hL) (lys55 hL) (c_X11_setsHand hL hi hx) rfl rfl (Nat.le_of_ble_eq_true rfl) (fun M1 hr1 => ?_)
  obtain ⟨F, hM1, hF⟩ := hr1
  rw [hM1]
  refine x_aload_n 19 rfl dX11_eatsFor_18 0 rfl rfl ?_
  refine x_iconst 20 rfl dX11_eatsFor_19 (by decide) ?_
  refine x_iconst 21 rfl dX11_eatsFor_20 (by decide) ?_
  refine x_iconst 22 rfl dX11_eatsFor_21 (by decide) ?_
  refine x_cVi 25 rfl lX11_308 dX11_eatsFor_22 (lyl55 hL) (lys55 hL) (c_X11_tells (M := z_mup M 67 F) hL (by rw [z_mup_ne (by decide)]; exact hi) (Lw := Lw) (by rw [z_mup_ne (by decide)]; exact hLw) (as67_of hF (by omega) (by omega) (by omega) (by omega) (by omega) (by omega) (by omega) (by omega) (by omega) (by omega)) (by decide) (by decide) (by decide)) rfl rfl (Nat.le_of_ble_eq_true rfl) (fun r M3 hr3 => ?_)
  obtain ⟨hr4, h5, h6⟩ := hr3
  refine x_reti dX11_eatsFor_25 rfl ?_
  refine ⟨?_, mF_67 h5⟩
  rw [hr4, z_mup_ne (by decide), lwA_mE (M := z_mup M 67 F) (by rw [z_mup_eq]; exact hF)]
  unfold zeats hdE
  rw [Int.toNat_of_nonneg hx.1]
  rfl

set_option maxRecDepth 100000 in
set_option maxHeartbeats 4000000 in
theorem c_X11_deserts {d sz : Nat} {S : zSh} {M : zMem} (hL : LY S sz) (hi : KI (M 57)) {Lw : List gC} (hLw : LwI (M 57) Lw) {x y z : Int} (hx : 0 ≤ x ∧ x < 8) (hy : 0 ≤ y ∧ y ≤ 999) (hz : 0 ≤ z ∧ z ≤ 8) : zX (d + 43) 0 0 mX11_deserts [zn 55, zi x, zi y, zi z] sz S M (zI sz S (fun r M' => ((r = 1 ∧ zdes Lw (M 57) x.toNat y z) ∨ (r = 0 ∧ ¬ zdes Lw (M 57) x.toNat y z)) ∧ mF M M')) := by
  have i1 := hi.1
  have i2 := hi.2.1 x.toNat (by omega)
  refine zX_of pl_RX11 [some (zn 55), some (zi x), some (zi y), some (zi z)] 0 rfl rfl ?_
  refine x_aload_n 1 rfl dX11_deserts_0 0 rfl rfl ?_
  refine x_iload_n 2 rfl dX11_deserts_1 1 rfl rfl ?_
  refine x_iload_n 3 rfl dX11_deserts_2 2 rfl rfl ?_
  refine x_iload_n 4 rfl dX11_deserts_3 3 rfl rfl ?_
  refine x_cVu 7 rfl lX11_312 dX11_deserts_4 (lyl55 hL) (lys55 hL) (c_X11_setsHand hL hi hx) rfl rfl (Nat.le_of_ble_eq_true rfl) (fun M1 hr1 => ?_)
  obtain ⟨F, hM1, hF⟩ := hr1
  rw [hM1]
  refine x_aload_n 8 rfl dX11_deserts_7 0 rfl rfl ?_
  refine x_iconst 9 rfl dX11_deserts_8 (by decide) ?_
  refine x_iconst 10 rfl dX11_deserts_9 (by decide) ?_
  refine x_iconst 11 rfl dX11_deserts_10 (by decide) ?_
  refine x_cVi 14 rfl lX11_308 dX11_deserts_11 (lyl55 hL) (lys55 hL) (c_X11_tells (M := z_mup M 67 F) hL (by rw [z_mup_ne (by decide)]; exact hi) (Lw := Lw) (by rw [z_mup_ne (by decide)]; exact hLw) (as67_of hF (by omega) (by omega) (by omega) (by omega) (by omega) (by omega) (by omega) (by omega) (by omega) (by omega)) (by decide) (by decide) (by decide)) rfl rfl (Nat.le_of_ble_eq_true rfl) (fun r M3 hr3 => ?_)
  obtain ⟨hr4, h5, h6⟩ := hr3
  refine x_iconst 15 rfl dX11_deserts_14 (by decide) ?_
  refine x_icmp_ne 18 22 rfl dX11_deserts_15 (by decide) (fun c15 => ?_) (fun c15 => ?_)
  · refine x_iconst 23 rfl dX11_deserts_22 (by decide) ?_
    refine x_retz dX11_deserts_23 rfl (by omega) ?_
    refine ⟨?_, mF_67 h5⟩
    rw [z_mup_ne (by decide), lwA_mE (M := z_mup M 67 F) (by rw [z_mup_eq]; exact hF)] at hr4
    have hz9 : zdes Lw (M 57) x.toNat y z ↔ r = 1 := by
      unfold zdes hdE
      rw [Int.toNat_of_nonneg hx.1, hr4]
      by_cases h9 : M 57 79 = -1
      · rw [if_pos h9]; constructor; (intro h; exact absurd h9 h.1); (intro h; exfalso; omega)
      · rw [if_neg h9]; exact ⟨fun h => h.2, fun h => ⟨h9, h⟩⟩
    rw [hz9]
    omega
  · refine x_iconst 19 rfl dX11_deserts_18 (by decide) ?_
    refine x_goto 23 dX11_deserts_19 (by decide) ?_
    refine x_retz dX11_deserts_23 rfl (by omega) ?_
    refine ⟨?_, mF_67 h5⟩
    rw [z_mup_ne (by decide), lwA_mE (M := z_mup M 67 F) (by rw [z_mup_eq]; exact hF)] at hr4
    have hz9 : zdes Lw (M 57) x.toNat y z ↔ r = 1 := by
      unfold zdes hdE
      rw [Int.toNat_of_nonneg hx.1, hr4]
      by_cases h9 : M 57 79 = -1
      · rw [if_pos h9]; constructor; (intro h; exact absurd h9 h.1); (intro h; exfalso; omega)
      · rw [if_neg h9]; exact ⟨fun h => h.2, fun h => ⟨h9, h⟩⟩
    rw [hz9]
    omega
