def obQ (Lw : List gC) (M : zMem) (a b hd r : Int) (M' : zMem) : Prop := r = (zactF Lw (M 57) (kap hd) a b).1 ∧ obF M M' ∧ (r < 0 → M' 57 = M 57 ∧ M' 69 = M 69 ∧ M' 55 32 = M 55 32 ∧ M' 55 28 = M 55 28) ∧ (0 ≤ r → M' 57 = (zactF Lw (M 57) (kap hd) a b).2 ∧ M' 69 = zKeep (M 69) (M 57) (M 55 32).toNat (kap hd - 16) ∧ M' 55 32 = min (M 55 32 + 1) 16 ∧ M' 55 28 = if hd = 21 then r else M 55 28)
theorem obF_refl {M : zMem} : obF M M := ⟨fun _ _ _ _ _ _ => rfl, fun _ _ _ _ _ _ _ => rfl⟩
theorem obQ_no {Lw : List gC} {M M' : zMem} {a b hd r : Int} (hi : KI (M 57)) (h4 : hd = 21 ∨ hd = 24 ∨ hd = 23 ∨ hd = 26) (hA : actR Lw (M 57) (kap hd) (sm a) (sm b) r (M 57)) (hr : r < 0) (hF : obF M M') (h57 : M' 57 = M 57) (h69 : M' 69 = M 69) (h32 : M' 55 32 = M 55 32) (h28 : M' 55 28 = M 55 28) : obQ Lw M a b hd r M' := by
  have h := actR_F (kap_or h4) hA
  rw [zactF_sm hi] at h
  exact ⟨by rw [h], hF, fun _ => ⟨h57, h69, h32, h28⟩, fun h9 => by omega⟩
theorem obQ_yes {Lw : List gC} {M M' : zMem} {a b hd r : Int} {k' : Nat → Int} (hi : KI (M 57)) (h4 : hd = 21 ∨ hd = 24 ∨ hd = 23 ∨ hd = 26) (hA : actR Lw (M 57) (kap hd) (sm a) (sm b) r k') (hr : 0 ≤ r) (hF : obF M M') (h57 : M' 57 = k') (h69 : M' 69 = zKeep (M 69) (M 57) (M 55 32).toNat (kap hd - 16)) (h32 : M' 55 32 = min (M 55 32 + 1) 16) (h28 : M' 55 28 = if hd = 21 then r else M 55 28) : obQ Lw M a b hd r M' := by
  have h := actR_F (kap_or h4) hA
  rw [zactF_sm hi] at h
  exact ⟨by rw [h], hF, fun h9 => by omega, fun _ => ⟨by rw [h, h57], h69, h32, h28⟩⟩
theorem zKp_ob {M : zMem} {x : Int} {k' : Nat → Int} : obF M (z_mup (zKp M x) 57 k') ∧ z_mup (zKp M x) 57 k' 57 = k' ∧ z_mup (zKp M x) 57 k' 69 = zKeep (M 69) (M 57) (M 55 32).toNat x ∧ z_mup (zKp M x) 57 k' 55 32 = min (M 55 32 + 1) 16 ∧ z_mup (zKp M x) 57 k' 55 28 = M 55 28 := by
  unfold zKp
  refine ⟨⟨fun i a b c d e => by rw [z_mup_ne b, z_up_ne a, z_mup_ne e], fun j a b c d e f => by rw [z_mup_ne (by decide), z_up_nk f, z_mup_ne (by decide)]⟩, z_mup_eq, ?_, ?_, ?_⟩
  · rw [z_mup_ne (by decide), z_up_ne (by decide), z_mup_eq]
  · rw [z_mup_ne (by decide), z_up_eq]
  · rw [z_mup_ne (by decide), z_up_nk (by decide), z_mup_ne (by decide)]
theorem z_up_self {M : zMem} {a k : Nat} : z_up M a k (M a k) = M := by
  funext i j
  unfold z_up
  by_cases h : i = a ∧ j = k
  · rw [if_pos h, h.1, h.2]
  · rw [if_neg h]
theorem ob_hunt {M M3 : zMem} {f k2 : Nat → Int} {r : Int} (h : mF (z_mup (z_mup (zKp M 0) 68 f) 57 k2) M3) : obF M (z_up M3 55 28 r) ∧ z_up M3 55 28 r 57 = k2 ∧ z_up M3 55 28 r 69 = zKeep (M 69) (M 57) (M 55 32).toNat 0 ∧ z_up M3 55 28 r 55 32 = min (M 55 32 + 1) 16 := by
  unfold zKp at h
  refine ⟨⟨fun i a b c d e => by rw [z_up_ne a, h.1 i a c, z_mup_ne b, z_mup_ne d, z_up_ne a, z_mup_ne e], fun j a b c d e f => by rw [z_up_nk e, h.2 j a b c d, z_mup_ne (by decide), z_mup_ne (by decide), z_up_nk f, z_mup_ne (by decide)]⟩, ?_, ?_, ?_⟩
  · rw [z_up_ne (by decide), h.1 57 (by decide) (by decide), z_mup_eq]
  · rw [z_up_ne (by decide), h.1 69 (by decide) (by decide), z_mup_ne (by decide), z_mup_ne (by decide), z_up_ne (by decide), z_mup_eq]
  · rw [z_up_nk (by decide), h.2 32 (by decide) (by decide) (by decide) (by decide), z_mup_ne (by decide), z_mup_ne (by decide), z_up_eq]

set_option maxRecDepth 100000 in
set_option maxHeartbeats 4000000 in
theorem c_X11_obeys {d sz : Nat} {S : zSh} {M : zMem} (hL : LY S sz) (hi : KI (M 57)) {Lw : List gC} (hLw : LwI (M 57) Lw) (hn0 : 0 ≤ M 55 32 ∧ M 55 32 ≤ 16) {hd : Int} (hh : M 55 38 = hd) (hd4 : hd = 21 ∨ hd = 24 ∨ hd = 23 ∨ hd = 26) : zX (d + 47) 0 0 mX11_obeys [zn 55] sz S M (zI sz S (fun r M' => obQ Lw M (M 73 0) (M 73 1) hd r M')) := by
  have i1 := hi.1
  refine zX_of pl_RX11 [some (zn 55), none, none, none] 3 rfl rfl ?_
  refine x_aload_n 1 rfl dX11_obeys_0 0 rfl rfl ?_
  refine x_getr 4 rfl fX11_81 dX11_obeys_1 (lyl55 hL) (lys55 hL) (by decide) (73) rfl ?_
  refine x_iconst 5 rfl dX11_obeys_4 (by decide) ?_
  refine x_lald 6 rfl dX11_obeys_5 (lyl73 hL) (lys73 hL) (by omega) (by omega) ?_
  refine x_cSi 9 rfl lX11_440 dX11_obeys_6 c_X11_small rfl rfl (Nat.le_of_ble_eq_true rfl) (fun r1 M1 hr1 => ?_)
  obtain ⟨hr1, hM1⟩ := hr1
  have hr1 : r1 = sm (M 73 0) := hr1
  rw [hM1]
  refine y_istore_n 10 rfl dX11_obeys_9 rfl rfl (ls' := [_, _, _, _]) rfl (by decide) ?_
  refine x_aload_n 11 rfl dX11_obeys_10 0 rfl rfl ?_
  refine x_getr 14 rfl fX11_81 dX11_obeys_11 (lyl55 hL) (lys55 hL) (by decide) (73) rfl ?_
  refine x_iconst 15 rfl dX11_obeys_14 (by decide) ?_
  refine x_lald 16 rfl dX11_obeys_15 (lyl73 hL) (lys73 hL) (by omega) (by omega) ?_
  refine x_cSi 19 rfl lX11_440 dX11_obeys_16 c_X11_small rfl rfl (Nat.le_of_ble_eq_true rfl) (fun r2 M2 hr2 => ?_)
  obtain ⟨hr2, hM2⟩ := hr2
  have hr2 : r2 = sm (M 73 1) := hr2
  rw [hM2]
  refine y_istore_n 20 rfl dX11_obeys_19 rfl rfl (ls' := [_, _, _, _]) rfl (by decide) ?_
  refine x_aload_n 21 rfl dX11_obeys_20 0 rfl rfl ?_
  refine x_geti 24 rfl fX11_428 dX11_obeys_21 (lyl55 hL) (lys55 hL) (by decide) ?_
  rw [hh]
  refine x_tsC (23) 56 0 dX11_obeys_24 (by decide) (by decide) (by decide) rfl (by decide) (fun c24 => ?_) (fun c24_0 => ?_)
  · refine x_aload_n 57 rfl dX11_obeys_56 0 rfl rfl ?_
    refine x_iload_n 58 rfl dX11_obeys_57 1 rfl rfl ?_
    refine x_cVi 61 rfl lX11_353 dX11_obeys_58 (lyl55 hL) (lys55 hL) (c_X11_sellsKept hL hi hn0) rfl rfl (Nat.le_of_ble_eq_true rfl) (fun r3 M3 hr3 => ?_)
    rw [hr1] at hr3
    refine x_reti dX11_obeys_61 rfl ?_
    have ehd : hd = 23 := by clear hr3; omega
    subst ehd
    rcases hr3 with ⟨h1, h2, h3⟩ | ⟨h1, h2, h3, h4⟩ | ⟨h1, h2, h3, h4⟩
    · exact obQ_no hi hd4 (by rw [show kap 23 = 17 by decide]; exact ⟨fun e => absurd e (by decide), fun _ => .inl ⟨h1, h2, rfl⟩, fun e => absurd e (by decide), fun e => absurd e (by decide)⟩) (by omega) (by rw [h3]; exact obF_refl) (by rw [h3]) (by rw [h3]) (by rw [h3]) (by rw [h3])
    · exact obQ_no hi hd4 (by rw [show kap 23 = 17 by decide]; exact ⟨fun e => absurd e (by decide), fun _ => .inr (.inl ⟨h1, h2, h3, rfl⟩), fun e => absurd e (by decide), fun e => absurd e (by decide)⟩) (by omega) (by rw [h4]; exact obF_refl) (by rw [h4]) (by rw [h4]) (by rw [h4]) (by rw [h4])
    · have hb := (kSell_KI hi h1 h2).1
      obtain ⟨y1, y2, y3, y4, y5⟩ := zKp_ob (M := M) (x := 1) (k' := kSell (M 57) (sm (M 73 0)))
      rw [← h4] at y1 y2 y3 y4 y5
      exact obQ_yes hi hd4 (by rw [show kap 23 = 17 by decide]; exact ⟨fun e => absurd e (by decide), fun _ => .inr (.inr ⟨h1, h2, h3, rfl⟩), fun e => absurd e (by decide), fun e => absurd e (by decide)⟩) (by omega) y1 y2 (by rw [show kap 23 - 16 = 1 by decide]; exact y3) y4 (by rw [if_neg (by decide)]; exact y5)
  refine x_tsC (24) 62 1 dX11_obeys_24 (by decide) (by decide) (by decide) rfl (by decide) (fun c24 => ?_) (fun c24_1 => ?_)
  · refine x_aload_n 63 rfl dX11_obeys_62 0 rfl rfl ?_
    refine x_iload_n 64 rfl dX11_obeys_63 1 rfl rfl ?_
    refine x_iload_n 65 rfl dX11_obeys_64 2 rfl rfl ?_
    refine x_cVi 68 rfl lX11_356 dX11_obeys_65 (lyl55 hL) (lys55 hL) (c_X11_advancesKept hL hi hn0) rfl rfl (Nat.le_of_ble_eq_true rfl) (fun r3 M3 hr3 => ?_)
    rw [hr1, hr2] at hr3
    refine x_reti dX11_obeys_68 rfl ?_
    have ehd : hd = 24 := by clear hr3; omega
    subst ehd
    rcases hr3 with ⟨h1, h2, h3⟩ | ⟨h1, h0, h2, h3⟩ | ⟨h1, h0, h2, h3, h4⟩ | ⟨h1, h0, h2, h3, h4, h5⟩
    · exact obQ_no hi hd4 (by rw [show kap 24 = 18 by decide]; exact ⟨fun e => absurd e (by decide), fun e => absurd e (by decide), fun _ => .inl ⟨h1, h2, rfl⟩, fun e => absurd e (by decide)⟩) (by omega) (by rw [h3]; exact obF_refl) (by rw [h3]) (by rw [h3]) (by rw [h3]) (by rw [h3])
    · exact obQ_no hi hd4 (by rw [show kap 24 = 18 by decide]; exact ⟨fun e => absurd e (by decide), fun e => absurd e (by decide), fun _ => .inr (.inl ⟨h1, h0, h2, rfl⟩), fun e => absurd e (by decide)⟩) (by omega) (by rw [h3]; exact obF_refl) (by rw [h3]) (by rw [h3]) (by rw [h3]) (by rw [h3])
    · exact obQ_no hi hd4 (by rw [show kap 24 = 18 by decide]; exact ⟨fun e => absurd e (by decide), fun e => absurd e (by decide), fun _ => .inr (.inr (.inl ⟨h1, h0, h2, h3, rfl⟩)), fun e => absurd e (by decide)⟩) (by omega) (by rw [h4]; exact obF_refl) (by rw [h4]) (by rw [h4]) (by rw [h4]) (by rw [h4])
    · have hb := ((kAdv_KI (h := (sm (M 73 0)).toNat) hi (by omega) ⟨h1.1, h3⟩).2.1 (sm (M 73 0)).toNat (by omega)).1
      obtain ⟨y1, y2, y3, y4, y5⟩ := zKp_ob (M := M) (x := 2) (k' := kAdv (M 57) (sm (M 73 0)).toNat (sm (M 73 1)))
      rw [← h5] at y1 y2 y3 y4 y5
      exact obQ_yes hi hd4 (by rw [show kap 24 = 18 by decide]; exact ⟨fun e => absurd e (by decide), fun e => absurd e (by decide), fun _ => .inr (.inr (.inr ⟨h1, h0, h2, h3, h4, rfl⟩)), fun e => absurd e (by decide)⟩) (by omega) y1 y2 (by rw [show kap 24 - 16 = 2 by decide]; exact y3) y4 (by rw [if_neg (by decide)]; exact y5)
  refine x_tsC (25) 75 2 dX11_obeys_24 (by decide) (by decide) (by decide) rfl (by decide) (fun c24 => ?_) (fun c24_2 => ?_)
  · refine x_aload_n 76 rfl dX11_obeys_75 0 rfl rfl ?_
    refine x_iload_n 77 rfl dX11_obeys_76 1 rfl rfl ?_
    refine x_iload_n 78 rfl dX11_obeys_77 2 rfl rfl ?_
    refine x_cVi 81 rfl lX11_347 dX11_obeys_78 (lyl55 hL) (lys55 hL) (c_X11_huntsKept hL hi hLw hn0) rfl rfl (Nat.le_of_ble_eq_true rfl) (fun r3 M3 hr3 => ?_)
    rw [hr1, hr2] at hr3
    refine y_istore_n 82 rfl dX11_obeys_81 rfl rfl (ls' := [_, _, _, _]) rfl (by decide) ?_
    refine x_aload_n 83 rfl dX11_obeys_82 0 rfl rfl ?_
    refine x_iload_n 84 rfl dX11_obeys_83 3 rfl rfl ?_
    refine x_if_ge 87 94 rfl dX11_obeys_84 (by decide) (fun c84 => ?_) (fun c84 => ?_)
    · refine x_iload_n 95 rfl dX11_obeys_94 3 rfl rfl ?_
      refine x_puti 98 rfl fX11_288 dX11_obeys_95 (lyl55 hL) (lys55 hL) (by decide) ?_
      refine x_iload_n 99 rfl dX11_obeys_98 3 rfl rfl ?_
      refine x_reti dX11_obeys_99 rfl ?_
      have ehd : hd = 21 := by clear hr3; omega
      subst ehd
      rcases hr3 with ⟨h1, h2, h3⟩ | ⟨h1, h0, h2, h3⟩ | ⟨h1, h0, h2, h3, h4⟩ | ⟨h1, h0, h2, g, hg, h3, f, h4⟩
      · exfalso; omega
      · exfalso; omega
      · exfalso; omega
      · obtain ⟨y1, y2, y3, y4⟩ := ob_hunt (r := r3) h4
        exact obQ_yes hi hd4 (by rw [show kap 21 = 16 by decide]; exact ⟨fun _ => .inr (.inr (.inr ⟨h1, h0, h2, by rw [h3, hg]; rfl, rfl⟩)), fun e => absurd e (by decide), fun e => absurd e (by decide), fun e => absurd e (by decide)⟩) (by omega) y1 y2 (by rw [show kap 21 - 16 = 0 by decide]; exact y3) y4 (by rw [if_pos rfl]; exact z_up_eq)
    · refine x_aload_n 88 rfl dX11_obeys_87 0 rfl rfl ?_
      refine x_geti 91 rfl fX11_288 dX11_obeys_88 (lyl55 hL) (lys55 hL) (by decide) ?_
      refine x_goto 95 dX11_obeys_91 (by decide) ?_
      refine x_puti 98 rfl fX11_288 dX11_obeys_95 (lyl55 hL) (lys55 hL) (by decide) ?_
      refine x_iload_n 99 rfl dX11_obeys_98 3 rfl rfl ?_
      refine x_reti dX11_obeys_99 rfl ?_
      have ehd : hd = 21 := by clear hr3; omega
      subst ehd
      rw [z_up_self]
      rcases hr3 with ⟨h1, h2, h3⟩ | ⟨h1, h0, h2, h3⟩ | ⟨h1, h0, h2, h3, h4⟩ | ⟨h1, h0, h2, g, hg, h3, f, h4⟩
      · exact obQ_no hi hd4 (by rw [show kap 21 = 16 by decide]; exact ⟨fun _ => .inl ⟨h1, h2, rfl⟩, fun e => absurd e (by decide), fun e => absurd e (by decide), fun e => absurd e (by decide)⟩) (by omega) (by rw [h3]; exact obF_refl) (by rw [h3]) (by rw [h3]) (by rw [h3]) (by rw [h3])
      · exact obQ_no hi hd4 (by rw [show kap 21 = 16 by decide]; exact ⟨fun _ => .inr (.inl ⟨h1, h0, h2, rfl⟩), fun e => absurd e (by decide), fun e => absurd e (by decide), fun e => absurd e (by decide)⟩) (by omega) (by rw [h3]; exact obF_refl) (by rw [h3]) (by rw [h3]) (by rw [h3]) (by rw [h3])
      · exact obQ_no hi hd4 (by rw [show kap 21 = 16 by decide]; exact ⟨fun _ => .inr (.inr (.inl ⟨h1, h0, h2, h3, rfl⟩)), fun e => absurd e (by decide), fun e => absurd e (by decide), fun e => absurd e (by decide)⟩) (by omega) (by rw [h4]; exact obF_refl) (by rw [h4]) (by rw [h4]) (by rw [h4]) (by rw [h4])
      · have j1 := kH1_KI (Lw := Lw) (w := sm (M 73 1)) (g := (sm (M 73 0)).toNat) hi (by omega) ⟨h1.1, h2.2.2⟩ h2.2.1
        have j2 := z01_sum (zoff01 (Lw := Lw) j1)
        rw [hg] at h3
        exfalso; omega
  refine x_tsC (26) 69 3 dX11_obeys_24 (by decide) (by decide) (by decide) rfl (by decide) (fun c24 => ?_) (fun c24_3 => ?_)
  · refine x_aload_n 70 rfl dX11_obeys_69 0 rfl rfl ?_
    refine x_iload_n 71 rfl dX11_obeys_70 1 rfl rfl ?_
    refine x_cVi 74 rfl lX11_359 dX11_obeys_71 (lyl55 hL) (lys55 hL) (c_X11_leavesKept hL hi hn0) rfl rfl (Nat.le_of_ble_eq_true rfl) (fun r3 M3 hr3 => ?_)
    rw [hr1] at hr3
    refine x_reti dX11_obeys_74 rfl ?_
    have ehd : hd = 26 := by clear hr3; omega
    subst ehd
    rcases hr3 with ⟨h1, h2, h3⟩ | ⟨h1, h2, h3, h4⟩ | ⟨h1, h2, h3, h4⟩
    · exact obQ_no hi hd4 (by rw [show kap 26 = 19 by decide]; exact ⟨fun e => absurd e (by decide), fun e => absurd e (by decide), fun e => absurd e (by decide), fun _ => .inl ⟨h1, h2, rfl⟩⟩) (by omega) (by rw [h3]; exact obF_refl) (by rw [h3]) (by rw [h3]) (by rw [h3]) (by rw [h3])
    · exact obQ_no hi hd4 (by rw [show kap 26 = 19 by decide]; exact ⟨fun e => absurd e (by decide), fun e => absurd e (by decide), fun e => absurd e (by decide), fun _ => .inr (.inl ⟨h1, h2, h3, rfl⟩)⟩) (by omega) (by rw [h4]; exact obF_refl) (by rw [h4]) (by rw [h4]) (by rw [h4]) (by rw [h4])
    · have hb := zcrew_in (kLeave_KI (h := (sm (M 73 0)).toNat) hi (by omega))
      obtain ⟨y1, y2, y3, y4, y5⟩ := zKp_ob (M := M) (x := 3) (k' := kLeave (M 57) (sm (M 73 0)).toNat)
      rw [← h4] at y1 y2 y3 y4 y5
      exact obQ_yes hi hd4 (by rw [show kap 26 = 19 by decide]; exact ⟨fun e => absurd e (by decide), fun e => absurd e (by decide), fun e => absurd e (by decide), fun _ => .inr (.inr ⟨h1, h2, h3, rfl⟩)⟩) (by omega) y1 y2 (by rw [show kap 26 - 16 = 3 by decide]; exact y3) y4 (by rw [if_neg (by decide)]; exact y5)
  refine x_tsOut 75 dX11_obeys_24 (by omega) (by decide) ?_
  refine x_aload_n 76 rfl dX11_obeys_75 0 rfl rfl ?_
  refine x_iload_n 77 rfl dX11_obeys_76 1 rfl rfl ?_
  refine x_iload_n 78 rfl dX11_obeys_77 2 rfl rfl ?_
  refine x_cVi 81 rfl lX11_347 dX11_obeys_78 (lyl55 hL) (lys55 hL) (c_X11_huntsKept hL hi hLw hn0) rfl rfl (Nat.le_of_ble_eq_true rfl) (fun r3 M3 hr3 => ?_)
  rw [hr1, hr2] at hr3
  refine y_istore_n 82 rfl dX11_obeys_81 rfl rfl (ls' := [_, _, _, _]) rfl (by decide) ?_
  refine x_aload_n 83 rfl dX11_obeys_82 0 rfl rfl ?_
  refine x_iload_n 84 rfl dX11_obeys_83 3 rfl rfl ?_
  refine x_if_ge 87 94 rfl dX11_obeys_84 (by decide) (fun c84 => ?_) (fun c84 => ?_)
  · refine x_iload_n 95 rfl dX11_obeys_94 3 rfl rfl ?_
    refine x_puti 98 rfl fX11_288 dX11_obeys_95 (lyl55 hL) (lys55 hL) (by decide) ?_
    refine x_iload_n 99 rfl dX11_obeys_98 3 rfl rfl ?_
    refine x_reti dX11_obeys_99 rfl ?_
    have ehd : hd = 21 := by clear hr3; omega
    subst ehd
    rcases hr3 with ⟨h1, h2, h3⟩ | ⟨h1, h0, h2, h3⟩ | ⟨h1, h0, h2, h3, h4⟩ | ⟨h1, h0, h2, g, hg, h3, f, h4⟩
    · exfalso; omega
    · exfalso; omega
    · exfalso; omega
    · obtain ⟨y1, y2, y3, y4⟩ := ob_hunt (r := r3) h4
      exact obQ_yes hi hd4 (by rw [show kap 21 = 16 by decide]; exact ⟨fun _ => .inr (.inr (.inr ⟨h1, h0, h2, by rw [h3, hg]; rfl, rfl⟩)), fun e => absurd e (by decide), fun e => absurd e (by decide), fun e => absurd e (by decide)⟩) (by omega) y1 y2 (by rw [show kap 21 - 16 = 0 by decide]; exact y3) y4 (by rw [if_pos rfl]; exact z_up_eq)
  · refine x_aload_n 88 rfl dX11_obeys_87 0 rfl rfl ?_
    refine x_geti 91 rfl fX11_288 dX11_obeys_88 (lyl55 hL) (lys55 hL) (by decide) ?_
    refine x_goto 95 dX11_obeys_91 (by decide) ?_
    refine x_puti 98 rfl fX11_288 dX11_obeys_95 (lyl55 hL) (lys55 hL) (by decide) ?_
    refine x_iload_n 99 rfl dX11_obeys_98 3 rfl rfl ?_
    refine x_reti dX11_obeys_99 rfl ?_
    have ehd : hd = 21 := by clear hr3; omega
    subst ehd
    rw [z_up_self]
    rcases hr3 with ⟨h1, h2, h3⟩ | ⟨h1, h0, h2, h3⟩ | ⟨h1, h0, h2, h3, h4⟩ | ⟨h1, h0, h2, g, hg, h3, f, h4⟩
    · exact obQ_no hi hd4 (by rw [show kap 21 = 16 by decide]; exact ⟨fun _ => .inl ⟨h1, h2, rfl⟩, fun e => absurd e (by decide), fun e => absurd e (by decide), fun e => absurd e (by decide)⟩) (by omega) (by rw [h3]; exact obF_refl) (by rw [h3]) (by rw [h3]) (by rw [h3]) (by rw [h3])
    · exact obQ_no hi hd4 (by rw [show kap 21 = 16 by decide]; exact ⟨fun _ => .inr (.inl ⟨h1, h0, h2, rfl⟩), fun e => absurd e (by decide), fun e => absurd e (by decide), fun e => absurd e (by decide)⟩) (by omega) (by rw [h3]; exact obF_refl) (by rw [h3]) (by rw [h3]) (by rw [h3]) (by rw [h3])
    · exact obQ_no hi hd4 (by rw [show kap 21 = 16 by decide]; exact ⟨fun _ => .inr (.inr (.inl ⟨h1, h0, h2, h3, rfl⟩)), fun e => absurd e (by decide), fun e => absurd e (by decide), fun e => absurd e (by decide)⟩) (by omega) (by rw [h4]; exact obF_refl) (by rw [h4]) (by rw [h4]) (by rw [h4]) (by rw [h4])
    · have j1 := kH1_KI (Lw := Lw) (w := sm (M 73 1)) (g := (sm (M 73 0)).toNat) hi (by omega) ⟨h1.1, h2.2.2⟩ h2.2.1
      have j2 := z01_sum (zoff01 (Lw := Lw) j1)
      rw [hg] at h3
      exfalso; omega
