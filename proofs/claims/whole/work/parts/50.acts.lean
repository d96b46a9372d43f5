section Z5
variable {mt mt2 : zMt} {d kc ks kc2 ks2 : Nat} {sc : List Int} {Q Q2 : zQ} {pc : Nat} {ls : zLs} {st : List zV} {sz : Nat} {S : zSh} {M : zMem} {x y : Int} {a n : Nat} {f : Nat → Int}
theorem x_callV5 {idx ci nA : Nat} {as rest : List zV} (pc' : Nat) (hp : pc + 3 = pc') (hl : z_MV mt.1.cls idx mt2 ci nA) (hdg : decode mt.2.1 pc = .ok (.invokevirtual idx, 3)) (ha : a < sz) (hSa : S a = (ci, n, f)) (hX : zX d kc2 ks2 mt2 (zn a :: as) sz S M Q2) (hst : st = as.reverse ++ zn a :: rest) (hnA : as.length = nA) (hre : ∀ E, ((rest.map (z_val E)).map fun v => v.category).sum ≤ 8) (kk : ∀ (v : Option zV) (sz' : Nat) (S' : zSh) (M' : zMem), Q2 v sz' S' M' → zW mt (d + 1) kc ks sc Q pc' ls (v.toList ++ rest) sz' S' M') : zW mt (d + 1) (kc + kc2) (ks + ks2) sc Q pc ls st sz S M := by
  subst hp
  subst hst
  intro E D dA p l e R s m args below meth c QQ hE H locs cells slots lr hR hS0 hc hs ho hL
  have hC := hE.2.2.2.2.2.2.2.2.2.1
  have hts := hE.2.2.2.2.1
  obtain ⟨hB, C, T, N, hcl, h20, h1, h2, h3⟩ := hl
  have hg := z_ws_get (E := E) (dA := dA) (S := S) (M := M) ha
  rw [z_ent_o hSa h20] at hg
  have hM := hX l E D dA (fun v hv => ho v (by
    rcases List.mem_cons.mp hv with rfl | h
    · simp
    · simp [h]))
  have hrun := va_runV (g := F0 m pc lr ((as.reverse ++ zn a :: rest).map (z_val E))) (As := as.map (z_val E)) (rest := rest.map (z_val E)) (b := E.1 + a) (H := H) (locs := locs) (cells := cells) (slots := slots) (e := e) (below := below) (meth := meth) (l := l) (n := nA) (index := idx) (C := C) ⟨hE.1, hE.2.1, hE.2.2.1, hE.2.2.2.1, hts⟩ hM ⟨z_callB (d := d) (R := R) (E := E) hts hB h1 hE.2.2.2.2.2.2.1 hE.2.2.2.2.2.2.2.1, hts _ h2, hts _ h3⟩ ⟨z_blind _ _ _ _ _ _ _, va_recv hC.1 hR.2.1 hcl hg, fun U hU hW => by
      have := z_pre (as := zn a :: as) hR hC hS0 U hU hW
      rwa [List.map_cons, z_vn] at this⟩ rfl (by simpa using hnA) hL.1.1 (by simp [z_vn]) (lv_room (hre E)) hdg ⟨by omega, by omega⟩
  refine z_cont hrun hS0 (fun v sz' S' M' H1 locs1 hq hvo hR1 hS1 => ?_)
  have h9 := kk v sz' S' M' hq E D dA p l e R s m args below meth c QQ hE H1 locs1 (cells + kc2) (slots + ks2) lr hR1 hS1 (by omega) (by omega) (fun u hu => by
    rcases List.mem_append.mp hu with h | h
    · exact hvo u (by simpa using h)
    · exact ho u (by simp [h])) hL
  rw [List.map_append] at h9
  cases v <;> exact h9
end Z5
section Z5
variable {mt mt2 : zMt} {d kc ks : Nat} {sc : List Int} {Q : zQ} {pc : Nat} {ls : zLs} {st : List zV} {sz : Nat} {S : zSh} {M : zMem} {x y : Int} {a n : Nat} {f : Nat → Int} {P : Int → zMem → Prop} {P0 : zMem → Prop}
theorem x_cVi5 {idx ci nA : Nat} {as rest : List zV} (pc' : Nat) (hp : pc + 3 = pc') (hl : z_MV mt.1.cls idx mt2 ci nA) (hdg : decode mt.2.1 pc = .ok (.invokevirtual idx, 3)) (ha : a < sz) (hSa : S a = (ci, n, f)) (hX : zX d 0 0 mt2 (zn a :: as) sz S M (zI sz S P)) (hst : st = as.reverse ++ zn a :: rest) (hnA : as.length = nA) (hre : ∀ E, ((rest.map (z_val E)).map fun v => v.category).sum ≤ 8) (kk : ∀ (r : Int) (M' : zMem), P r M' → zW mt (d + 1) kc ks sc Q pc' ls (zi r :: rest) sz S M') : zW mt (d + 1) kc ks sc Q pc ls st sz S M := by
  refine x_callV5 (kc := kc) (ks := ks) pc' hp hl hdg ha hSa hX hst hnA hre ?_
  rintro v sz1 S1 M1 ⟨r, rfl, rfl, rfl, hP⟩
  exact kk r M1 hP
end Z5
/-! the acts that can be undone -/
/-- a change below 11 alone keeps the rest of it -/
theorem KI_low {k k' : Nat → Int} (hi : KI k) (e : ∀ i, 11 ≤ i → k' i = k i) (e2 : k' 2 = k 2) (h0 : 0 ≤ k' 0 ∧ k' 0 ≤ k 73) (h1 : 0 ≤ k' 1 ∧ k' 1 ≤ 999999) (h3 : ∀ h, h < 8 → 0 ≤ k' (3 + h) ∧ k' (3 + h) ≤ 9999) : KI k' := by
  have i1 := hi.1
  refine ⟨?_, fun j hj => ?_, fun j hj => ?_, fun y hy => ?_, fun n hn => ?_, fun t ht => ?_⟩
  · rw [e2, e 73 (by omega), e 74 (by omega), e 75 (by omega), e 76 (by omega), e 77 (by omega), e 78 (by omega), e 79 (by omega)]
    omega
  · have i2 := hi.2.1 j hj
    rw [e (11 + j) (by omega), e (23 + j) (by omega), e (31 + j) (by omega), e 75 (by omega)]
    exact ⟨h3 j hj, i2.2⟩
  · rw [e (19 + j) (by omega), e (39 + 3 * j) (by omega), e (39 + 3 * j + 1) (by omega), e (39 + 3 * j + 2) (by omega)]
    exact hi.2.2.1 j hj
  · rw [e (51 + y) (by omega)]
    exact hi.2.2.2.1 y hy
  · rw [e (57 + 2 * n) (by omega), e (58 + 2 * n) (by omega), e 77 (by omega), e 75 (by omega)]
    exact hi.2.2.2.2.1 n hn
  · rw [e (80 + t) (by omega)]
    exact hi.2.2.2.2.2 t ht
theorem ku_ne {f : Nat → Int} {i j : Nat} {v : Int} (h : j ≠ i) : ku f i v j = f j := by
  unfold ku
  rw [if_neg h]
theorem KI_ku0 {k : Nat → Int} {v : Int} (hi : KI k) (h : 0 ≤ v ∧ v ≤ k 73) : KI (ku k 0 v) := by
  have i1 := hi.1
  exact KI_low hi (fun i hh => ku_ne (by omega)) (ku_ne (by omega)) (by rw [ku_eq]; exact h) (by rw [ku_ne (by omega)]; omega) (fun j hj => by rw [ku_ne (by omega)]; exact (hi.2.1 j hj).1)
theorem KI_ku1 {k : Nat → Int} {v : Int} (hi : KI k) (h : 0 ≤ v ∧ v ≤ 999999) : KI (ku k 1 v) := by
  have i1 := hi.1
  exact KI_low hi (fun i hh => ku_ne (by omega)) (ku_ne (by omega)) (by rw [ku_ne (by omega)]; omega) (by rw [ku_eq]; exact h) (fun j hj => by rw [ku_ne (by omega)]; exact (hi.2.1 j hj).1)
theorem KI_ku3 {k : Nat → Int} {v : Int} {h : Nat} (hi : KI k) (hh : h < 8) (hv : 0 ≤ v ∧ v ≤ 9999) : KI (ku k (3 + h) v) := by
  have i1 := hi.1
  refine KI_low hi (fun i h9 => ku_ne (by omega)) (ku_ne (by omega)) (by rw [ku_ne (by omega)]; omega) (by rw [ku_ne (by omega)]; omega) (fun j hj => ?_)
  by_cases h9 : j = h
  · subst h9; rw [ku_eq]; exact hv
  · rw [ku_ne (by omega)]; exact (hi.2.1 j hj).1
theorem zprice_ku {k : Nat → Int} {v m : Int} : zprice (ku k 0 v) m = zprice k m := by
  unfold zprice
  exact ku_ne (by omega)
theorem zsell_in {k : Nat → Int} {c : Int} (hi : KI k) (hc : 1 ≤ c ∧ c ≤ 999) : 0 ≤ c * zprice k (k 2) ∧ c * zprice k (k 2) ≤ 98901 := by
  have i1 := hi.1
  have i2 := zprice_in hi (m := k 2) (by omega)
  exact ⟨Int.mul_nonneg (by omega) i2.1, Int.le_trans (Int.mul_le_mul hc.2 i2.2 i2.1 (by decide)) (by decide)⟩
theorem kSell_KI {k : Nat → Int} {c : Int} (hi : KI k) (hc : 1 ≤ c ∧ c ≤ 999) (h : c ≤ k 0) : KI (kSell k c) := by
  have i1 := hi.1
  have i2 := zsell_in hi hc
  exact KI_ku1 (KI_ku0 hi (by omega)) (by omega)
theorem kAdv_KI {k : Nat → Int} {h : Nat} {p : Int} (hi : KI k) (hh : h < 8) (hp : 1 ≤ p ∧ p ≤ k 1) : KI (kAdv k h p) := by
  have i1 := hi.1
  have i2 := hi.2.1 h hh
  exact KI_ku3 (KI_ku1 hi (by omega)) hh (by omega)

set_option maxRecDepth 100000 in
set_option maxHeartbeats 4000000 in
theorem c_X11_sellsKept {d sz : Nat} {S : zSh} {M : zMem} (hL : LY S sz) (hi : KI (M 57)) (hn0 : 0 ≤ M 55 32 ∧ M 55 32 ≤ 16) {x : Int} : zX (d + 2) 0 0 mX11_sellsKept [zn 55, zi x] sz S M (zI sz S (fun r M' => (¬ (1 ≤ x ∧ x ≤ 999) ∧ r = -1 ∧ M' = M) ∨ ((1 ≤ x ∧ x ≤ 999) ∧ M 57 0 < x ∧ r = -3 ∧ M' = M) ∨ ((1 ≤ x ∧ x ≤ 999) ∧ x ≤ M 57 0 ∧ r = kSell (M 57) x 1 ∧ M' = z_mup (zKp M 1) 57 (kSell (M 57) x)))) := by
  have i1 := hi.1
  refine zX_of pl_RX11 [some (zn 55), some (zi x)] 0 rfl rfl ?_
  refine x_iload_n 1 rfl dX11_sellsKept_0 1 rfl rfl ?_
  refine x_iconst 2 rfl dX11_sellsKept_1 (by decide) ?_
  refine x_sipush 5 rfl dX11_sellsKept_2 (by decide) ?_
  refine x_cSi 8 rfl lX11_90 dX11_sellsKept_5 c_X11_lies rfl rfl (Nat.le_of_ble_eq_true rfl) (fun r0 M0 hr0 => ?_)
  obtain ⟨hr, hM0⟩ := hr0
  rw [hM0]
  refine x_if_ne 11 13 rfl dX11_sellsKept_8 (by decide) (fun c8 => ?_) (fun c8 => ?_)
  · have hx : 1 ≤ x ∧ x ≤ 999 := Decidable.byContradiction (fun h9 => by rw [if_neg h9] at hr; omega)
    have i3 := zsell_in hi hx
    refine x_aload_n 14 rfl dX11_sellsKept_13 0 rfl rfl ?_
    refine x_getr 17 rfl fX11_24 dX11_sellsKept_14 (lyl55 hL) (lys55 hL) (by decide) (57) rfl ?_
    refine x_iconst 18 rfl dX11_sellsKept_17 (by decide) ?_
    refine x_ialk 19 rfl dX11_sellsKept_18 (lyl57 hL) (lys57 hL) 0 rfl (by decide) ?_
    refine x_iload_n 20 rfl dX11_sellsKept_19 1 rfl rfl ?_
    refine x_icmp_ge 23 26 rfl dX11_sellsKept_20 (by decide) (fun c20 => ?_) (fun c20 => ?_)
    · refine x_aload_n 27 rfl dX11_sellsKept_26 0 rfl rfl ?_
      refine x_iconst 28 rfl dX11_sellsKept_27 (by decide) ?_
      refine x_cVu 31 rfl lX11_337 dX11_sellsKept_28 (lyl55 hL) (lys55 hL) (c_X11_keeps hL hn0) rfl rfl (Nat.le_of_ble_eq_true rfl) (fun M5 hr5 => ?_)
      have hr5 : M5 = zKp M _ := hr5
      rw [hr5]
      have hk5 : ∀ x, zKp M x 57 = M 57 := fun x => zKp_ne (by decide) (by decide)
      refine x_aload_n 32 rfl dX11_sellsKept_31 0 rfl rfl ?_
      refine x_getr 35 rfl fX11_24 dX11_sellsKept_32 (lyl55 hL) (lys55 hL) (by decide) (57) rfl ?_
      refine x_iconst 36 rfl dX11_sellsKept_35 (by decide) ?_
      refine x_dup2ir 37 rfl dX11_sellsKept_36 ?_
      refine x_ialk 38 rfl dX11_sellsKept_37 (lyl57 hL) (lys57 hL) 0 rfl (by decide) ?_
      rw [hk5]
      refine x_iload_n 39 rfl dX11_sellsKept_38 1 rfl rfl ?_
      refine y_isub 40 rfl dX11_sellsKept_39 (by omega) ?_
      refine x_iastk 41 rfl dX11_sellsKept_40 (lyl57 hL) (lys57 hL) 0 rfl (by decide) ?_
      refine z_mem (M' := (z_mup (zKp M 1) 57 (ku (M 57) 0 (M 57 0 - x)))) (by rw [z_upm, hk5]) ?_
      refine x_aload_n 42 rfl dX11_sellsKept_41 0 rfl rfl ?_
      refine x_getr 45 rfl fX11_24 dX11_sellsKept_42 (lyl55 hL) (lys55 hL) (by decide) (57) rfl ?_
      refine x_iconst 46 rfl dX11_sellsKept_45 (by decide) ?_
      refine x_ldc_w (x := 999999) 49 rfl kX11_343 (by decide) dX11_sellsKept_46 ?_
      refine x_aload_n 50 rfl dX11_sellsKept_49 0 rfl rfl ?_
      refine x_getr 53 rfl fX11_24 dX11_sellsKept_50 (lyl55 hL) (lys55 hL) (by decide) (57) rfl ?_
      refine x_iconst 54 rfl dX11_sellsKept_53 (by decide) ?_
      refine x_ialk 55 rfl dX11_sellsKept_54 (lyl57 hL) (lys57 hL) 1 rfl (by decide) ?_
      rw [show (z_mup (zKp M 1) 57 (ku (M 57) 0 (M 57 0 - x))) 57 1 = M 57 1 by rw [z_mup_eq, ku_ne (by decide)]]
      refine x_iload_n 56 rfl dX11_sellsKept_55 1 rfl rfl ?_
      refine x_aload_n 57 rfl dX11_sellsKept_56 0 rfl rfl ?_
      refine x_aload_n 58 rfl dX11_sellsKept_57 0 rfl rfl ?_
      refine x_getr 61 rfl fX11_24 dX11_sellsKept_58 (lyl55 hL) (lys55 hL) (by decide) (57) rfl ?_
      refine x_iconst 62 rfl dX11_sellsKept_61 (by decide) ?_
      refine x_ialk 63 rfl dX11_sellsKept_62 (lyl57 hL) (lys57 hL) 2 rfl (by decide) ?_
      rw [show (z_mup (zKp M 1) 57 (ku (M 57) 0 (M 57 0 - x))) 57 2 = M 57 2 by rw [z_mup_eq, ku_ne (by decide)]]
      refine x_cVi5 66 rfl lX11_344 dX11_sellsKept_63 (lyl55 hL) (lys55 hL) (c_X11_priceIn (M := (z_mup (zKp M 1) 57 (ku (M 57) 0 (M 57 0 - x)))) hL (by rw [z_mup_eq]; exact KI_ku0 hi (by omega)) (by omega)) rfl rfl (fun _ => Nat.le_of_ble_eq_true rfl) (fun r6 M6 hr6 => ?_)
      obtain ⟨hr7, hM6⟩ := hr6
      rw [z_mup_eq, zprice_ku] at hr7
      subst hr7
      rw [hM6]
      refine y_imul 67 rfl dX11_sellsKept_66 (by omega) ?_
      refine y_iadd 68 rfl dX11_sellsKept_67 (by omega) ?_
      refine x_cSi 71 rfl lX11_325 dX11_sellsKept_68 c_X11_lesser rfl rfl (Nat.le_of_ble_eq_true rfl) (fun r M1 hr1 => ?_)
      obtain ⟨rfl, hM1⟩ := hr1
      rw [hM1]
      refine x_iastk 72 rfl dX11_sellsKept_71 (lyl57 hL) (lys57 hL) 1 rfl (by decide) ?_
      refine z_mem (M' := z_mup (zKp M 1) 57 (kSell (M 57) x)) (by rw [z_mupm]; rfl) ?_
      refine x_aload_n 73 rfl dX11_sellsKept_72 0 rfl rfl ?_
      refine x_getr 76 rfl fX11_24 dX11_sellsKept_73 (lyl55 hL) (lys55 hL) (by decide) (57) rfl ?_
      refine x_iconst 77 rfl dX11_sellsKept_76 (by decide) ?_
      refine x_ialk 78 rfl dX11_sellsKept_77 (lyl57 hL) (lys57 hL) 1 rfl (by decide) ?_
      refine x_reti dX11_sellsKept_78 rfl ?_
      exact Or.inr (Or.inr ⟨hx, by omega, by rw [z_mup_eq], rfl⟩)
    · refine x_bipush 25 rfl dX11_sellsKept_23 (by decide) ?_
      refine x_reti dX11_sellsKept_25 rfl ?_
      exact Or.inr (Or.inl ⟨hx, by omega, rfl, rfl⟩)
  · refine x_iconst 12 rfl dX11_sellsKept_11 (by decide) ?_
    refine x_reti dX11_sellsKept_12 rfl ?_
    refine Or.inl ⟨fun h9 => ?_, rfl, rfl⟩
    rw [if_pos h9] at hr
    omega

set_option maxRecDepth 100000 in
set_option maxHeartbeats 4000000 in
theorem c_X11_advancesKept {d sz : Nat} {S : zSh} {M : zMem} (hL : LY S sz) (hi : KI (M 57)) (hn0 : 0 ≤ M 55 32 ∧ M 55 32 ≤ 16) {x y : Int} : zX (d + 2) 0 0 mX11_advancesKept [zn 55, zi x, zi y] sz S M (zI sz S (fun r M' => (¬ (1 ≤ y ∧ y ≤ 9999) ∧ r = -1 ∧ M' = M) ∨ ((1 ≤ y ∧ y ≤ 9999) ∧ ¬ (0 ≤ x ∧ x < M 57 75) ∧ r = -2 ∧ M' = M) ∨ ((1 ≤ y ∧ y ≤ 9999) ∧ (0 ≤ x ∧ x < M 57 75) ∧ (M 57 (11 + x.toNat) = 0 ∨ M 57 1 < y) ∧ r = -3 ∧ M' = M) ∨ ((1 ≤ y ∧ y ≤ 9999) ∧ (0 ≤ x ∧ x < M 57 75) ∧ M 57 (11 + x.toNat) = 1 ∧ y ≤ M 57 1 ∧ r = kAdv (M 57) x.toNat y (3 + x.toNat) ∧ M' = z_mup (zKp M 2) 57 (kAdv (M 57) x.toNat y)))) := by
  have i1 := hi.1
  refine zX_of pl_RX11 [some (zn 55), some (zi x), some (zi y)] 0 rfl rfl ?_
  refine x_iload_n 1 rfl dX11_advancesKept_0 2 rfl rfl ?_
  refine x_iconst 2 rfl dX11_advancesKept_1 (by decide) ?_
  refine x_sipush 5 rfl dX11_advancesKept_2 (by decide) ?_
  refine x_cSi 8 rfl lX11_90 dX11_advancesKept_5 c_X11_lies rfl rfl (Nat.le_of_ble_eq_true rfl) (fun r0 M0 hr0 => ?_)
  obtain ⟨hr, hM0⟩ := hr0
  rw [hM0]
  refine x_if_ne 11 13 rfl dX11_advancesKept_8 (by decide) (fun c8 => ?_) (fun c8 => ?_)
  · have hy : 1 ≤ y ∧ y ≤ 9999 := Decidable.byContradiction (fun h9 => by rw [if_neg h9] at hr; omega)
    refine x_aload_n 14 rfl dX11_advancesKept_13 0 rfl rfl ?_
    refine x_iload_n 15 rfl dX11_advancesKept_14 1 rfl rfl ?_
    refine x_cVi 18 rfl lX11_100 dX11_advancesKept_15 (lyl55 hL) (lys55 hL) (c_X11_isHand hL hi) rfl rfl (Nat.le_of_ble_eq_true rfl) (fun r1 M1 hr1 => ?_)
    obtain ⟨hr2, hM1⟩ := hr1
    rw [hM1]
    refine x_if_ne 21 24 rfl dX11_advancesKept_18 (by decide) (fun c18 => ?_) (fun c18 => ?_)
    · have hx : 0 ≤ x ∧ x < M 57 75 := Decidable.byContradiction (fun h9 => by rw [if_neg h9] at hr2; omega)
      have i2 := hi.2.1 x.toNat (by omega)
      have e3 : ((3 : Int) + x).toNat = 3 + x.toNat := by omega
      refine x_aload_n 25 rfl dX11_advancesKept_24 0 rfl rfl ?_
      refine x_iload_n 26 rfl dX11_advancesKept_25 1 rfl rfl ?_
      refine x_cVi 29 rfl lX11_118 dX11_advancesKept_26 (lyl55 hL) (lys55 hL) (c_X11_isAboard hL hi (by omega)) rfl rfl (Nat.le_of_ble_eq_true rfl) (fun r2 M2 hr2a => ?_)
      obtain ⟨hr3, hM2⟩ := hr2a
      rw [hM2]
      refine x_if_eq 32 42 rfl dX11_advancesKept_29 (by decide) (fun c29 => ?_) (fun c29 => ?_)
      · refine x_bipush 44 rfl dX11_advancesKept_42 (by decide) ?_
        refine x_reti dX11_advancesKept_44 rfl ?_
        exact Or.inr (Or.inr (Or.inl ⟨hy, hx, Or.inl (by omega), rfl, rfl⟩))
      · refine x_aload_n 33 rfl dX11_advancesKept_32 0 rfl rfl ?_
        refine x_getr 36 rfl fX11_24 dX11_advancesKept_33 (lyl55 hL) (lys55 hL) (by decide) (57) rfl ?_
        refine x_iconst 37 rfl dX11_advancesKept_36 (by decide) ?_
        refine x_ialk 38 rfl dX11_advancesKept_37 (lyl57 hL) (lys57 hL) 1 rfl (by decide) ?_
        refine x_iload_n 39 rfl dX11_advancesKept_38 2 rfl rfl ?_
        refine x_icmp_ge 42 45 rfl dX11_advancesKept_39 (by decide) (fun c39 => ?_) (fun c39 => ?_)
        · refine x_aload_n 46 rfl dX11_advancesKept_45 0 rfl rfl ?_
          refine x_iconst 47 rfl dX11_advancesKept_46 (by decide) ?_
          refine x_cVu 50 rfl lX11_337 dX11_advancesKept_47 (lyl55 hL) (lys55 hL) (c_X11_keeps hL hn0) rfl rfl (Nat.le_of_ble_eq_true rfl) (fun M5 hr5 => ?_)
          have hr5 : M5 = zKp M _ := hr5
          rw [hr5]
          have hk5 : ∀ x, zKp M x 57 = M 57 := fun x => zKp_ne (by decide) (by decide)
          refine x_aload_n 51 rfl dX11_advancesKept_50 0 rfl rfl ?_
          refine x_getr 54 rfl fX11_24 dX11_advancesKept_51 (lyl55 hL) (lys55 hL) (by decide) (57) rfl ?_
          refine x_iconst 55 rfl dX11_advancesKept_54 (by decide) ?_
          refine x_dup2ir 56 rfl dX11_advancesKept_55 ?_
          refine x_ialk 57 rfl dX11_advancesKept_56 (lyl57 hL) (lys57 hL) 1 rfl (by decide) ?_
          rw [hk5]
          refine x_iload_n 58 rfl dX11_advancesKept_57 2 rfl rfl ?_
          refine y_isub 59 rfl dX11_advancesKept_58 (by omega) ?_
          refine x_iastk 60 rfl dX11_advancesKept_59 (lyl57 hL) (lys57 hL) 1 rfl (by decide) ?_
          refine z_mem (M' := (z_mup (zKp M 2) 57 (ku (M 57) 1 (M 57 1 - y)))) (by rw [z_upm, hk5]) ?_
          refine x_aload_n 61 rfl dX11_advancesKept_60 0 rfl rfl ?_
          refine x_getr 64 rfl fX11_24 dX11_advancesKept_61 (lyl55 hL) (lys55 hL) (by decide) (57) rfl ?_
          refine x_iconst 65 rfl dX11_advancesKept_64 (by decide) ?_
          refine x_iload_n 66 rfl dX11_advancesKept_65 1 rfl rfl ?_
          refine y_iadd 67 rfl dX11_advancesKept_66 (by omega) ?_
          refine x_sipush 70 rfl dX11_advancesKept_67 (by decide) ?_
          refine x_aload_n 71 rfl dX11_advancesKept_70 0 rfl rfl ?_
          refine x_getr 74 rfl fX11_24 dX11_advancesKept_71 (lyl55 hL) (lys55 hL) (by decide) (57) rfl ?_
          refine x_iconst 75 rfl dX11_advancesKept_74 (by decide) ?_
          refine x_iload_n 76 rfl dX11_advancesKept_75 1 rfl rfl ?_
          refine y_iadd 77 rfl dX11_advancesKept_76 (by omega) ?_
          refine x_iald 78 rfl dX11_advancesKept_77 (lyl57 hL) (lys57 hL) (by omega) (by omega) ?_
          rw [e3, show (z_mup (zKp M 2) 57 (ku (M 57) 1 (M 57 1 - y))) 57 (3 + x.toNat) = M 57 (3 + x.toNat) by rw [z_mup_eq, ku_ne (by omega)]]
          refine x_iload_n 79 rfl dX11_advancesKept_78 2 rfl rfl ?_
          refine y_iadd 80 rfl dX11_advancesKept_79 (by omega) ?_
          refine x_cSi 83 rfl lX11_325 dX11_advancesKept_80 c_X11_lesser rfl rfl (Nat.le_of_ble_eq_true rfl) (fun r M1 hr1 => ?_)
          obtain ⟨rfl, hM1⟩ := hr1
          rw [hM1]
          refine x_iast 84 rfl dX11_advancesKept_83 (lyl57 hL) (lys57 hL) (by omega) (by omega) ?_
          refine z_mem (M' := z_mup (zKp M 2) 57 (kAdv (M 57) x.toNat y)) (by rw [e3, z_mupm]; rfl) ?_
          refine x_aload_n 85 rfl dX11_advancesKept_84 0 rfl rfl ?_
          refine x_getr 88 rfl fX11_24 dX11_advancesKept_85 (lyl55 hL) (lys55 hL) (by decide) (57) rfl ?_
          refine x_iconst 89 rfl dX11_advancesKept_88 (by decide) ?_
          refine x_iload_n 90 rfl dX11_advancesKept_89 1 rfl rfl ?_
          refine y_iadd 91 rfl dX11_advancesKept_90 (by omega) ?_
          refine x_iald 92 rfl dX11_advancesKept_91 (lyl57 hL) (lys57 hL) (by omega) (by omega) ?_
          rw [e3]
          refine x_reti dX11_advancesKept_92 rfl ?_
          exact Or.inr (Or.inr (Or.inr ⟨hy, hx, by omega, by omega, by rw [z_mup_eq], rfl⟩))
        · refine x_bipush 44 rfl dX11_advancesKept_42 (by decide) ?_
          refine x_reti dX11_advancesKept_44 rfl ?_
          exact Or.inr (Or.inr (Or.inl ⟨hy, hx, Or.inr (by omega), rfl, rfl⟩))
    · refine x_bipush 23 rfl dX11_advancesKept_21 (by decide) ?_
      refine x_reti dX11_advancesKept_23 rfl ?_
      refine Or.inr (Or.inl ⟨hy, fun h9 => ?_, rfl, rfl⟩)
      rw [if_pos h9] at hr2
      omega
  · refine x_iconst 12 rfl dX11_advancesKept_11 (by decide) ?_
    refine x_reti dX11_advancesKept_12 rfl ?_
    refine Or.inl ⟨fun h9 => ?_, rfl, rfl⟩
    rw [if_pos h9] at hr
    omega

set_option maxRecDepth 100000 in
set_option maxHeartbeats 4000000 in
theorem c_X11_huntsKept {d sz : Nat} {S : zSh} {M : zMem} (hL : LY S sz) (hi : KI (M 57)) {Lw : List gC} (hLw : LwI (M 57) Lw) (hn0 : 0 ≤ M 55 32 ∧ M 55 32 ≤ 16) {x y : Int} : zX (d + 46) 0 0 mX11_huntsKept [zn 55, zi x, zi y] sz S M (zI sz S (fun r M' => (¬ (0 ≤ y ∧ y ≤ 3) ∧ r = -1 ∧ M' = M) ∨ ((0 ≤ y ∧ y ≤ 3) ∧ ¬ (0 ≤ x ∧ x < M 57 76) ∧ r = -2 ∧ M' = M) ∨ ((0 ≤ y ∧ y ≤ 3) ∧ (0 ≤ x ∧ x < M 57 76) ∧ ¬ (0 < zcrew (M 57) ∧ M 57 2 < 71 ∧ y ≤ M 57 (19 + x.toNat)) ∧ r = -3 ∧ M' = M) ∨ ((0 ≤ y ∧ y ≤ 3) ∧ (0 ≤ x ∧ x < M 57 76) ∧ (0 < zcrew (M 57) ∧ M 57 2 < 71 ∧ y ≤ M 57 (19 + x.toNat)) ∧ ∃ g, g = zoffI Lw (kH1 Lw (M 57) x.toNat y) ∧ r = g 0 + g 1 + g 2 + g 3 + g 4 + g 5 + g 6 + g 7 ∧ ∃ f, mF (z_mup (z_mup (zKp M 0) 68 f) 57 (kH2 Lw (kH1 Lw (M 57) x.toNat y))) M'))) := by
  have i1 := hi.1
  refine zX_of pl_RX11 [some (zn 55), some (zi x), some (zi y)] 0 rfl rfl ?_
  refine x_iload_n 1 rfl dX11_huntsKept_0 2 rfl rfl ?_
  refine x_iconst 2 rfl dX11_huntsKept_1 (by decide) ?_
  refine x_iconst 3 rfl dX11_huntsKept_2 (by decide) ?_
  refine x_cSi 6 rfl lX11_90 dX11_huntsKept_3 c_X11_lies rfl rfl (Nat.le_of_ble_eq_true rfl) (fun r0 M0 hr0 => ?_)
  obtain ⟨hr, hM0⟩ := hr0
  rw [hM0]
  refine x_if_ne 9 11 rfl dX11_huntsKept_6 (by decide) (fun c6 => ?_) (fun c6 => ?_)
  · have hy : 0 ≤ y ∧ y ≤ 3 := Decidable.byContradiction (fun h9 => by rw [if_neg h9] at hr; omega)
    refine x_aload_n 12 rfl dX11_huntsKept_11 0 rfl rfl ?_
    refine x_iload_n 13 rfl dX11_huntsKept_12 1 rfl rfl ?_
    refine x_cVi 16 rfl lX11_129 dX11_huntsKept_13 (lyl55 hL) (lys55 hL) (c_X11_isGround hL hi) rfl rfl (Nat.le_of_ble_eq_true rfl) (fun r1 M1 hr1 => ?_)
    obtain ⟨hr2, hM1⟩ := hr1
    rw [hM1]
    refine x_if_ne 19 22 rfl dX11_huntsKept_16 (by decide) (fun c16 => ?_) (fun c16 => ?_)
    · have hx : 0 ≤ x ∧ x < M 57 76 := Decidable.byContradiction (fun h9 => by rw [if_neg h9] at hr2; omega)
      have e19 : ((19 : Int) + x).toNat = 19 + x.toNat := by omega
      refine x_aload_n 23 rfl dX11_huntsKept_22 0 rfl rfl ?_
      refine x_cVi 26 rfl lX11_334 dX11_huntsKept_23 (lyl55 hL) (lys55 hL) (c_X11_canSail hL hi) rfl rfl (Nat.le_of_ble_eq_true rfl) (fun r2 M2 hr2a => ?_)
      obtain ⟨hr3, hM2⟩ := hr2a
      rw [hM2]
      refine x_if_eq 29 42 rfl dX11_huntsKept_26 (by decide) (fun c26 => ?_) (fun c26 => ?_)
      · refine x_bipush 44 rfl dX11_huntsKept_42 (by decide) ?_
        refine x_reti dX11_huntsKept_44 rfl ?_
        refine Or.inr (Or.inr (Or.inl ⟨hy, hx, fun h9 => ?_, rfl, rfl⟩))
        rw [if_pos ⟨h9.1, h9.2.1⟩] at hr3
        omega
      · have hcs : 0 < zcrew (M 57) ∧ M 57 2 < 71 := Decidable.byContradiction (fun h9 => by rw [if_neg h9] at hr3; omega)
        refine x_iload_n 30 rfl dX11_huntsKept_29 2 rfl rfl ?_
        refine x_aload_n 31 rfl dX11_huntsKept_30 0 rfl rfl ?_
        refine x_getr 34 rfl fX11_24 dX11_huntsKept_31 (lyl55 hL) (lys55 hL) (by decide) (57) rfl ?_
        refine x_bipush 36 rfl dX11_huntsKept_34 (by decide) ?_
        refine x_iload_n 37 rfl dX11_huntsKept_36 1 rfl rfl ?_
        refine y_iadd 38 rfl dX11_huntsKept_37 (by omega) ?_
        refine x_iald 39 rfl dX11_huntsKept_38 (lyl57 hL) (lys57 hL) (by omega) (by omega) ?_
        rw [e19]
        refine x_icmp_le 42 45 rfl dX11_huntsKept_39 (by decide) (fun c39 => ?_) (fun c39 => ?_)
        · refine x_aload_n 46 rfl dX11_huntsKept_45 0 rfl rfl ?_
          refine x_iconst 47 rfl dX11_huntsKept_46 (by decide) ?_
          refine x_cVu 50 rfl lX11_337 dX11_huntsKept_47 (lyl55 hL) (lys55 hL) (c_X11_keeps hL hn0) rfl rfl (Nat.le_of_ble_eq_true rfl) (fun M5 hr5 => ?_)
          have hr5 : M5 = zKp M _ := hr5
          rw [hr5]
          have hk5 : ∀ x, zKp M x 57 = M 57 := fun x => zKp_ne (by decide) (by decide)
          refine x_aload_n 51 rfl dX11_huntsKept_50 0 rfl rfl ?_
          refine x_iload_n 52 rfl dX11_huntsKept_51 1 rfl rfl ?_
          refine x_iload_n 53 rfl dX11_huntsKept_52 2 rfl rfl ?_
          refine x_cVi 56 rfl lX11_340 dX11_huntsKept_53 (lyl55 hL) (lys55 hL) (c_X11_hunts (Lw := Lw) hL (by rw [hk5]; exact hi) (by rw [hk5]; exact hLw) (by omega) hy (by rw [hk5]; omega) (by rw [hk5]; omega)) rfl rfl (Nat.le_of_ble_eq_true rfl) (fun r6 M6 hr6 => ?_)
          obtain ⟨g, hg, hr7, f, hm6⟩ := hr6
          rw [hk5] at hg hm6
          refine x_reti dX11_huntsKept_56 rfl ?_
          exact Or.inr (Or.inr (Or.inr ⟨hy, hx, ⟨hcs.1, hcs.2, by omega⟩, g, hg, hr7, f, hm6⟩))
        · refine x_bipush 44 rfl dX11_huntsKept_42 (by decide) ?_
          refine x_reti dX11_huntsKept_44 rfl ?_
          exact Or.inr (Or.inr (Or.inl ⟨hy, hx, fun h9 => by omega, rfl, rfl⟩))
    · refine x_bipush 21 rfl dX11_huntsKept_19 (by decide) ?_
      refine x_reti dX11_huntsKept_21 rfl ?_
      refine Or.inr (Or.inl ⟨hy, fun h9 => ?_, rfl, rfl⟩)
      rw [if_pos h9] at hr2
      omega
  · refine x_iconst 10 rfl dX11_huntsKept_9 (by decide) ?_
    refine x_reti dX11_huntsKept_10 rfl ?_
    refine Or.inl ⟨fun h9 => ?_, rfl, rfl⟩
    rw [if_pos h9] at hr
    omega
