/-! the words of the class -/
section ZS
variable {mt : zMt} {d kc ks : Nat} {sc : List Int} {Q : zQ} {pc : Nat} {ls : zLs} {st rest : List zV} {sz : Nat} {S : zSh} {M : zMem} {x : Int}
theorem x_ldcS (pc' : Nat) (hp : pc + 2 = pc') (hcls : mt.1.cls = RX6) (hdg : decode mt.2.1 pc = .ok (.ldc 93, 2)) (k : zW mt d kc ks sc Q pc' ls (zr (-3) :: st) sz S M) : zW mt d kc ks sc Q pc ls st sz S M := by
  subst hp
  intro E D dA p l e R s m args below meth c QQ hE H locs cells slots lr hR hS hc hs ho hL
  have h2 := k E D dA p l e R s m args below meth c QQ hE H locs cells slots lr hR hS hc hs (z_oks1 (v := zr (-3)) trivial ho) hL
  have e2 : z_val E (zr (-3)) = .ref E.2.2 := by simp [z_val, z_rf]
  simp only [List.map_cons, e2] at h2
  have hf := hE.2.2.2.1
  rw [hcls] at hf
  exact va_ldcS hE.1 hE.2.1 hf hE.2.2.2.2.2.2.2.2.2.1.2.2.2.2.1 hdg h2
theorem x_lenS (hcls : mt.1.cls = RX6) (pc' : Nat) (hp : pc + 3 = pc') (hdg : decode mt.2.1 pc = .ok (.invokevirtual 95, 3)) (hre : rest.length ≤ 4) (kk : zW mt (d + 2) kc ks sc Q pc' ls (zi 141 :: rest) sz S M) : zW mt (d + 2) kc ks sc Q pc ls (zr (-3) :: rest) sz S M := by
  subst hp
  intro E D dA p l e R s m args below meth c QQ hE H locs cells slots lr hR hS0 hc hs ho hL
  have hC := hE.2.2.2.2.2.2.2.2.2.1
  have hts := hE.2.2.2.2.1
  have hf := hE.2.2.2.1
  rw [hcls] at hf
  have eR : z_val E (zr (-3)) = .ref E.2.2 := by simp [z_val, z_rf]
  obtain ⟨cell, g1, g2, g3, g4⟩ := hC.2.2.2.2.2.1
  have hM := c_Jlen (d := d) (sz := sz) (S := S) (M := M) l E D dA (fun v hv => by simp at hv; subst hv; trivial)
  have hrun := va_runV (R := R) (g := F0 m pc lr ((zr (-3) :: rest).map (z_val E))) (As := []) (rest := rest.map (z_val E)) (b := E.2.2) (C := RJ0) (H := H) (locs := locs) (cells := cells) (slots := slots) (e := e) (below := below) (meth := meth) (l := l) (n := 0) (index := 95) ⟨hE.1, hE.2.1, hE.2.2.1, hf, hts⟩ hM ⟨z_callB (d := d + 1) (R := R) (E := E) hts mb_mJlen sl_len hE.2.2.2.2.2.2.1 hE.2.2.2.2.2.2.2.1, hts _ si_len, hts _ ss_len⟩ ⟨z_blind _ _ _ _ _ _ _, ⟨cell, by rw [hS0.2.1 _ (Array.getElem?_eq_some_iff.mp g1).1 g4]; exact g1, g2, g3⟩, fun U hU hW => by
    have := z_pre (as := [zr (-3)]) hR hC hS0 U hU hW
    rwa [List.map_cons, eR] at this⟩ rfl rfl hL.1.1 (by simp [eR]) (lv_room (z_rest hre)) hdg ⟨by omega, by omega⟩
  refine z_cont hrun hS0 (fun v sz' S' M' H1 locs1 hq hvo hR1 hS1 => ?_)
  obtain ⟨r, rfl, rfl, rfl, rfl, rfl⟩ := hq
  exact kk E D dA p l e R s m args below meth c QQ hE H1 locs1 (cells + 0) (slots + 0) lr hR1 hS1 (by omega) (by omega) (z_oks1 (v := zi 141) (hvo _ rfl) (fun u hu => ho u (by simp [hu]))) hL
theorem x_chaS (hcls : mt.1.cls = RX6) (pc' : Nat) (hp : pc + 3 = pc') (hdg : decode mt.2.1 pc = .ok (.invokevirtual 101, 3)) (hx : 0 ≤ x ∧ x < 141) (hre : rest.length ≤ 4) (kk : zW mt (d + 4) kc ks sc Q pc' ls (zi ((z_wbs.getD x.toNat 0 : Nat) : Int) :: rest) sz S M) : zW mt (d + 4) kc ks sc Q pc ls (zi x :: zr (-3) :: rest) sz S M := by
  subst hp
  intro E D dA p l e R s m args below meth c QQ hE H locs cells slots lr hR hS0 hc hs ho hL
  have hC := hE.2.2.2.2.2.2.2.2.2.1
  have hts := hE.2.2.2.2.1
  have hf := hE.2.2.2.1
  rw [hcls] at hf
  have eR : z_val E (zr (-3)) = .ref E.2.2 := by simp [z_val, z_rf]
  obtain ⟨cell, g1, g2, g3, g4⟩ := hC.2.2.2.2.2.1
  have hM := c_Jcha (d := d) (sz := sz) (S := S) (M := M) hx l E D dA (fun v hv => by
    simp at hv
    rcases hv with rfl | rfl
    · trivial
    · exact ho (zi x) (by simp))
  have hrun := va_runV (R := R) (g := F0 m pc lr ((zi x :: zr (-3) :: rest).map (z_val E))) (As := [z_val E (zi x)]) (rest := rest.map (z_val E)) (b := E.2.2) (C := RJ0) (H := H) (locs := locs) (cells := cells) (slots := slots) (e := e) (below := below) (meth := meth) (l := l) (n := 1) (index := 101) ⟨hE.1, hE.2.1, hE.2.2.1, hf, hts⟩ hM ⟨z_callB (d := d + 3) (R := R) (E := E) hts mb_mJcha sl_cha hE.2.2.2.2.2.2.1 hE.2.2.2.2.2.2.2.1, hts _ si_cha, hts _ ss_cha⟩ ⟨z_blind _ _ _ _ _ _ _, ⟨cell, by rw [hS0.2.1 _ (Array.getElem?_eq_some_iff.mp g1).1 g4]; exact g1, g2, g3⟩, fun U hU hW => by
    have := z_pre (as := [zr (-3), zi x]) hR hC hS0 U hU hW
    rwa [List.map_cons, eR] at this⟩ rfl rfl hL.1.1 (by simp [eR]) (lv_room (z_rest hre)) hdg ⟨by omega, by omega⟩
  refine z_cont hrun hS0 (fun v sz' S' M' H1 locs1 hq hvo hR1 hS1 => ?_)
  obtain ⟨r, rfl, rfl, rfl, rfl, rfl⟩ := hq
  exact kk E D dA p l e R s m args below meth c QQ hE H1 locs1 (cells + 0) (slots + 0) lr hR1 hS1 (by omega) (by omega) (z_oks1 (v := zi ((z_wbs.getD x.toNat 0 : Nat) : Int)) (hvo _ rfl) (fun u hu => ho u (by simp [hu]))) hL
end ZS
theorem WC_let : ∀ x ∈ WC, ∀ c ∈ x, 97 ≤ c ∧ c ≤ 122 := by decide +kernel
theorem WC_len : (wfl WC).length = 141 := by decide +kernel
theorem WC_cnt : WC.length = 27 := by decide +kernel
theorem WC_str : ∀ i, i < 141 → ((z_wbs.getD i 0 : Nat) : Int) = (wfl WC).getD i 0 := by decide +kernel

set_option maxRecDepth 100000 in
set_option maxHeartbeats 4000000 in
theorem c_X6_wordAt {d sz : Nat} {S : zSh} {M : zMem} (hL : LY S sz) {k to : Nat} (hk : k < to) (ht : to ≤ 400) (hB : ∀ i, 0 ≤ M 31 i ∧ M 31 i ≤ 255) : zX (d + 5) 0 0 mX6_wordAt [zn 30, zi (k : Int), zi (to : Int)] sz S M (zI sz S (fun r M' => r = wlN 30 WC 0 (wsg (M 31) k (to - k)) ∧ M' = M)) := by
  obtain ⟨R, hR⟩ : ∃ R, wlN 30 WC 0 (wsg (M 31) k (to - k)) = R := ⟨_, rfl⟩
  rw [hR]
  have outer : ∀ (rest : List (List Int)) (kk : Nat) (w : Int), (∀ i, i < (wfl rest).length → ((z_wbs.getD (kk + i) 0 : Nat) : Int) = (wfl rest).getD i 0) → kk + (wfl rest).length = 141 → (∀ x ∈ rest, ∀ c ∈ x, 97 ≤ c ∧ c ≤ 122) → wlN 30 rest w (wsg (M 31) k (to - k)) = R → (0 ≤ w ∧ w + rest.length ≤ 28) → zW mX6_wordAt (d + 5) 0 0 [] (zI sz S (fun r M' => r = R ∧ M' = M)) 11 [some (zn 30), some (zi (k : Int)), some (zi (to : Int)), some (zi w), some (zi (k : Int)), some (zi 1), some (zi (kk : Int)), none] [] sz S M := by
    intro rest
    induction rest with
    | nil =>
      intro kk w h1 h2 h3 h4 h5
      have h2 : kk = 141 := h2
      have h4 : (30 : Int) = R := h4
      refine x_iload 13 rfl dX6_wordAt_11 rfl ?_
      refine x_ldcS 15 rfl rfl dX6_wordAt_13 ?_
      refine x_lenS rfl 18 rfl dX6_wordAt_15 (Nat.le_of_ble_eq_true rfl) ?_
      refine x_icmp_ge 21 100 rfl dX6_wordAt_18 (by decide) (fun c18 => ?_) (fun c18 => ?_)
      · refine x_bipush 102 rfl dX6_wordAt_100 (by decide) ?_
        refine x_reti dX6_wordAt_102 rfl ?_
        exact ⟨h4, rfl⟩
      · exfalso; omega
    | cons x t ih =>
      intro kk w h1 h2 h3 h4 h5
      rw [wfl_len] at h1 h2
      simp only [List.length_cons] at h5
      have hx := h3 x (by simp)
      have hlet : ∀ i, i < x.length → ((z_wbs.getD (kk + i) 0 : Nat) : Int) = x.getD i 0 ∧ 97 ≤ x.getD i 0 ∧ x.getD i 0 ≤ 122 := fun i hi => ⟨by rw [h1 i (by omega), wfl_lt hi], hx _ (getD_mem hi)⟩
      have hsp : ((z_wbs.getD (kk + x.length) 0 : Nat) : Int) = 32 := by rw [h1 x.length (by omega), wfl_eq]
      have next : wsg (M 31) k (to - k) ≠ x → zW mX6_wordAt (d + 5) 0 0 [] (zI sz S (fun r M' => r = R ∧ M' = M)) 11 [some (zn 30), some (zi (k : Int)), some (zi (to : Int)), some (zi (w + 1)), some (zi (k : Int)), some (zi 1), some (zi ((kk + x.length + 1 : Nat) : Int)), none] [] sz S M := fun hne => ih (kk + x.length + 1) (w + 1) (fun i hi => by rw [show kk + x.length + 1 + i = kk + (x.length + 1 + i) by omega, h1 _ (by omega), wfl_gt]) (by omega) (fun y hy => h3 y (by simp [hy])) (by rw [← h4]; simp only [wlN]; rw [if_neg hne]) (by omega)
      have inner : ∀ (q i : Nat) (ok a : Int), x.length < q + i → i ≤ x.length → a = (k : Int) + (i : Int) → ((ok = 1 ∧ k + i ≤ to ∧ ∀ j, j < i → M 31 (k + j) = x.getD j 0) ∨ (ok = 0 ∧ wsg (M 31) k (to - k) ≠ x)) → zW mX6_wordAt (d + 5) 0 0 [] (zI sz S (fun r M' => r = R ∧ M' = M)) 11 [some (zn 30), some (zi (k : Int)), some (zi (to : Int)), some (zi w), some (zi a), some (zi ok), some (zi ((kk + i : Nat) : Int)), none] [] sz S M := by
        intro q
        induction q with
        | zero => intro i ok a h6 h7; omega
        | succ q ih2 =>
          intro i ok a h6 h7 ha h8
          refine x_iload 13 rfl dX6_wordAt_11 rfl ?_
          refine x_ldcS 15 rfl rfl dX6_wordAt_13 ?_
          refine x_lenS rfl 18 rfl dX6_wordAt_15 (Nat.le_of_ble_eq_true rfl) ?_
          refine x_icmp_ge 21 100 rfl dX6_wordAt_18 (by decide) (fun c18 => ?_) (fun c18 => ?_)
          · exfalso; omega
          · refine x_ldcS 23 rfl rfl dX6_wordAt_21 ?_
            refine x_iload 25 rfl dX6_wordAt_23 rfl ?_
            refine x_chaS rfl 28 rfl dX6_wordAt_25 (by omega) (Nat.le_of_ble_eq_true rfl) ?_
            rw [show ((kk + i : Nat) : Int).toNat = kk + i by omega]
            refine y_istore 30 rfl dX6_wordAt_28 rfl (ls' := [_, _, _, _, _, _, _, _]) rfl (by decide) ?_
            refine x_iload 32 rfl dX6_wordAt_30 rfl ?_
            refine x_bipush 34 rfl dX6_wordAt_32 (by decide) ?_
            refine x_icmp_eq 37 72 rfl dX6_wordAt_34 (by decide) (fun c34 => ?_) (fun c34 => ?_)
            · have h9 : i = x.length := by
                rcases Nat.lt_or_ge i x.length with h | h
                · have := hlet i h; omega
                · omega
              refine x_iload 74 rfl dX6_wordAt_72 rfl ?_
              refine x_if_eq 77 85 rfl dX6_wordAt_74 (by decide) (fun c74 => ?_) (fun c74 => ?_)
              · refine w_iinc 88 rfl dX6_wordAt_85 rfl (by decide) (by omega) rfl (ls' := [_, _, _, _, _, _, _, _]) rfl (by decide) ?_
                refine x_iload_n 89 rfl dX6_wordAt_88 1 rfl rfl ?_
                refine y_istore 91 rfl dX6_wordAt_89 rfl (ls' := [_, _, _, _, _, _, _, _]) rfl (by decide) ?_
                refine x_iconst 92 rfl dX6_wordAt_91 (by decide) ?_
                refine y_istore 94 rfl dX6_wordAt_92 rfl (ls' := [_, _, _, _, _, _, _, _]) rfl (by decide) ?_
                refine w_iinc 97 rfl dX6_wordAt_94 rfl (by decide) (by omega) rfl (ls' := [_, _, _, _, _, _, _, _]) rfl (by decide) ?_
                refine x_goto 11 dX6_wordAt_97 (by decide) ?_
                refine z_wk (ls' := [some (zn 30), some (zi (k : Int)), some (zi (to : Int)), some (zi (w + 1)), some (zi (k : Int)), some (zi 1), some (zi ((kk + x.length + 1 : Nat) : Int)), none]) ⟨rfl, rfl, rfl, rfl, rfl, rfl, z_e (by omega), trivial⟩ (next (by rcases h8 with h8 | h8; (exfalso; omega); exact h8.2))
              · have h10 : k + i ≤ to ∧ ∀ j, j < i → M 31 (k + j) = x.getD j 0 := by rcases h8 with h8 | h8; exact h8.2; exfalso; exact c74 h8.1
                refine x_iload 79 rfl dX6_wordAt_77 rfl ?_
                refine x_iload_n 80 rfl dX6_wordAt_79 2 rfl rfl ?_
                refine x_icmp_ne 83 85 rfl dX6_wordAt_80 (by decide) (fun c80 => ?_) (fun c80 => ?_)
                · refine w_iinc 88 rfl dX6_wordAt_85 rfl (by decide) (by omega) rfl (ls' := [_, _, _, _, _, _, _, _]) rfl (by decide) ?_
                  refine x_iload_n 89 rfl dX6_wordAt_88 1 rfl rfl ?_
                  refine y_istore 91 rfl dX6_wordAt_89 rfl (ls' := [_, _, _, _, _, _, _, _]) rfl (by decide) ?_
                  refine x_iconst 92 rfl dX6_wordAt_91 (by decide) ?_
                  refine y_istore 94 rfl dX6_wordAt_92 rfl (ls' := [_, _, _, _, _, _, _, _]) rfl (by decide) ?_
                  refine w_iinc 97 rfl dX6_wordAt_94 rfl (by decide) (by omega) rfl (ls' := [_, _, _, _, _, _, _, _]) rfl (by decide) ?_
                  refine x_goto 11 dX6_wordAt_97 (by decide) ?_
                  refine z_wk (ls' := [some (zn 30), some (zi (k : Int)), some (zi (to : Int)), some (zi (w + 1)), some (zi (k : Int)), some (zi 1), some (zi ((kk + x.length + 1 : Nat) : Int)), none]) ⟨rfl, rfl, rfl, rfl, rfl, rfl, z_e (by omega), trivial⟩ (next (fun hh => by have := (wsg_eq.mp hh).1; omega))
                · refine x_iload_n 84 rfl dX6_wordAt_83 3 rfl rfl ?_
                  refine x_reti dX6_wordAt_84 rfl ?_
                  refine ⟨?_, rfl⟩
                  rw [← h4]
                  simp only [wlN]
                  rw [if_pos]
                  exact wsg_eq.mpr ⟨by omega, fun j hj => h10.2 j (by omega)⟩
            · have h9 : i < x.length := by
                rcases Nat.lt_or_ge i x.length with h | h
                · exact h
                · exfalso; rw [show i = x.length by omega] at c34; exact c34 hsp
              have hl1 := hlet i h9
              refine x_iload 39 rfl dX6_wordAt_37 rfl ?_
              refine x_if_eq 42 63 rfl dX6_wordAt_39 (by decide) (fun c39 => ?_) (fun c39 => ?_)
              · refine x_iconst 64 rfl dX6_wordAt_63 (by decide) ?_
                refine y_istore 66 rfl dX6_wordAt_64 rfl (ls' := [_, _, _, _, _, _, _, _]) rfl (by decide) ?_
                refine w_iinc 69 rfl dX6_wordAt_66 rfl (by decide) (by omega) rfl (ls' := [_, _, _, _, _, _, _, _]) rfl (by decide) ?_
                refine x_goto 94 dX6_wordAt_69 (by decide) ?_
                refine w_iinc 97 rfl dX6_wordAt_94 rfl (by decide) (by omega) rfl (ls' := [_, _, _, _, _, _, _, _]) rfl (by decide) ?_
                refine x_goto 11 dX6_wordAt_97 (by decide) ?_
                refine z_wk (ls' := [some (zn 30), some (zi (k : Int)), some (zi (to : Int)), some (zi w), some (zi _), some (zi _), some (zi _), none]) ⟨rfl, rfl, rfl, rfl, rfl, rfl, rfl, trivial⟩ (ih2 (i + 1) 0 _ (by omega) (by omega) (by omega) (Or.inr ⟨rfl, by rcases h8 with h8 | h8; (exfalso; omega); exact h8.2⟩))
              · have h10 : k + i ≤ to ∧ ∀ j, j < i → M 31 (k + j) = x.getD j 0 := by rcases h8 with h8 | h8; exact h8.2; exfalso; exact c39 h8.1
                refine x_iload 44 rfl dX6_wordAt_42 rfl ?_
                refine x_iload_n 45 rfl dX6_wordAt_44 2 rfl rfl ?_
                refine x_icmp_ge 48 63 rfl dX6_wordAt_45 (by decide) (fun c45 => ?_) (fun c45 => ?_)
                · refine x_iconst 64 rfl dX6_wordAt_63 (by decide) ?_
                  refine y_istore 66 rfl dX6_wordAt_64 rfl (ls' := [_, _, _, _, _, _, _, _]) rfl (by decide) ?_
                  refine w_iinc 69 rfl dX6_wordAt_66 rfl (by decide) (by omega) rfl (ls' := [_, _, _, _, _, _, _, _]) rfl (by decide) ?_
                  refine x_goto 94 dX6_wordAt_69 (by decide) ?_
                  refine w_iinc 97 rfl dX6_wordAt_94 rfl (by decide) (by omega) rfl (ls' := [_, _, _, _, _, _, _, _]) rfl (by decide) ?_
                  refine x_goto 11 dX6_wordAt_97 (by decide) ?_
                  refine z_wk (ls' := [some (zn 30), some (zi (k : Int)), some (zi (to : Int)), some (zi w), some (zi _), some (zi _), some (zi _), none]) ⟨rfl, rfl, rfl, rfl, rfl, rfl, rfl, trivial⟩ (ih2 (i + 1) 0 _ (by omega) (by omega) (by omega) (Or.inr ⟨rfl, fun hh => by have := (wsg_eq.mp hh).1; omega⟩))
                · refine x_aload_n 49 rfl dX6_wordAt_48 0 rfl rfl ?_
                  refine x_iload 51 rfl dX6_wordAt_49 rfl ?_
                  refine x_cVi 54 rfl lX6_73 dX6_wordAt_51 (lyl30 hL) (lys30 hL) (c_X8_byteAt hL) rfl rfl (Nat.le_of_ble_eq_true rfl) (fun b1 M1 hb1 => ?_)
                  obtain ⟨hb1a, hM1⟩ := hb1
                  rw [hM1]
                  rw [if_pos (by omega), show a.toNat = k + i by omega] at hb1a
                  subst hb1a
                  refine x_iload 56 rfl dX6_wordAt_54 rfl ?_
                  refine x_icmp_ne 59 63 rfl dX6_wordAt_56 (by decide) (fun c56 => ?_) (fun c56 => ?_)
                  · refine x_iconst 64 rfl dX6_wordAt_63 (by decide) ?_
                    refine y_istore 66 rfl dX6_wordAt_64 rfl (ls' := [_, _, _, _, _, _, _, _]) rfl (by decide) ?_
                    refine w_iinc 69 rfl dX6_wordAt_66 rfl (by decide) (by omega) rfl (ls' := [_, _, _, _, _, _, _, _]) rfl (by decide) ?_
                    refine x_goto 94 dX6_wordAt_69 (by decide) ?_
                    refine w_iinc 97 rfl dX6_wordAt_94 rfl (by decide) (by omega) rfl (ls' := [_, _, _, _, _, _, _, _]) rfl (by decide) ?_
                    refine x_goto 11 dX6_wordAt_97 (by decide) ?_
                    refine z_wk (ls' := [some (zn 30), some (zi (k : Int)), some (zi (to : Int)), some (zi w), some (zi _), some (zi _), some (zi _), none]) ⟨rfl, rfl, rfl, rfl, rfl, rfl, rfl, trivial⟩ (ih2 (i + 1) 0 _ (by omega) (by omega) (by omega) (Or.inr ⟨rfl, fun hh => by have h11 := (wsg_eq.mp hh).2 i h9; omega⟩))
                  · refine x_iconst 60 rfl dX6_wordAt_59 (by decide) ?_
                    refine x_goto 64 dX6_wordAt_60 (by decide) ?_
                    refine y_istore 66 rfl dX6_wordAt_64 rfl (ls' := [_, _, _, _, _, _, _, _]) rfl (by decide) ?_
                    refine w_iinc 69 rfl dX6_wordAt_66 rfl (by decide) (by omega) rfl (ls' := [_, _, _, _, _, _, _, _]) rfl (by decide) ?_
                    refine x_goto 94 dX6_wordAt_69 (by decide) ?_
                    refine w_iinc 97 rfl dX6_wordAt_94 rfl (by decide) (by omega) rfl (ls' := [_, _, _, _, _, _, _, _]) rfl (by decide) ?_
                    refine x_goto 11 dX6_wordAt_97 (by decide) ?_
                    refine z_wk (ls' := [some (zn 30), some (zi (k : Int)), some (zi (to : Int)), some (zi w), some (zi _), some (zi _), some (zi _), none]) ⟨rfl, rfl, rfl, rfl, rfl, rfl, rfl, trivial⟩ (ih2 (i + 1) 1 _ (by omega) (by omega) (by omega) (Or.inl ⟨rfl, by omega, fun j hj => by by_cases e : j = i; (subst e; omega); exact h10.2 j (by omega)⟩))
      exact inner (x.length + 1) 0 1 _ (by omega) (by omega) (by omega) (Or.inl ⟨rfl, by omega, fun j hj => by omega⟩)
  refine zX_of pl_RX6 [some (zn 30), some (zi (k : Int)), some (zi (to : Int)), none, none, none, none, none] 5 rfl rfl ?_
  refine x_iconst 1 rfl dX6_wordAt_0 (by decide) ?_
  refine y_istore_n 2 rfl dX6_wordAt_1 rfl rfl (ls' := [_, _, _, _, _, _, _, _]) rfl (by decide) ?_
  refine x_iload_n 3 rfl dX6_wordAt_2 1 rfl rfl ?_
  refine y_istore 5 rfl dX6_wordAt_3 rfl (ls' := [_, _, _, _, _, _, _, _]) rfl (by decide) ?_
  refine x_iconst 6 rfl dX6_wordAt_5 (by decide) ?_
  refine y_istore 8 rfl dX6_wordAt_6 rfl (ls' := [_, _, _, _, _, _, _, _]) rfl (by decide) ?_
  refine x_iconst 9 rfl dX6_wordAt_8 (by decide) ?_
  refine y_istore 11 rfl dX6_wordAt_9 rfl (ls' := [_, _, _, _, _, _, _, _]) rfl (by decide) ?_
  exact outer WC 0 0 (fun i hi => by rw [Nat.zero_add]; exact WC_str i (by rw [WC_len] at hi; exact hi)) (by rw [WC_len]) WC_let hR (by rw [WC_cnt]; decide)
