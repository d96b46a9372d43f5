theorem z_mup2 {M : zMem} {a : Nat} {f g : Nat → Int} : z_mup (z_mup M a f) a g = z_mup M a g := by
  funext i; simp only [z_mup]; split <;> rfl
def v42 (M : zMem) : Prop := ∀ j, j < 25 → -1000000000 ≤ M 42 j ∧ M 42 j ≤ 1000000000
def jF (M M' : zMem) : Prop := (∀ i, i ≠ 41 → i ≠ 42 → M' i = M i) ∧ v42 M'
theorem jF_refl {M : zMem} (h : v42 M) : jF M M := ⟨fun _ _ _ => rfl, h⟩
theorem jF_trans {M M1 M2 : zMem} (h : jF M M1) (h1 : jF M1 M2) : jF M M2 := ⟨fun i a b => (h1.1 i a b).trans (h.1 i a b), h1.2⟩
/-- a text of the class holds these clauses -/
def TXM (M : zMem) (T nh nc : Nat) (o : Bool) (L : List gC) : Prop := M T 0 = (L.length : Int) ∧ nh = 5 * L.length ∧ nc ≤ 400 ∧ L.length ≤ 12 ∧ (∀ j, j < nc → 0 ≤ M (T + 2) j ∧ M (T + 2) j ≤ 100000) ∧ (∀ i x, L[i]? = some x → M (T + 1) (5 * i) = x.1.1 ∧ M (T + 1) (5 * i + 1) = x.1.2.1 ∧ M (T + 1) (5 * i + 2) = x.1.2.2.1 ∧ M (T + 1) (5 * i + 3) = x.1.2.2.2.1 ∧ M (T + 1) (5 * i + 4) = x.1.2.2.2.2) ∧ (∀ x ∈ L, clH o x ∧ clM o (M (T + 2)) nc x ∧ clNB x)
theorem TXM_frame {M M' : zMem} {T nh nc : Nat} {o : Bool} {L : List gC} (h : TXM M T nh nc o L) (h0 : M' T = M T) (h1 : M' (T + 1) = M (T + 1)) (h2 : M' (T + 2) = M (T + 2)) : TXM M' T nh nc o L := by
  unfold TXM at h ⊢
  rw [h0, h1, h2]
  exact h
/-- the law in force, as the ship holds it -/
def LwC (S : zSh) (sz : Nat) (M : zMem) (a : Nat) (k : Nat → Int) (Lw : List gC) : Prop := 0 ≤ k 79 → ∃ T nh nc, M (a + 10) (k 79).toNat = ((T : Nat) : Int) ∧ 75 ≤ T ∧ TX S sz T nh nc ∧ TXM M T nh nc false Lw
def cvA (k : Nat → Int) (h lay sv g wh db crew : Int) (f : Nat → Int) : Prop := f 0 = h ∧ f 1 = lay ∧ f 2 = db ∧ f 3 = sv ∧ f 4 = g ∧ f 5 = wh ∧ f 6 = k 0 ∧ f 7 = crew ∧ f 8 = k 2 ∧ f 9 = k 74
theorem cvA_EV {k : Nat → Int} {h lay sv g wh db crew : Int} {f : Nat → Int} (hA : cvA k h lay sv g wh db crew f) : EV false f (lwE k h lay sv g wh db crew) := by
  obtain ⟨h0, h1, h2, h3, h4, h5, h6, h7, h8, h9⟩ := hA
  refine ⟨fun x h10 h11 => ?_, fun hh => by cases hh⟩
  rw [if_neg (by decide)] at h10 h11
  have : x = 8 ∨ x = 9 ∨ x = 10 ∨ x = 11 ∨ x = 12 ∨ x = 13 ∨ x = 14 ∨ x = 15 ∨ x = 16 ∨ x = 17 := by omega
  rcases this with rfl | rfl | rfl | rfl | rfl | rfl | rfl | rfl | rfl | rfl
  · exact h0
  · exact h1
  · exact h3
  · exact h4
  · exact h7
  · exact h9
  · exact h2
  · exact h5
  · exact h6
  · exact h8
theorem lwE_nb {k : Nat → Int} {h lay sv g wh db crew : Int} (b0 : -1000000 ≤ h) (b1 : -1000000 ≤ lay) (b2 : -1000000 ≤ sv) (b3 : -1000000 ≤ g) (b4 : -1000000 ≤ crew) (b5 : -1000000 ≤ k 74) (b6 : -1000000 ≤ db) (b7 : -1000000 ≤ wh) (b8 : -1000000 ≤ k 0) (b9 : -1000000 ≤ k 2) : eNB (lwE k h lay sv g wh db crew) := by
  intro c x
  simp only [lwE, zBK]
  repeat' split
  all_goals omega
theorem take_succ_get {L : List gC} {i : Nat} {x : gC} (h : L[i]? = some x) : L.take (i + 1) = L.take i ++ [x] := by
  rw [List.take_add_one, h]; rfl

set_option maxRecDepth 100000 in
set_option maxHeartbeats 4000000 in
theorem c_X7_lawInForce {d sz : Nat} {S : zSh} {M : zMem} {a : Nat} {k : Nat → Int} (h : SH S sz a) (hs : SR M a k) (hi : KI k) : zX d 0 0 mX7_lawInForce [zn a] sz S M (zO sz S (fun r M' => r = (if 0 ≤ k 79 then M (a + 10) (k 79).toNat else -1) ∧ M' = M)) := by
  have i1 := hi.1
  have e7 := hs.1.2.2.2.2.2.2.1
  have e8 := hs.1.2.2.2.2.2.2.2
  refine zX_of pl_RX7 [some (zn a)] 0 rfl rfl ?_
  refine x_aload_n 1 rfl dX7_lawInForce_0 0 rfl rfl ?_
  refine x_geti 4 rfl fX7_45 dX7_lawInForce_1 (shl0 h) (shs0 h) (by decide) ?_
  refine x_if_lt 7 30 rfl dX7_lawInForce_4 (by decide) (fun c4 => ?_) (fun c4 => ?_)
  · refine x_null 31 rfl dX7_lawInForce_30 ?_
    refine x_reto dX7_lawInForce_31 ⟨_, rfl⟩ ?_
    refine ⟨?_, rfl⟩
    first | (rw [if_neg (by omega)]; done) | (rw [if_pos (by omega), e8]; done)
  · refine x_aload_n 8 rfl dX7_lawInForce_7 0 rfl rfl ?_
    refine x_geti 11 rfl fX7_45 dX7_lawInForce_8 (shl0 h) (shs0 h) (by decide) ?_
    refine x_aload_n 12 rfl dX7_lawInForce_11 0 rfl rfl ?_
    refine x_geti 15 rfl fX7_73 dX7_lawInForce_12 (shl0 h) (shs0 h) (by decide) ?_
    refine x_icmp_ge 18 30 rfl dX7_lawInForce_15 (by decide) (fun c15 => ?_) (fun c15 => ?_)
    · refine x_null 31 rfl dX7_lawInForce_30 ?_
      refine x_reto dX7_lawInForce_31 ⟨_, rfl⟩ ?_
      refine ⟨?_, rfl⟩
      first | (rw [if_neg (by omega)]; done) | (rw [if_pos (by omega), e8]; done)
    · refine x_aload_n 19 rfl dX7_lawInForce_18 0 rfl rfl ?_
      refine x_getr 22 rfl fX7_41 dX7_lawInForce_19 (shl0 h) (shs0 h) (by decide) (a + 10) rfl ?_
      refine x_aload_n 23 rfl dX7_lawInForce_22 0 rfl rfl ?_
      refine x_geti 26 rfl fX7_45 dX7_lawInForce_23 (shl0 h) (shs0 h) (by decide) ?_
      refine x_aald (Or.inr rfl) 27 rfl dX7_lawInForce_26 (shl10 h) (shs10 h) (by omega) (by omega) ?_
      refine x_goto 31 dX7_lawInForce_27 (by decide) ?_
      refine x_reto dX7_lawInForce_31 ⟨_, rfl⟩ ?_
      refine ⟨?_, rfl⟩
      first | (rw [if_neg (by omega)]; done) | (rw [if_pos (by omega), e8]; done)

set_option maxRecDepth 100000 in
set_option maxHeartbeats 4000000 in
theorem c_X1_lastTold {d sz : Nat} {S : zSh} {M : zMem} (hL : LY S sz) {T nh nc : Nat} (hTX : TX S sz T nh nc) (hT0 : 75 ≤ T) {Lw : List gC} (hM : TXM M T nh nc false Lw) (hv : v42 M) {e : Int → Int → Int} (hE : EV false (M 42) e) (heN : eNB e) {K : Int} (hK : 13 ≤ K ∧ K ≤ 15) : zX (d + 2) 0 0 mX1_lastTold [zn 39, zn T, zi K] sz S M (zI sz S (fun r M' => r = (lastF K e Lw).getD zBK ∧ ∃ s, M' = z_mup M 41 s)) := by
  obtain ⟨hm1, hm2, hm3, hm4, hm5, hm6, hm7⟩ := id hM
  have hv := hv
  have loop : ∀ (i : Nat) (s : Nat → Int), i ≤ Lw.length → lastF K e (Lw.take i) = lastF K e Lw → zW mX1_lastTold (d + 2) 0 0 [] (zI sz S (fun r M' => r = (lastF K e Lw).getD zBK ∧ ∃ s, M' = z_mup M 41 s)) 7 [some (zn 39), some (zn T), some (zi K), some (zi ((i : Int) - 1)), none, none, none] [] sz S (z_mup M 41 s) := by
    intro i
    induction i with
    | zero =>
      intro s h1 h2
      have h2 : none = lastF K e Lw := h2
      refine x_iload_n 8 rfl dX1_lastTold_7 3 rfl rfl ?_
      refine x_if_lt 11 115 rfl dX1_lastTold_8 (by decide) (fun c8 => ?_) (fun c8 => ?_)
      · refine x_ldc (x := -2000000000) 117 rfl kX1_39 (by decide) dX1_lastTold_115 ?_
        refine x_reti dX1_lastTold_117 rfl ?_
        exact ⟨by rw [← h2]; rfl, _, rfl⟩
      · exfalso; omega
    | succ i ih =>
      intro s h1 h2
      obtain ⟨x, hx⟩ : ∃ x, Lw[i]? = some x := ⟨Lw[i], List.getElem?_eq_getElem (by omega)⟩
      obtain ⟨hx0, hx1, hx2, hx3, hx4⟩ := hm6 i x hx
      obtain ⟨⟨-, -, hh3, hh4, hh5, hh6⟩, ⟨hc1, hc2, hc3⟩, hnb⟩ := hm7 x (List.mem_of_getElem? hx)
      rw [take_succ_get hx, lastF_app] at h2
      unfold stF at h2
      have go : lastF K e (Lw.take i) = lastF K e Lw → ∀ (s2 : Nat → Int) (j4 j5 j6 : Option zV), zW mX1_lastTold (d + 2) 0 0 [] (zI sz S (fun r M' => r = (lastF K e Lw).getD zBK ∧ ∃ s, M' = z_mup M 41 s)) 109 [some (zn 39), some (zn T), some (zi K), some (zi (((i + 1 : Nat) : Int) - 1)), j4, j5, j6] [] sz S (z_mup M 41 s2) := by
        intro h3 s2 j4 j5 j6
        refine w_iinc 112 rfl dX1_lastTold_109 rfl (by decide) (by omega) rfl (ls' := [_, _, _, _, _, _, _]) rfl (by decide) ?_
        refine x_goto 7 dX1_lastTold_112 (by decide) ?_
        refine z_wk (ls' := [some (zn 39), some (zn T), some (zi K), some (zi ((i : Int) - 1)), none, none, none]) ⟨rfl, rfl, rfl, z_e (by omega), trivial⟩ (ih s2 (by omega) h3)
      refine x_iload_n 8 rfl dX1_lastTold_7 3 rfl rfl ?_
      refine x_if_lt 11 115 rfl dX1_lastTold_8 (by decide) (fun c8 => ?_) (fun c8 => ?_)
      · exfalso; omega
      · refine x_aload_n 12 rfl dX1_lastTold_11 1 rfl rfl ?_
        refine x_iload_n 13 rfl dX1_lastTold_12 3 rfl rfl ?_
        refine x_iconst 14 rfl dX1_lastTold_13 (by decide) ?_
        refine x_cVi 17 rfl lX1_78 dX1_lastTold_14 (txl0 hTX) (txs0 hTX) (c_X9_get (t := T) hTX ⟨by omega, by omega⟩ (by omega) (by decide)) rfl rfl (Nat.le_of_ble_eq_true rfl) (fun r M1 hr1 => ?_)
        obtain ⟨rfl, hM1⟩ := hr1
        rw [hM1, if_pos (by omega), show (((i + 1 : Nat) : Int) - 1) * 5 + 0 = ((5 * i : Nat) : Int) by omega, Int.toNat_natCast, z_mup_ne (by omega), hx0]
        refine x_iload_n 18 rfl dX1_lastTold_17 2 rfl rfl ?_
        refine x_icmp_eq 21 24 rfl dX1_lastTold_18 (by decide) (fun c18 => ?_) (fun c18 => ?_)
        · refine x_aload_n 25 rfl dX1_lastTold_24 1 rfl rfl ?_
          refine x_iload_n 26 rfl dX1_lastTold_25 3 rfl rfl ?_
          refine x_iconst 27 rfl dX1_lastTold_26 (by decide) ?_
          refine x_cVi 30 rfl lX1_78 dX1_lastTold_27 (txl0 hTX) (txs0 hTX) (c_X9_get (t := T) hTX ⟨by omega, by omega⟩ (by omega) (by decide)) rfl rfl (Nat.le_of_ble_eq_true rfl) (fun r M1 hr1 => ?_)
          obtain ⟨rfl, hM1⟩ := hr1
          rw [hM1, if_pos (by omega), show (((i + 1 : Nat) : Int) - 1) * 5 + 3 = ((5 * i + 3 : Nat) : Int) by omega, Int.toNat_natCast, z_mup_ne (by omega), hx3]
          refine y_istore 32 rfl dX1_lastTold_30 rfl (ls' := [_, _, _, _, _, _, _]) rfl (by decide) ?_
          refine x_iload 34 rfl dX1_lastTold_32 rfl ?_
          refine x_iconst 35 rfl dX1_lastTold_34 (by decide) ?_
          refine x_icmp_eq 38 62 rfl dX1_lastTold_35 (by decide) (fun c35 => ?_) (fun c35 => ?_)
          · have ht1 : x.2.2.2 e = some 1 := by
              rcases hc3 with h9 | h9
              · rw [h9.2]; rfl
              · exfalso; have := h9.1; omega
            rw [if_pos ⟨by omega, ht1⟩] at h2
            refine x_aload_n 63 rfl dX1_lastTold_62 1 rfl rfl ?_
            refine x_iload_n 64 rfl dX1_lastTold_63 3 rfl rfl ?_
            refine x_iconst 65 rfl dX1_lastTold_64 (by decide) ?_
            refine x_cVi 68 rfl lX1_78 dX1_lastTold_65 (txl0 hTX) (txs0 hTX) (c_X9_get (t := T) hTX ⟨by omega, by omega⟩ (by omega) (by decide)) rfl rfl (Nat.le_of_ble_eq_true rfl) (fun r M1 hr1 => ?_)
            obtain ⟨rfl, hM1⟩ := hr1
            rw [hM1, if_pos (by omega), show (((i + 1 : Nat) : Int) - 1) * 5 + 1 = ((5 * i + 1 : Nat) : Int) by omega, Int.toNat_natCast, z_mup_ne (by omega), hx1]
            refine y_istore 70 rfl dX1_lastTold_68 rfl (ls' := [_, _, _, _, _, _, _]) rfl (by decide) ?_
            refine x_iload 72 rfl dX1_lastTold_70 rfl ?_
            refine x_iconst 73 rfl dX1_lastTold_72 (by decide) ?_
            refine x_icmp_ne 76 80 rfl dX1_lastTold_73 (by decide) (fun c73 => ?_) (fun c73 => ?_)
            · have hseg1 : segM false (M (T + 2)) nc x.1.2.1 x.2.1 := by rcases hc1 with h9 | h9; exact absurd h9.1 (by omega); exact h9
              refine x_aload_n 81 rfl dX1_lastTold_80 0 rfl rfl ?_
              refine x_getr 84 rfl fX1_12 dX1_lastTold_81 (lyl39 hL) (lys39 hL) (by decide) (40) rfl ?_
              refine x_aload_n 85 rfl dX1_lastTold_84 1 rfl rfl ?_
              refine x_getr 88 rfl fX1_81 dX1_lastTold_85 (txl0 hTX) (txs0 hTX) (by decide) (T + 2) rfl ?_
              refine x_iload 90 rfl dX1_lastTold_88 rfl ?_
              refine x_aload_n 91 rfl dX1_lastTold_90 0 rfl rfl ?_
              refine x_getr 94 rfl fX1_18 dX1_lastTold_91 (lyl39 hL) (lys39 hL) (by decide) (42) rfl ?_
              refine x_cVi 97 rfl lX1_84 dX1_lastTold_94 (lyl40 hL) (lys40 hL) (c_X3_value (a := 40) (c := T + 2) (v := 42) (ly_mc40 hL) (txl2 hTX) (txs2 hTX) (lyl42 hL) (lys42 hL) ⟨by omega, by omega⟩ hM.2.2.1 (by omega) (by rw [z_mup_ne (by omega)]; exact hM.2.2.2.2.1) (by rw [z_mup_ne (by decide)]; exact hv)) rfl rfl (Nat.le_of_ble_eq_true rfl) (fun r M2 hr2 => ?_)
              obtain ⟨hr2, s2, hM2⟩ := hr2
              rw [z_mup_ne (show T + 2 ≠ 41 by omega), z_mup_ne (show (42 : Nat) ≠ 41 by decide)] at hr2
              have hM2 : M2 = z_mup M 41 s2 := by rw [hM2]; exact z_mup2
              rw [hM2]
              refine y_istore 99 rfl dX1_lastTold_97 rfl (ls' := [_, _, _, _, _, _, _]) rfl (by decide) ?_
              refine x_iload 101 rfl dX1_lastTold_99 rfl ?_
              refine x_ldc (x := -2000000000) 103 rfl kX1_39 (by decide) dX1_lastTold_101 ?_
              refine x_icmp_eq 106 109 rfl dX1_lastTold_103 (by decide) (fun c103 => ?_) (fun c103 => ?_)
              · rw [hseg1.2.2 _ e _ hE] at hr2
                have hw1 : x.2.1 e = none := by
                  cases hq : x.2.1 e with
                  | none => rfl
                  | some y => exfalso; rw [hq] at hr2; have h8 : r = y := hr2; exact (hnb e heN).1 (by rw [hq, ← h8, c103]; rfl)
                rw [hw1] at h2
                exact go h2 _ _ _ _
              · rw [hseg1.2.2 _ e _ hE] at hr2
                refine x_iload 108 rfl dX1_lastTold_106 rfl ?_
                refine x_reti dX1_lastTold_108 rfl ?_
                refine ⟨?_, _, rfl⟩
                cases hq : x.2.1 e with
                | none => exfalso; rw [hq] at hr2; exact c103 hr2
                | some y => rw [hq] at hr2 h2; rw [← h2]; exact hr2
            · have hw1 : x.2.1 e = some 1 := by
                rcases hc1 with h9 | h9
                · rw [h9.2]; rfl
                · exfalso; have := h9.1; omega
              rw [hw1] at h2
              refine x_iconst 77 rfl dX1_lastTold_76 (by decide) ?_
              refine x_goto 97 dX1_lastTold_77 (by decide) ?_
              refine y_istore 99 rfl dX1_lastTold_97 rfl (ls' := [_, _, _, _, _, _, _]) rfl (by decide) ?_
              refine x_iload 101 rfl dX1_lastTold_99 rfl ?_
              refine x_ldc (x := -2000000000) 103 rfl kX1_39 (by decide) dX1_lastTold_101 ?_
              refine x_icmp_eq 106 109 rfl dX1_lastTold_103 (by decide) (fun c103 => ?_) (fun c103 => ?_)
              · exfalso; omega
              · refine x_iload 108 rfl dX1_lastTold_106 rfl ?_
                refine x_reti dX1_lastTold_108 rfl ?_
                exact ⟨by rw [← h2]; rfl, _, rfl⟩
          · have hseg : segM false (M (T + 2)) nc x.1.2.2.2.1 x.2.2.2 := by rcases hc3 with h9 | h9; exact absurd h9.1 (by omega); exact h9
            refine x_aload_n 39 rfl dX1_lastTold_38 0 rfl rfl ?_
            refine x_getr 42 rfl fX1_12 dX1_lastTold_39 (lyl39 hL) (lys39 hL) (by decide) (40) rfl ?_
            refine x_aload_n 43 rfl dX1_lastTold_42 1 rfl rfl ?_
            refine x_getr 46 rfl fX1_81 dX1_lastTold_43 (txl0 hTX) (txs0 hTX) (by decide) (T + 2) rfl ?_
            refine x_iload 48 rfl dX1_lastTold_46 rfl ?_
            refine x_aload_n 49 rfl dX1_lastTold_48 0 rfl rfl ?_
            refine x_getr 52 rfl fX1_18 dX1_lastTold_49 (lyl39 hL) (lys39 hL) (by decide) (42) rfl ?_
            refine x_cVi 55 rfl lX1_84 dX1_lastTold_52 (lyl40 hL) (lys40 hL) (c_X3_value (a := 40) (c := T + 2) (v := 42) (ly_mc40 hL) (txl2 hTX) (txs2 hTX) (lyl42 hL) (lys42 hL) ⟨by omega, by omega⟩ hM.2.2.1 (by omega) (by rw [z_mup_ne (by omega)]; exact hM.2.2.2.2.1) (by rw [z_mup_ne (by decide)]; exact hv)) rfl rfl (Nat.le_of_ble_eq_true rfl) (fun r M2 hr2 => ?_)
            obtain ⟨hr2, s2, hM2⟩ := hr2
            rw [z_mup_ne (show T + 2 ≠ 41 by omega), z_mup_ne (show (42 : Nat) ≠ 41 by decide)] at hr2
            have hM2 : M2 = z_mup M 41 s2 := by rw [hM2]; exact z_mup2
            rw [hM2]
            refine x_iconst 56 rfl dX1_lastTold_55 (by decide) ?_
            refine x_icmp_eq 59 62 rfl dX1_lastTold_56 (by decide) (fun c56 => ?_) (fun c56 => ?_)
            · rw [hseg.2.2 _ e _ hE] at hr2
              have ht1 : x.2.2.2 e = some 1 := by
                cases hq : x.2.2.2 e with
                | none => rw [hq] at hr2; have : r = zBK := hr2; unfold zBK at this; omega
                | some y => rw [hq] at hr2; have : r = y := hr2; rw [← this, c56]
              rw [if_pos ⟨by omega, ht1⟩] at h2
              refine x_aload_n 63 rfl dX1_lastTold_62 1 rfl rfl ?_
              refine x_iload_n 64 rfl dX1_lastTold_63 3 rfl rfl ?_
              refine x_iconst 65 rfl dX1_lastTold_64 (by decide) ?_
              refine x_cVi 68 rfl lX1_78 dX1_lastTold_65 (txl0 hTX) (txs0 hTX) (c_X9_get (t := T) hTX ⟨by omega, by omega⟩ (by omega) (by decide)) rfl rfl (Nat.le_of_ble_eq_true rfl) (fun r M1 hr1 => ?_)
              obtain ⟨rfl, hM1⟩ := hr1
              rw [hM1, if_pos (by omega), show (((i + 1 : Nat) : Int) - 1) * 5 + 1 = ((5 * i + 1 : Nat) : Int) by omega, Int.toNat_natCast, z_mup_ne (by omega), hx1]
              refine y_istore 70 rfl dX1_lastTold_68 rfl (ls' := [_, _, _, _, _, _, _]) rfl (by decide) ?_
              refine x_iload 72 rfl dX1_lastTold_70 rfl ?_
              refine x_iconst 73 rfl dX1_lastTold_72 (by decide) ?_
              refine x_icmp_ne 76 80 rfl dX1_lastTold_73 (by decide) (fun c73 => ?_) (fun c73 => ?_)
              · have hseg1 : segM false (M (T + 2)) nc x.1.2.1 x.2.1 := by rcases hc1 with h9 | h9; exact absurd h9.1 (by omega); exact h9
                refine x_aload_n 81 rfl dX1_lastTold_80 0 rfl rfl ?_
                refine x_getr 84 rfl fX1_12 dX1_lastTold_81 (lyl39 hL) (lys39 hL) (by decide) (40) rfl ?_
                refine x_aload_n 85 rfl dX1_lastTold_84 1 rfl rfl ?_
                refine x_getr 88 rfl fX1_81 dX1_lastTold_85 (txl0 hTX) (txs0 hTX) (by decide) (T + 2) rfl ?_
                refine x_iload 90 rfl dX1_lastTold_88 rfl ?_
                refine x_aload_n 91 rfl dX1_lastTold_90 0 rfl rfl ?_
                refine x_getr 94 rfl fX1_18 dX1_lastTold_91 (lyl39 hL) (lys39 hL) (by decide) (42) rfl ?_
                refine x_cVi 97 rfl lX1_84 dX1_lastTold_94 (lyl40 hL) (lys40 hL) (c_X3_value (a := 40) (c := T + 2) (v := 42) (ly_mc40 hL) (txl2 hTX) (txs2 hTX) (lyl42 hL) (lys42 hL) ⟨by omega, by omega⟩ hM.2.2.1 (by omega) (by rw [z_mup_ne (by omega)]; exact hM.2.2.2.2.1) (by rw [z_mup_ne (by decide)]; exact hv)) rfl rfl (Nat.le_of_ble_eq_true rfl) (fun r M2 hr2 => ?_)
                obtain ⟨hr2, s2, hM2⟩ := hr2
                rw [z_mup_ne (show T + 2 ≠ 41 by omega), z_mup_ne (show (42 : Nat) ≠ 41 by decide)] at hr2
                have hM2 : M2 = z_mup M 41 s2 := by rw [hM2]; exact z_mup2
                rw [hM2]
                refine y_istore 99 rfl dX1_lastTold_97 rfl (ls' := [_, _, _, _, _, _, _]) rfl (by decide) ?_
                refine x_iload 101 rfl dX1_lastTold_99 rfl ?_
                refine x_ldc (x := -2000000000) 103 rfl kX1_39 (by decide) dX1_lastTold_101 ?_
                refine x_icmp_eq 106 109 rfl dX1_lastTold_103 (by decide) (fun c103 => ?_) (fun c103 => ?_)
                · rw [hseg1.2.2 _ e _ hE] at hr2
                  have hw1 : x.2.1 e = none := by
                    cases hq : x.2.1 e with
                    | none => rfl
                    | some y => exfalso; rw [hq] at hr2; have h8 : r = y := hr2; exact (hnb e heN).1 (by rw [hq, ← h8, c103]; rfl)
                  rw [hw1] at h2
                  exact go h2 _ _ _ _
                · rw [hseg1.2.2 _ e _ hE] at hr2
                  refine x_iload 108 rfl dX1_lastTold_106 rfl ?_
                  refine x_reti dX1_lastTold_108 rfl ?_
                  refine ⟨?_, _, rfl⟩
                  cases hq : x.2.1 e with
                  | none => exfalso; rw [hq] at hr2; exact c103 hr2
                  | some y => rw [hq] at hr2 h2; rw [← h2]; exact hr2
              · have hw1 : x.2.1 e = some 1 := by
                  rcases hc1 with h9 | h9
                  · rw [h9.2]; rfl
                  · exfalso; have := h9.1; omega
                rw [hw1] at h2
                refine x_iconst 77 rfl dX1_lastTold_76 (by decide) ?_
                refine x_goto 97 dX1_lastTold_77 (by decide) ?_
                refine y_istore 99 rfl dX1_lastTold_97 rfl (ls' := [_, _, _, _, _, _, _]) rfl (by decide) ?_
                refine x_iload 101 rfl dX1_lastTold_99 rfl ?_
                refine x_ldc (x := -2000000000) 103 rfl kX1_39 (by decide) dX1_lastTold_101 ?_
                refine x_icmp_eq 106 109 rfl dX1_lastTold_103 (by decide) (fun c103 => ?_) (fun c103 => ?_)
                · exfalso; omega
                · refine x_iload 108 rfl dX1_lastTold_106 rfl ?_
                  refine x_reti dX1_lastTold_108 rfl ?_
                  exact ⟨by rw [← h2]; rfl, _, rfl⟩
            · rw [hseg.2.2 _ e _ hE] at hr2
              rw [if_neg (by intro hh; rw [hh.2] at hr2; exact c56 hr2)] at h2
              refine x_goto 109 dX1_lastTold_59 (by decide) ?_
              exact go h2 _ _ _ _
        · rw [if_neg (by intro hh; exact c18 hh.1)] at h2
          refine x_goto 109 dX1_lastTold_21 (by decide) ?_
          exact go h2 _ _ _ _
  refine zX_of pl_RX1 [some (zn 39), some (zn T), some (zi K), none, none, none, none] 4 rfl rfl ?_
  refine x_aload_n 1 rfl dX1_lastTold_0 1 rfl rfl ?_
  refine x_geti 4 rfl fX1_73 dX1_lastTold_1 (txl0 hTX) (txs0 hTX) (by decide) ?_
  refine x_iconst 5 rfl dX1_lastTold_4 (by decide) ?_
  refine y_isub 6 rfl dX1_lastTold_5 (by omega) ?_
  refine y_istore_n 7 rfl dX1_lastTold_6 rfl rfl (ls' := [_, _, _, _, _, _, _]) rfl (by decide) ?_
  refine z_mem (M' := z_mup M 41 (M 41)) z_mup_self.symm (z_wk (ls' := [some (zn 39), some (zn T), some (zi K), some (zi ((Lw.length : Int) - 1)), none, none, none]) ⟨rfl, rfl, rfl, z_e (by rw [hm1]), trivial⟩ (loop Lw.length (M 41) (Nat.le_refl _) (by rw [List.take_length])))

set_option maxRecDepth 100000 in
set_option maxHeartbeats 4000000 in
theorem c_X1_askAboutHand {d sz : Nat} {S : zSh} {M : zMem} (hL : LY S sz) {a : Nat} (h : SH S sz a) (had : a + 11 ≤ 40 ∨ 43 ≤ a) {k : Nat → Int} (hs : SR M a k) (hi : KI k) {x y : Int} (hx : 0 ≤ x ∧ x < 8) : zX d 0 0 mX1_askAboutHand [zn 39, zn a, zi x, zi y] sz S M (zU sz S (fun M' => ∃ f, M' = z_mup M 42 f ∧ (f 0 = x ∧ f 1 = y ∧ f 2 = k (3 + x.toNat) ∧ f 3 = k 2 - k (31 + x.toNat) ∧ f 4 = -1 ∧ f 5 = -1) ∧ ∀ j, 6 ≤ j → f j = M 42 j)) := by
  have i1 := hi.1
  have i2 := hi.2.1 x.toNat (by omega)
  have q2 := hs.2.2.2.1 x.toNat (by omega)
  have q3 := hs.2.2.2.2.1 x.toNat (by omega)
  have t0 := hs.2.1.1
  refine zX_of pl_RX1 [some (zn 39), some (zn a), some (zi x), some (zi y)] 0 rfl rfl ?_
  refine x_aload_n 1 rfl dX1_askAboutHand_0 0 rfl rfl ?_
  refine x_getr 4 rfl fX1_18 dX1_askAboutHand_1 (lyl39 hL) (lys39 hL) (by decide) (42) rfl ?_
  refine x_iconst 5 rfl dX1_askAboutHand_4 (by decide) ?_
  refine x_iload_n 6 rfl dX1_askAboutHand_5 2 rfl rfl ?_
  refine x_iastk 7 rfl dX1_askAboutHand_6 (lyl42 hL) (lys42 hL) 0 rfl (by decide) ?_
  refine x_aload_n 8 rfl dX1_askAboutHand_7 0 rfl rfl ?_
  refine x_getr 11 rfl fX1_18 dX1_askAboutHand_8 (lyl39 hL) (lys39 hL) (by decide) (42) rfl ?_
  refine x_iconst 12 rfl dX1_askAboutHand_11 (by decide) ?_
  refine x_iload_n 13 rfl dX1_askAboutHand_12 3 rfl rfl ?_
  refine x_iastk 14 rfl dX1_askAboutHand_13 (lyl42 hL) (lys42 hL) 1 rfl (by decide) ?_
  refine x_aload_n 15 rfl dX1_askAboutHand_14 0 rfl rfl ?_
  refine x_getr 18 rfl fX1_18 dX1_askAboutHand_15 (lyl39 hL) (lys39 hL) (by decide) (42) rfl ?_
  refine x_iconst 19 rfl dX1_askAboutHand_18 (by decide) ?_
  refine x_aload_n 20 rfl dX1_askAboutHand_19 1 rfl rfl ?_
  refine x_getr 23 rfl fX1_60 dX1_askAboutHand_20 (shl0 h) (shs0 h) (by decide) (a + 2) rfl ?_
  refine x_iload_n 24 rfl dX1_askAboutHand_23 2 rfl rfl ?_
  refine x_iald 25 rfl dX1_askAboutHand_24 (shl2 h) (shs2 h) (by omega) (by omega) ?_
  try simp (disch := omega) only [z_up_ne, z_up_nk, z_up_eq, z_mup_ne, z_mup_eq, Int.reduceToNat, Int.toNat_natCast]
  refine x_iastk 26 rfl dX1_askAboutHand_25 (lyl42 hL) (lys42 hL) 2 rfl (by decide) ?_
  refine x_aload_n 27 rfl dX1_askAboutHand_26 0 rfl rfl ?_
  refine x_getr 30 rfl fX1_18 dX1_askAboutHand_27 (lyl39 hL) (lys39 hL) (by decide) (42) rfl ?_
  refine x_iconst 31 rfl dX1_askAboutHand_30 (by decide) ?_
  refine x_aload_n 32 rfl dX1_askAboutHand_31 1 rfl rfl ?_
  refine x_getr 35 rfl fX1_63 dX1_askAboutHand_32 (shl0 h) (shs0 h) (by decide) (a + 7) rfl ?_
  refine x_iconst 36 rfl dX1_askAboutHand_35 (by decide) ?_
  refine x_ialk 37 rfl dX1_askAboutHand_36 (shl7 h) (shs7 h) 0 rfl (by decide) ?_
  try simp (disch := omega) only [z_up_ne, z_up_nk, z_up_eq, z_mup_ne, z_mup_eq, Int.reduceToNat, Int.toNat_natCast]
  refine x_aload_n 38 rfl dX1_askAboutHand_37 1 rfl rfl ?_
  refine x_getr 41 rfl fX1_66 dX1_askAboutHand_38 (shl0 h) (shs0 h) (by decide) (a + 3) rfl ?_
  refine x_iload_n 42 rfl dX1_askAboutHand_41 2 rfl rfl ?_
  refine x_iald 43 rfl dX1_askAboutHand_42 (shl3 h) (shs3 h) (by omega) (by omega) ?_
  try simp (disch := omega) only [z_up_ne, z_up_nk, z_up_eq, z_mup_ne, z_mup_eq, Int.reduceToNat, Int.toNat_natCast]
  refine y_isub 44 rfl dX1_askAboutHand_43 (by omega) ?_
  refine x_iastk 45 rfl dX1_askAboutHand_44 (lyl42 hL) (lys42 hL) 3 rfl (by decide) ?_
  refine x_aload_n 46 rfl dX1_askAboutHand_45 0 rfl rfl ?_
  refine x_getr 49 rfl fX1_18 dX1_askAboutHand_46 (lyl39 hL) (lys39 hL) (by decide) (42) rfl ?_
  refine x_iconst 50 rfl dX1_askAboutHand_49 (by decide) ?_
  refine x_iconst 51 rfl dX1_askAboutHand_50 (by decide) ?_
  refine x_iastk 52 rfl dX1_askAboutHand_51 (lyl42 hL) (lys42 hL) 4 rfl (by decide) ?_
  refine x_aload_n 53 rfl dX1_askAboutHand_52 0 rfl rfl ?_
  refine x_getr 56 rfl fX1_18 dX1_askAboutHand_53 (lyl39 hL) (lys39 hL) (by decide) (42) rfl ?_
  refine x_iconst 57 rfl dX1_askAboutHand_56 (by decide) ?_
  refine x_iconst 58 rfl dX1_askAboutHand_57 (by decide) ?_
  refine x_iastk 59 rfl dX1_askAboutHand_58 (lyl42 hL) (lys42 hL) 5 rfl (by decide) ?_
  refine x_retu dX1_askAboutHand_59 rfl ?_
  refine ⟨ku (ku (ku (ku (ku (ku (M 42) 0 x) 1 y) 2 (k (3 + x.toNat))) 3 (k 2 - k (31 + x.toNat))) 4 (-1)) 5 (-1), ?_, ⟨by simp [ku], by simp [ku], by simp [ku], by simp [ku], by simp [ku], by simp [ku]⟩, fun j hj => ?_⟩
  · rw [← q2, ← q3, ← t0, z_upm (M := M), z_mupm, z_mupm, z_mupm, z_mupm, z_mupm]
  · simp only [ku]; repeat rw [if_neg (by omega)]

set_option maxRecDepth 100000 in
set_option maxHeartbeats 4000000 in
theorem c_X1_askAboutShip {d sz : Nat} {S : zSh} {M : zMem} (hL : LY S sz) {a : Nat} (h : SH S sz a) (had : a + 11 ≤ 40 ∨ 43 ≤ a) {k : Nat → Int} (hs : SR M a k) (hi : KI k) {x : Int} : zX d 0 0 mX1_askAboutShip [zn 39, zn a, zi x] sz S M (zU sz S (fun M' => ∃ f, M' = z_mup M 42 f ∧ (f 6 = k 0 ∧ f 7 = x ∧ f 8 = k 2 ∧ f 9 = k 74) ∧ ∀ j, (j < 6 ∨ 10 ≤ j) → f j = M 42 j)) := by
  have e4 := hs.1.2.2.2.1
  have t0 := hs.2.1.1
  have t2 := hs.2.1.2.2
  refine zX_of pl_RX1 [some (zn 39), some (zn a), some (zi x)] 0 rfl rfl ?_
  refine x_aload_n 1 rfl dX1_askAboutShip_0 0 rfl rfl ?_
  refine x_getr 4 rfl fX1_18 dX1_askAboutShip_1 (lyl39 hL) (lys39 hL) (by decide) (42) rfl ?_
  refine x_bipush 6 rfl dX1_askAboutShip_4 (by decide) ?_
  refine x_aload_n 7 rfl dX1_askAboutShip_6 1 rfl rfl ?_
  refine x_geti 10 rfl fX1_69 dX1_askAboutShip_7 (shl0 h) (shs0 h) (by decide) ?_
  refine x_iastk 11 rfl dX1_askAboutShip_10 (lyl42 hL) (lys42 hL) 6 rfl (by decide) ?_
  refine x_aload_n 12 rfl dX1_askAboutShip_11 0 rfl rfl ?_
  refine x_getr 15 rfl fX1_18 dX1_askAboutShip_12 (lyl39 hL) (lys39 hL) (by decide) (42) rfl ?_
  refine x_bipush 17 rfl dX1_askAboutShip_15 (by decide) ?_
  refine x_iload_n 18 rfl dX1_askAboutShip_17 2 rfl rfl ?_
  refine x_iastk 19 rfl dX1_askAboutShip_18 (lyl42 hL) (lys42 hL) 7 rfl (by decide) ?_
  refine x_aload_n 20 rfl dX1_askAboutShip_19 0 rfl rfl ?_
  refine x_getr 23 rfl fX1_18 dX1_askAboutShip_20 (lyl39 hL) (lys39 hL) (by decide) (42) rfl ?_
  refine x_bipush 25 rfl dX1_askAboutShip_23 (by decide) ?_
  refine x_aload_n 26 rfl dX1_askAboutShip_25 1 rfl rfl ?_
  refine x_getr 29 rfl fX1_63 dX1_askAboutShip_26 (shl0 h) (shs0 h) (by decide) (a + 7) rfl ?_
  refine x_iconst 30 rfl dX1_askAboutShip_29 (by decide) ?_
  refine x_ialk 31 rfl dX1_askAboutShip_30 (shl7 h) (shs7 h) 0 rfl (by decide) ?_
  try simp (disch := omega) only [z_up_ne, z_up_nk, z_up_eq, z_mup_ne, z_mup_eq, Int.reduceToNat, Int.toNat_natCast]
  refine x_iastk 32 rfl dX1_askAboutShip_31 (lyl42 hL) (lys42 hL) 8 rfl (by decide) ?_
  refine x_aload_n 33 rfl dX1_askAboutShip_32 0 rfl rfl ?_
  refine x_getr 36 rfl fX1_18 dX1_askAboutShip_33 (lyl39 hL) (lys39 hL) (by decide) (42) rfl ?_
  refine x_bipush 38 rfl dX1_askAboutShip_36 (by decide) ?_
  refine x_aload_n 39 rfl dX1_askAboutShip_38 1 rfl rfl ?_
  refine x_getr 42 rfl fX1_63 dX1_askAboutShip_39 (shl0 h) (shs0 h) (by decide) (a + 7) rfl ?_
  refine x_iconst 43 rfl dX1_askAboutShip_42 (by decide) ?_
  refine x_ialk 44 rfl dX1_askAboutShip_43 (shl7 h) (shs7 h) 2 rfl (by decide) ?_
  try simp (disch := omega) only [z_up_ne, z_up_nk, z_up_eq, z_mup_ne, z_mup_eq, Int.reduceToNat, Int.toNat_natCast]
  refine x_iastk 45 rfl dX1_askAboutShip_44 (lyl42 hL) (lys42 hL) 9 rfl (by decide) ?_
  refine x_retu dX1_askAboutShip_45 rfl ?_
  refine ⟨ku (ku (ku (ku (M 42) 6 (k 0)) 7 x) 8 (k 2)) 9 (k 74), ?_, ⟨by simp [ku], by simp [ku], by simp [ku], by simp [ku]⟩, fun j hj => ?_⟩
  · rw [← e4, ← t0, ← t2, z_upm (M := M), z_mupm, z_mupm, z_mupm]
  · simp only [ku]; repeat rw [if_neg (by omega)]

theorem lastF_nb {K : Int} {e : Int → Int → Int} (he : eNB e) : ∀ (L : List gC) (a : Option Int), a ≠ some zBK → (∀ x ∈ L, clNB x) → L.foldl (stF K e) a ≠ some zBK
  | [], a, ha, _ => ha
  | x :: t, a, ha, hx => by
    refine lastF_nb he t _ ?_ (fun y hy => hx y (List.mem_cons_of_mem _ hy))
    unfold stF
    split
    · split
      · rename_i y hy
        intro h
        exact (hx x List.mem_cons_self e he).1 (by rw [hy]; exact h)
      · exact ha
    · exact ha
theorem tell_of {K : Int} {e : Int → Int → Int} {L : List gC} {r lo wo : Int} (hr : r = (lastF K e L).getD zBK) (he : eNB e) (hL : ∀ x ∈ L, clNB x) (hlo : lo ≤ 99) : tellF lo wo (lastF K e L) = (if r = zBK then wo else max lo (min 99 r)) := by
  have hn := lastF_nb (K := K) he L none (by intro h; cases h) hL
  cases hq : lastF K e L with
  | none => rw [hq] at hr; have hr : r = zBK := hr; rw [if_pos hr]; rfl
  | some y =>
    rw [hq] at hr
    have hr : r = y := hr
    have hy : y ≠ zBK := fun h => hn (by show lastF K e L = _; rw [hq, h])
    rw [if_neg (by rw [hr]; exact hy), hr]
    show clamp lo y = _
    unfold clamp
    split <;> (try split) <;> omega

set_option maxRecDepth 100000 in
set_option maxHeartbeats 4000000 in
theorem c_X1_casksOf {d sz : Nat} {S : zSh} {M : zMem} (hL : LY S sz) {a : Nat} (h : SH S sz a) (had : a + 11 ≤ 40 ∨ 43 ≤ a) {k : Nat → Int} (hs : SR M a k) (hi : KI k) {Lw : List gC} (hLw : LwC S sz M a k Lw) (hv : v42 M) {x y : Int} (hx : 0 ≤ x ∧ x < 4) (hy : 0 ≤ y ∧ y ≤ 8) : zX (d + 3) 0 0 mX1_casksOf [zn 39, zn a, zi x, zi y] sz S M (zI sz S (fun r M' => r = zcasks Lw k x.toNat y ∧ jF M M')) := by
  have i1 := hi.1
  have i2 := hi.2.2.1 x.toNat (by omega)
  have q4 := hs.2.2.2.2.2.1 x.toNat (by omega)
  refine zX_of pl_RX1 [some (zn 39), some (zn a), some (zi x), some (zi y), none, none] 2 rfl rfl ?_
  refine x_aload_n 1 rfl dX1_casksOf_0 1 rfl rfl ?_
  refine x_cVo 4 rfl lX1_22 dX1_casksOf_1 (shl0 h) (shs0 h) (c_X7_lawInForce h hs hi) rfl rfl (Nat.le_of_ble_eq_true rfl) (fun r M1 hr1 => ?_)
  obtain ⟨hr1, hM1⟩ := hr1
  rw [hM1]
  by_cases h79 : 0 ≤ k 79
  · obtain ⟨T, nh, nc, hT1, hT0, hTX, hTM⟩ := hLw h79
    rw [if_pos h79, hT1] at hr1
    subst hr1
    clear hT1
    refine y_astore 6 rfl dX1_casksOf_4 rfl (ls' := [_, _, _, _, _, _]) rfl (by decide) ?_
    refine x_aload 8 rfl dX1_casksOf_6 rfl ?_
    refine x_ifnonnull 11 14 rfl dX1_casksOf_8 (by decide) (fun c8 => ?_) (fun c8 => ?_)
    · refine x_aload_n 15 rfl dX1_casksOf_14 0 rfl rfl ?_
      refine x_getr 18 rfl fX1_18 dX1_casksOf_15 (lyl39 hL) (lys39 hL) (by decide) (42) rfl ?_
      refine x_iconst 19 rfl dX1_casksOf_18 (by decide) ?_
      refine x_iconst 20 rfl dX1_casksOf_19 (by decide) ?_
      refine x_iastk 21 rfl dX1_casksOf_20 (lyl42 hL) (lys42 hL) 0 rfl (by decide) ?_
      refine x_aload_n 22 rfl dX1_casksOf_21 0 rfl rfl ?_
      refine x_getr 25 rfl fX1_18 dX1_casksOf_22 (lyl39 hL) (lys39 hL) (by decide) (42) rfl ?_
      refine x_iconst 26 rfl dX1_casksOf_25 (by decide) ?_
      refine x_iconst 27 rfl dX1_casksOf_26 (by decide) ?_
      refine x_iastk 28 rfl dX1_casksOf_27 (lyl42 hL) (lys42 hL) 1 rfl (by decide) ?_
      refine x_aload_n 29 rfl dX1_casksOf_28 0 rfl rfl ?_
      refine x_getr 32 rfl fX1_18 dX1_casksOf_29 (lyl39 hL) (lys39 hL) (by decide) (42) rfl ?_
      refine x_iconst 33 rfl dX1_casksOf_32 (by decide) ?_
      refine x_iconst 34 rfl dX1_casksOf_33 (by decide) ?_
      refine x_iastk 35 rfl dX1_casksOf_34 (lyl42 hL) (lys42 hL) 2 rfl (by decide) ?_
      refine x_aload_n 36 rfl dX1_casksOf_35 0 rfl rfl ?_
      refine x_getr 39 rfl fX1_18 dX1_casksOf_36 (lyl39 hL) (lys39 hL) (by decide) (42) rfl ?_
      refine x_iconst 40 rfl dX1_casksOf_39 (by decide) ?_
      refine x_iconst 41 rfl dX1_casksOf_40 (by decide) ?_
      refine x_iastk 42 rfl dX1_casksOf_41 (lyl42 hL) (lys42 hL) 3 rfl (by decide) ?_
      refine x_aload_n 43 rfl dX1_casksOf_42 0 rfl rfl ?_
      refine x_getr 46 rfl fX1_18 dX1_casksOf_43 (lyl39 hL) (lys39 hL) (by decide) (42) rfl ?_
      refine x_iconst 47 rfl dX1_casksOf_46 (by decide) ?_
      refine x_iload_n 48 rfl dX1_casksOf_47 2 rfl rfl ?_
      refine x_iastk 49 rfl dX1_casksOf_48 (lyl42 hL) (lys42 hL) 4 rfl (by decide) ?_
      refine x_aload_n 50 rfl dX1_casksOf_49 0 rfl rfl ?_
      refine x_getr 53 rfl fX1_18 dX1_casksOf_50 (lyl39 hL) (lys39 hL) (by decide) (42) rfl ?_
      refine x_iconst 54 rfl dX1_casksOf_53 (by decide) ?_
      refine x_aload_n 55 rfl dX1_casksOf_54 1 rfl rfl ?_
      refine x_getr 58 rfl fX1_28 dX1_casksOf_55 (shl0 h) (shs0 h) (by decide) (a + 4) rfl ?_
      refine x_iload_n 59 rfl dX1_casksOf_58 2 rfl rfl ?_
      refine x_iald 60 rfl dX1_casksOf_59 (shl4 h) (shs4 h) (by omega) (by omega) ?_
      try simp (disch := omega) only [z_up_ne, z_up_nk, z_up_eq, z_mup_ne, z_mup_eq, Int.reduceToNat, Int.toNat_natCast]
      refine x_iastk 61 rfl dX1_casksOf_60 (lyl42 hL) (lys42 hL) 5 rfl (by decide) ?_
      obtain ⟨f0, hF0⟩ : ∃ f0, f0 = ku (ku (ku (ku (ku (ku (M 42) 0 (-1)) 1 (-1)) 2 (-1)) 3 (-1)) 4 x) 5 (M (a + 4) x.toNat) := ⟨_, rfl⟩
      refine z_mem (M' := z_mup M 42 f0) (by rw [hF0, z_upm (M := M), z_mupm, z_mupm, z_mupm, z_mupm, z_mupm]) ?_
      refine x_aload_n 62 rfl dX1_casksOf_61 0 rfl rfl ?_
      refine x_aload_n 63 rfl dX1_casksOf_62 1 rfl rfl ?_
      refine x_iload_n 64 rfl dX1_casksOf_63 3 rfl rfl ?_
      refine x_cVu 67 rfl lX1_31 dX1_casksOf_64 (lyl39 hL) (lys39 hL) (c_X1_askAboutShip hL h had (SR_frame hs (fun i a1 a2 => by rw [z_mup_ne (by omega)])) hi) rfl rfl (Nat.le_of_ble_eq_true rfl) (fun M2 hr2 => ?_)
      obtain ⟨F, hM2, ⟨f6, f7, f8, f9⟩, hFr0⟩ := hr2
      rw [hM2, z_mup2]
      have hF : cvA k (-1) (-1) (-1) x (k (19 + x.toNat)) (-1) y F := ⟨by rw [hFr0 0 (by omega), z_mup_eq, hF0]; simp [ku], by rw [hFr0 1 (by omega), z_mup_eq, hF0]; simp [ku], by rw [hFr0 2 (by omega), z_mup_eq, hF0]; simp [ku], by rw [hFr0 3 (by omega), z_mup_eq, hF0]; simp [ku], by rw [hFr0 4 (by omega), z_mup_eq, hF0]; simp [ku], by rw [hFr0 5 (by omega), z_mup_eq, hF0]; simp [ku, q4], f6, f7, f8, f9⟩
      have hFr : ∀ j, 10 ≤ j → F j = M 42 j := fun j hj => by rw [hFr0 j (by omega), z_mup_eq, hF0]; simp only [ku]; repeat rw [if_neg (by omega)]
      have hTM9 : TXM (z_mup M 42 F) T nh nc false Lw := TXM_frame hTM (z_mup_ne (by omega)) (z_mup_ne (by omega)) (z_mup_ne (by omega))
      have hv9 : v42 (z_mup M 42 F) := by
        intro j hj
        rw [z_mup_eq]
        by_cases h10 : j < 10
        · obtain ⟨a0, a1, a2, a3, a4, a5, a6, a7, a8, a9⟩ := id hF
          have : j = 0 ∨ j = 1 ∨ j = 2 ∨ j = 3 ∨ j = 4 ∨ j = 5 ∨ j = 6 ∨ j = 7 ∨ j = 8 ∨ j = 9 := by omega
          rcases this with rfl | rfl | rfl | rfl | rfl | rfl | rfl | rfl | rfl | rfl <;> omega
        · rw [hFr j (by omega)]; exact hv j hj
      refine x_aload_n 68 rfl dX1_casksOf_67 0 rfl rfl ?_
      refine x_aload 70 rfl dX1_casksOf_68 rfl ?_
      refine x_bipush 72 rfl dX1_casksOf_70 (by decide) ?_
      refine x_cVi 75 rfl lX1_35 dX1_casksOf_72 (lyl39 hL) (lys39 hL) (c_X1_lastTold hL hTX hT0 hTM9 hv9 (by rw [z_mup_eq]; exact cvA_EV hF) (lwE_nb (by omega) (by omega) (by omega) (by omega) (by omega) (by omega) (by omega) (by omega) (by omega) (by omega)) (by decide)) rfl rfl (Nat.le_of_ble_eq_true rfl) (fun r M3 hr3 => ?_)
      obtain ⟨hr4, s3, hM3⟩ := hr3
      rw [hM3]
      refine y_istore 77 rfl dX1_casksOf_75 rfl (ls' := [_, _, _, _, _, _]) rfl (by decide) ?_
      refine x_iload 79 rfl dX1_casksOf_77 rfl ?_
      refine x_ldc (x := -2000000000) 81 rfl kX1_39 (by decide) dX1_casksOf_79 ?_
      refine x_icmp_ne 84 89 rfl dX1_casksOf_81 (by decide) (fun c81 => ?_) (fun c81 => ?_)
      · refine x_iconst 90 rfl dX1_casksOf_89 (by decide) ?_
        refine x_bipush 92 rfl dX1_casksOf_90 (by decide) ?_
        refine x_iload 94 rfl dX1_casksOf_92 rfl ?_
        refine x_cSi 97 rfl lX1_40 dX1_casksOf_94 c_min rfl rfl (Nat.le_of_ble_eq_true rfl) (fun r M1 hr1 => ?_)
        obtain ⟨rfl, hM1⟩ := hr1
        rw [hM1]
        refine x_cSi 100 rfl lX1_46 dX1_casksOf_97 c_max rfl rfl (Nat.le_of_ble_eq_true rfl) (fun r M1 hr1 => ?_)
        obtain ⟨rfl, hM1⟩ := hr1
        rw [hM1]
        refine x_reti dX1_casksOf_100 rfl ?_
        refine ⟨?_, ⟨fun i a1 a2 => by rw [z_mup_ne a1, z_mup_ne a2], fun j hj => by rw [z_mup_ne (show (42 : Nat) ≠ 41 by decide)]; exact hv9 j hj⟩⟩
        unfold zcasks
        rw [if_neg (by omega), Int.toNat_of_nonneg hx.1, tell_of hr4 (lwE_nb (by omega) (by omega) (by omega) (by omega) (by omega) (by omega) (by omega) (by omega) (by omega) (by omega)) (fun z hz => (hTM.2.2.2.2.2.2 z hz).2.2) (by decide), if_neg (by unfold zBK; omega)]
      · refine x_bipush 86 rfl dX1_casksOf_84 (by decide) ?_
        refine x_goto 100 dX1_casksOf_86 (by decide) ?_
        refine x_reti dX1_casksOf_100 rfl ?_
        refine ⟨?_, ⟨fun i a1 a2 => by rw [z_mup_ne a1, z_mup_ne a2], fun j hj => by rw [z_mup_ne (show (42 : Nat) ≠ 41 by decide)]; exact hv9 j hj⟩⟩
        unfold zcasks
        rw [if_neg (by omega), Int.toNat_of_nonneg hx.1, tell_of hr4 (lwE_nb (by omega) (by omega) (by omega) (by omega) (by omega) (by omega) (by omega) (by omega) (by omega) (by omega)) (fun z hz => (hTM.2.2.2.2.2.2 z hz).2.2) (by decide), if_pos (by unfold zBK; omega)]
    · exfalso; omega
  · rw [if_neg h79] at hr1
    subst hr1
    refine y_astore 6 rfl dX1_casksOf_4 rfl (ls' := [_, _, _, _, _, _]) rfl (by decide) ?_
    refine x_aload 8 rfl dX1_casksOf_6 rfl ?_
    refine x_ifnonnull 11 14 rfl dX1_casksOf_8 (by decide) (fun c8 => ?_) (fun c8 => ?_)
    · exfalso; omega
    · refine x_bipush 13 rfl dX1_casksOf_11 (by decide) ?_
      refine x_reti dX1_casksOf_13 rfl ?_
      refine ⟨?_, jF_refl hv⟩
      unfold zcasks
      rw [if_pos (by omega)]

set_option maxRecDepth 100000 in
set_option maxHeartbeats 4000000 in
theorem c_X1_eatenBy {d sz : Nat} {S : zSh} {M : zMem} (hL : LY S sz) {a : Nat} (h : SH S sz a) (had : a + 11 ≤ 40 ∨ 43 ≤ a) {k : Nat → Int} (hs : SR M a k) (hi : KI k) {Lw : List gC} (hLw : LwC S sz M a k Lw) (hv : v42 M) {x : Int} (hx : 0 ≤ x ∧ x < 8) : zX (d + 3) 0 0 mX1_eatenBy [zn 39, zn a, zi x] sz S M (zI sz S (fun r M' => r = zeats Lw k x.toNat ∧ jF M M')) := by
  have i1 := hi.1
  have i2 := hi.2.1 x.toNat (by omega)
  have i3 := zcrew_in hi
  have q1 := hs.2.2.1 x.toNat (by omega)
  refine zX_of pl_RX1 [some (zn 39), some (zn a), some (zi x), none, none] 2 rfl rfl ?_
  refine x_aload_n 1 rfl dX1_eatenBy_0 1 rfl rfl ?_
  refine x_cVo 4 rfl lX1_22 dX1_eatenBy_1 (shl0 h) (shs0 h) (c_X7_lawInForce h hs hi) rfl rfl (Nat.le_of_ble_eq_true rfl) (fun r M1 hr1 => ?_)
  obtain ⟨hr1, hM1⟩ := hr1
  rw [hM1]
  by_cases h79 : 0 ≤ k 79
  · obtain ⟨T, nh, nc, hT1, hT0, hTX, hTM⟩ := hLw h79
    rw [if_pos h79, hT1] at hr1
    subst hr1
    clear hT1
    refine y_astore_n 5 rfl dX1_eatenBy_4 rfl rfl (ls' := [_, _, _, _, _]) rfl (by decide) ?_
    refine x_aload_n 6 rfl dX1_eatenBy_5 3 rfl rfl ?_
    refine x_ifnonnull 9 11 rfl dX1_eatenBy_6 (by decide) (fun c6 => ?_) (fun c6 => ?_)
    · refine x_aload_n 12 rfl dX1_eatenBy_11 0 rfl rfl ?_
      refine x_aload_n 13 rfl dX1_eatenBy_12 1 rfl rfl ?_
      refine x_iload_n 14 rfl dX1_eatenBy_13 2 rfl rfl ?_
      refine x_aload_n 15 rfl dX1_eatenBy_14 1 rfl rfl ?_
      refine x_getr 18 rfl fX1_49 dX1_eatenBy_15 (shl0 h) (shs0 h) (by decide) (a + 1) rfl ?_
      refine x_iload_n 19 rfl dX1_eatenBy_18 2 rfl rfl ?_
      refine x_iald 20 rfl dX1_eatenBy_19 (shl1 h) (shs1 h) (by omega) (by omega) ?_
      try simp (disch := omega) only [z_up_ne, z_up_nk, z_up_eq, z_mup_ne, z_mup_eq, Int.reduceToNat, Int.toNat_natCast]
      rw [q1]
      refine x_cVu 23 rfl lX1_52 dX1_eatenBy_20 (lyl39 hL) (lys39 hL) (c_X1_askAboutHand hL h had hs hi hx) rfl rfl (Nat.le_of_ble_eq_true rfl) (fun M2 hr2 => ?_)
      obtain ⟨F0, hM2, ⟨f0, f1, f2, f3, f4, f5⟩, hF0⟩ := hr2
      rw [hM2]
      have hs2 : SR (z_mup M 42 F0) a k := SR_frame hs (fun i a1 a2 => by rw [z_mup_ne (by omega)])
      refine x_aload_n 24 rfl dX1_eatenBy_23 0 rfl rfl ?_
      refine x_aload_n 25 rfl dX1_eatenBy_24 1 rfl rfl ?_
      refine x_aload_n 26 rfl dX1_eatenBy_25 1 rfl rfl ?_
      refine x_cVi 29 rfl lX1_56 dX1_eatenBy_26 (shl0 h) (shs0 h) (c_X7_crewSize h hs2 hi) rfl rfl (Nat.le_of_ble_eq_true rfl) (fun r M1 hr1 => ?_)
      obtain ⟨rfl, hM1⟩ := hr1
      rw [hM1]
      refine x_cVu 32 rfl lX1_31 dX1_eatenBy_29 (lyl39 hL) (lys39 hL) (c_X1_askAboutShip hL h had hs2 hi) rfl rfl (Nat.le_of_ble_eq_true rfl) (fun M3 hr3 => ?_)
      obtain ⟨F, hM3, ⟨f6, f7, f8, f9⟩, hFr0⟩ := hr3
      rw [hM3, z_mup2]
      have hF : cvA k x (k (23 + x.toNat)) (k 2 - k (31 + x.toNat)) (-1) (-1) (k (3 + x.toNat)) (zcrew k) F := ⟨by rw [hFr0 0 (by omega), z_mup_eq]; exact f0, by rw [hFr0 1 (by omega), z_mup_eq]; exact f1, by rw [hFr0 2 (by omega), z_mup_eq]; exact f2, by rw [hFr0 3 (by omega), z_mup_eq]; exact f3, by rw [hFr0 4 (by omega), z_mup_eq]; exact f4, by rw [hFr0 5 (by omega), z_mup_eq]; exact f5, f6, f7, f8, f9⟩
      have hFr : ∀ j, 10 ≤ j → F j = M 42 j := fun j hj => by rw [hFr0 j (by omega), z_mup_eq, hF0 j (by omega)]
      have hTM9 : TXM (z_mup M 42 F) T nh nc false Lw := TXM_frame hTM (z_mup_ne (by omega)) (z_mup_ne (by omega)) (z_mup_ne (by omega))
      have hv9 : v42 (z_mup M 42 F) := by
        intro j hj
        rw [z_mup_eq]
        by_cases h10 : j < 10
        · obtain ⟨a0, a1, a2, a3, a4, a5, a6, a7, a8, a9⟩ := id hF
          have : j = 0 ∨ j = 1 ∨ j = 2 ∨ j = 3 ∨ j = 4 ∨ j = 5 ∨ j = 6 ∨ j = 7 ∨ j = 8 ∨ j = 9 := by omega
          rcases this with rfl | rfl | rfl | rfl | rfl | rfl | rfl | rfl | rfl | rfl <;> omega
        · rw [hFr j (by omega)]; exact hv j hj
      refine x_aload_n 33 rfl dX1_eatenBy_32 0 rfl rfl ?_
      refine x_aload_n 34 rfl dX1_eatenBy_33 3 rfl rfl ?_
      refine x_bipush 36 rfl dX1_eatenBy_34 (by decide) ?_
      refine x_cVi 39 rfl lX1_35 dX1_eatenBy_36 (lyl39 hL) (lys39 hL) (c_X1_lastTold hL hTX hT0 hTM9 hv9 (by rw [z_mup_eq]; exact cvA_EV hF) (lwE_nb (by omega) (by omega) (by omega) (by omega) (by omega) (by omega) (by omega) (by omega) (by omega) (by omega)) (by decide)) rfl rfl (Nat.le_of_ble_eq_true rfl) (fun r M3 hr3 => ?_)
      obtain ⟨hr4, s3, hM3⟩ := hr3
      rw [hM3]
      refine y_istore 41 rfl dX1_eatenBy_39 rfl (ls' := [_, _, _, _, _]) rfl (by decide) ?_
      refine x_iload 43 rfl dX1_eatenBy_41 rfl ?_
      refine x_ldc (x := -2000000000) 45 rfl kX1_39 (by decide) dX1_eatenBy_43 ?_
      refine x_icmp_ne 48 52 rfl dX1_eatenBy_45 (by decide) (fun c45 => ?_) (fun c45 => ?_)
      · refine x_iconst 53 rfl dX1_eatenBy_52 (by decide) ?_
        refine x_bipush 55 rfl dX1_eatenBy_53 (by decide) ?_
        refine x_iload 57 rfl dX1_eatenBy_55 rfl ?_
        refine x_cSi 60 rfl lX1_40 dX1_eatenBy_57 c_min rfl rfl (Nat.le_of_ble_eq_true rfl) (fun r M1 hr1 => ?_)
        obtain ⟨rfl, hM1⟩ := hr1
        rw [hM1]
        refine x_cSi 63 rfl lX1_46 dX1_eatenBy_60 c_max rfl rfl (Nat.le_of_ble_eq_true rfl) (fun r M1 hr1 => ?_)
        obtain ⟨rfl, hM1⟩ := hr1
        rw [hM1]
        refine x_reti dX1_eatenBy_63 rfl ?_
        refine ⟨?_, ⟨fun i a1 a2 => by rw [z_mup_ne a1, z_mup_ne a2], fun j hj => by rw [z_mup_ne (show (42 : Nat) ≠ 41 by decide)]; exact hv9 j hj⟩⟩
        unfold zeats hdE
        rw [if_neg (by omega), Int.toNat_of_nonneg hx.1, tell_of hr4 (lwE_nb (by omega) (by omega) (by omega) (by omega) (by omega) (by omega) (by omega) (by omega) (by omega) (by omega)) (fun z hz => (hTM.2.2.2.2.2.2 z hz).2.2) (by decide), if_neg (by unfold zBK; omega)]
      · refine x_iconst 49 rfl dX1_eatenBy_48 (by decide) ?_
        refine x_goto 63 dX1_eatenBy_49 (by decide) ?_
        refine x_reti dX1_eatenBy_63 rfl ?_
        refine ⟨?_, ⟨fun i a1 a2 => by rw [z_mup_ne a1, z_mup_ne a2], fun j hj => by rw [z_mup_ne (show (42 : Nat) ≠ 41 by decide)]; exact hv9 j hj⟩⟩
        unfold zeats hdE
        rw [if_neg (by omega), Int.toNat_of_nonneg hx.1, tell_of hr4 (lwE_nb (by omega) (by omega) (by omega) (by omega) (by omega) (by omega) (by omega) (by omega) (by omega) (by omega)) (fun z hz => (hTM.2.2.2.2.2.2 z hz).2.2) (by decide), if_pos (by unfold zBK; omega)]
    · exfalso; omega
  · rw [if_neg h79] at hr1
    subst hr1
    refine y_astore_n 5 rfl dX1_eatenBy_4 rfl rfl (ls' := [_, _, _, _, _]) rfl (by decide) ?_
    refine x_aload_n 6 rfl dX1_eatenBy_5 3 rfl rfl ?_
    refine x_ifnonnull 9 11 rfl dX1_eatenBy_6 (by decide) (fun c6 => ?_) (fun c6 => ?_)
    · exfalso; omega
    · refine x_iconst 10 rfl dX1_eatenBy_9 (by decide) ?_
      refine x_reti dX1_eatenBy_10 rfl ?_
      refine ⟨?_, jF_refl hv⟩
      unfold zeats
      rw [if_pos (by omega)]

theorem des_of {K : Int} {e : Int → Int → Int} {L : List gC} {r : Int} (hr : r = (lastF K e L).getD zBK) (hd : ∀ x ∈ L, x.1.1 = K → x.2.1 = v_k 1) : (r = zBK ∧ tellF 0 0 (lastF K e L) = 0) ∨ (r = 1 ∧ tellF 0 0 (lastF K e L) = 1) := by
  have key : ∀ (L : List gC) (a : Option Int), (a = none ∨ a = some 1) → (∀ x ∈ L, x.1.1 = K → x.2.1 = v_k 1) → L.foldl (stF K e) a = none ∨ L.foldl (stF K e) a = some 1 := by
    intro L
    induction L with
    | nil => intro a ha _; exact ha
    | cons x t ih =>
      intro a ha hx
      refine ih _ ?_ (fun y hy => hx y (List.mem_cons_of_mem _ hy))
      unfold stF
      split
      · rename_i h
        rw [hx x List.mem_cons_self h.1]
        exact Or.inr rfl
      · exact ha
  rcases key L none (Or.inl rfl) hd with h | h
  · left; have h : lastF K e L = none := h; rw [h] at hr ⊢; exact ⟨hr, rfl⟩
  · right; have h : lastF K e L = some 1 := h; rw [h] at hr ⊢; exact ⟨hr, by decide⟩

set_option maxRecDepth 100000 in
set_option maxHeartbeats 4000000 in
theorem c_X1_runsOff {d sz : Nat} {S : zSh} {M : zMem} (hL : LY S sz) {a : Nat} (h : SH S sz a) (had : a + 11 ≤ 40 ∨ 43 ≤ a) {k : Nat → Int} (hs : SR M a k) (hi : KI k) {Lw : List gC} (hLw : LwC S sz M a k Lw) (hv : v42 M) {x y z : Int} (hx : 0 ≤ x ∧ x < 8) (hy : 0 ≤ y ∧ y ≤ 999) (hz : 0 ≤ z ∧ z ≤ 8) : zX (d + 3) 0 0 mX1_runsOff [zn 39, zn a, zi x, zi y, zi z] sz S M (zI sz S (fun r M' => ((r = 1 ∧ zdes Lw k x.toNat y z) ∨ (r = 0 ∧ ¬ zdes Lw k x.toNat y z)) ∧ jF M M')) := by
  have i1 := hi.1
  have i2 := hi.2.1 x.toNat (by omega)
  refine zX_of pl_RX1 [some (zn 39), some (zn a), some (zi x), some (zi y), some (zi z), none] 1 rfl rfl ?_
  refine x_aload_n 1 rfl dX1_runsOff_0 1 rfl rfl ?_
  refine x_cVo 4 rfl lX1_22 dX1_runsOff_1 (shl0 h) (shs0 h) (c_X7_lawInForce h hs hi) rfl rfl (Nat.le_of_ble_eq_true rfl) (fun r M1 hr1 => ?_)
  obtain ⟨hr1, hM1⟩ := hr1
  rw [hM1]
  by_cases h79 : 0 ≤ k 79
  · obtain ⟨T, nh, nc, hT1, hT0, hTX, hTM⟩ := hLw h79
    rw [if_pos h79, hT1] at hr1
    subst hr1
    clear hT1
    refine y_astore 6 rfl dX1_runsOff_4 rfl (ls' := [_, _, _, _, _, _]) rfl (by decide) ?_
    refine x_aload 8 rfl dX1_runsOff_6 rfl ?_
    refine x_ifnonnull 11 13 rfl dX1_runsOff_8 (by decide) (fun c8 => ?_) (fun c8 => ?_)
    · refine x_aload_n 14 rfl dX1_runsOff_13 0 rfl rfl ?_
      refine x_aload_n 15 rfl dX1_runsOff_14 1 rfl rfl ?_
      refine x_iload_n 16 rfl dX1_runsOff_15 2 rfl rfl ?_
      refine x_iload_n 17 rfl dX1_runsOff_16 3 rfl rfl ?_
      refine x_cVu 20 rfl lX1_52 dX1_runsOff_17 (lyl39 hL) (lys39 hL) (c_X1_askAboutHand hL h had hs hi hx) rfl rfl (Nat.le_of_ble_eq_true rfl) (fun M2 hr2 => ?_)
      obtain ⟨F0, hM2, ⟨f0, f1, f2, f3, f4, f5⟩, hF0⟩ := hr2
      rw [hM2]
      have hs2 : SR (z_mup M 42 F0) a k := SR_frame hs (fun i a1 a2 => by rw [z_mup_ne (by omega)])
      refine x_aload_n 21 rfl dX1_runsOff_20 0 rfl rfl ?_
      refine x_aload_n 22 rfl dX1_runsOff_21 1 rfl rfl ?_
      refine x_iload 24 rfl dX1_runsOff_22 rfl ?_
      refine x_cVu 27 rfl lX1_31 dX1_runsOff_24 (lyl39 hL) (lys39 hL) (c_X1_askAboutShip hL h had hs2 hi) rfl rfl (Nat.le_of_ble_eq_true rfl) (fun M3 hr3 => ?_)
      obtain ⟨F, hM3, ⟨f6, f7, f8, f9⟩, hFr0⟩ := hr3
      rw [hM3, z_mup2]
      have hF : cvA k x y (k 2 - k (31 + x.toNat)) (-1) (-1) (k (3 + x.toNat)) z F := ⟨by rw [hFr0 0 (by omega), z_mup_eq]; exact f0, by rw [hFr0 1 (by omega), z_mup_eq]; exact f1, by rw [hFr0 2 (by omega), z_mup_eq]; exact f2, by rw [hFr0 3 (by omega), z_mup_eq]; exact f3, by rw [hFr0 4 (by omega), z_mup_eq]; exact f4, by rw [hFr0 5 (by omega), z_mup_eq]; exact f5, f6, f7, f8, f9⟩
      have hFr : ∀ j, 10 ≤ j → F j = M 42 j := fun j hj => by rw [hFr0 j (by omega), z_mup_eq, hF0 j (by omega)]
      have hTM9 : TXM (z_mup M 42 F) T nh nc false Lw := TXM_frame hTM (z_mup_ne (by omega)) (z_mup_ne (by omega)) (z_mup_ne (by omega))
      have hv9 : v42 (z_mup M 42 F) := by
        intro j hj
        rw [z_mup_eq]
        by_cases h10 : j < 10
        · obtain ⟨a0, a1, a2, a3, a4, a5, a6, a7, a8, a9⟩ := id hF
          have : j = 0 ∨ j = 1 ∨ j = 2 ∨ j = 3 ∨ j = 4 ∨ j = 5 ∨ j = 6 ∨ j = 7 ∨ j = 8 ∨ j = 9 := by omega
          rcases this with rfl | rfl | rfl | rfl | rfl | rfl | rfl | rfl | rfl | rfl <;> omega
        · rw [hFr j (by omega)]; exact hv j hj
      refine x_aload_n 28 rfl dX1_runsOff_27 0 rfl rfl ?_
      refine x_aload 30 rfl dX1_runsOff_28 rfl ?_
      refine x_bipush 32 rfl dX1_runsOff_30 (by decide) ?_
      refine x_cVi 35 rfl lX1_35 dX1_runsOff_32 (lyl39 hL) (lys39 hL) (c_X1_lastTold hL hTX hT0 hTM9 hv9 (by rw [z_mup_eq]; exact cvA_EV hF) (lwE_nb (by omega) (by omega) (by omega) (by omega) (by omega) (by omega) (by omega) (by omega) (by omega) (by omega)) (by decide)) rfl rfl (Nat.le_of_ble_eq_true rfl) (fun r M3 hr3 => ?_)
      obtain ⟨hr4, s3, hM3⟩ := hr3
      rw [hM3]
      have hdes : ∀ w ∈ Lw, w.1.1 = 15 → w.2.1 = v_k 1 := fun w hw hk15 => by
        obtain ⟨hc, hm, -⟩ := hTM.2.2.2.2.2.2 w hw
        have h15 := hc.2.2.1 hk15
        rcases hm.1 with h7 | h7
        · exact h7.2
        · exfalso; have := h7.1; omega
      refine x_ldc (x := -2000000000) 37 rfl kX1_39 (by decide) dX1_runsOff_35 ?_
      refine x_icmp_eq 40 44 rfl dX1_runsOff_37 (by decide) (fun c37 => ?_) (fun c37 => ?_)
      · refine x_iconst 45 rfl dX1_runsOff_44 (by decide) ?_
        refine x_retz dX1_runsOff_45 rfl (by omega) ?_
        refine ⟨Or.inr ⟨rfl, fun hh => ?_⟩, ⟨fun i a1 a2 => by rw [z_mup_ne a1, z_mup_ne a2], fun j hj => by rw [z_mup_ne (show (42 : Nat) ≠ 41 by decide)]; exact hv9 j hj⟩⟩
        have h9 := hh.2
        unfold hdE at h9
        rw [Int.toNat_of_nonneg hx.1] at h9
        rcases des_of hr4 hdes with h8 | h8
        · omega
        · unfold zBK at *; omega
      · refine x_iconst 41 rfl dX1_runsOff_40 (by decide) ?_
        refine x_goto 45 dX1_runsOff_41 (by decide) ?_
        refine x_retz dX1_runsOff_45 rfl (by omega) ?_
        refine ⟨Or.inl ⟨rfl, ⟨by omega, ?_⟩⟩, ⟨fun i a1 a2 => by rw [z_mup_ne a1, z_mup_ne a2], fun j hj => by rw [z_mup_ne (show (42 : Nat) ≠ 41 by decide)]; exact hv9 j hj⟩⟩
        unfold hdE
        rw [Int.toNat_of_nonneg hx.1]
        rcases des_of hr4 hdes with h8 | h8
        · exfalso; unfold zBK at h8; omega
        · exact h8.2
    · exfalso; omega
  · rw [if_neg h79] at hr1
    subst hr1
    refine y_astore 6 rfl dX1_runsOff_4 rfl (ls' := [_, _, _, _, _, _]) rfl (by decide) ?_
    refine x_aload 8 rfl dX1_runsOff_6 rfl ?_
    refine x_ifnonnull 11 13 rfl dX1_runsOff_8 (by decide) (fun c8 => ?_) (fun c8 => ?_)
    · exfalso; omega
    · refine x_iconst 12 rfl dX1_runsOff_11 (by decide) ?_
      refine x_retz dX1_runsOff_12 rfl (by omega) ?_
      refine ⟨Or.inr ⟨rfl, fun hh => hh.1 (by omega)⟩, jF_refl hv⟩
