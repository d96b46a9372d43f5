/-! class: orders are run -/
theorem actR_79 {Lw : List gC} {k k' : Nat → Int} {K x y r : Int} (hi : KI k) (hK : 16 ≤ K ∧ K ≤ 19) (h : actR Lw k K x y r k') : k' 79 = k 79 := by
  obtain ⟨hA, hB, hC, hD⟩ := h
  have i0 := hi.1
  have : K = 16 ∨ K = 17 ∨ K = 18 ∨ K = 19 := by omega
  rcases this with e | e | e | e
  · rcases hA e with ⟨h1, h2, h3⟩ | ⟨h1, h0, h2, h3⟩ | ⟨h1, h0, h2, h3, h4⟩ | ⟨h1, h0, h2, h3, h4⟩
    · rw [h3]
    · rw [h3]
    · rw [h4]
    · rw [h4]
      unfold kH2 kOff
      rw [if_neg (by omega)]
      exact kH1_o (by omega) (by omega)
  · rcases hB e with ⟨h1, h2, h3⟩ | ⟨h1, h2, h3, h4⟩ | ⟨h1, h2, h3, h4⟩
    · rw [h3]
    · rw [h4]
    · rw [h4]; simp [kSell, ku]
  · rcases hC e with ⟨h1, h2, h3⟩ | ⟨h1, h0, h2, h3⟩ | ⟨h1, h0, h2, h3, h4⟩ | ⟨h1, h0, h2, h3, h4, h5⟩
    · rw [h3]
    · rw [h3]
    · rw [h4]
    · rw [h5]
      simp only [kAdv, ku]
      rw [if_neg (by omega), if_neg (by omega)]
  · rcases hD e with ⟨h1, h2, h3⟩ | ⟨h1, h2, h3, h4⟩ | ⟨h1, h2, h3, h4⟩
    · rw [h3]
    · rw [h4]
    · rw [h4]
      simp only [kLeave, ku]
      rw [if_neg (by omega)]
def v48 (M : zMem) : Prop := ∀ j, j < 25 → -1000000000 ≤ M 48 j ∧ M 48 j ≤ 1000000000
/-- the reader's text holds these orders -/
def OT (M : zMem) (L : List gC) : Prop := M 36 0 = (L.length : Int) ∧ L.length ≤ 12 ∧ (∀ i x, L[i]? = some x → M 37 (5 * i) = x.1.1 ∧ M 37 (5 * i + 1) = x.1.2.1 ∧ M 37 (5 * i + 2) = x.1.2.2.1 ∧ M 37 (5 * i + 3) = x.1.2.2.2.1 ∧ M 37 (5 * i + 4) = x.1.2.2.2.2) ∧ (∀ x ∈ L, clH true x ∧ clM true (nrm (M 38)) 400 x ∧ clNB x ∧ 0 ≤ x.1.2.1)
theorem OT_frame {M M' : zMem} {L : List gC} (h : OT M L) (h0 : M' 36 = M 36) (h1 : M' 37 = M 37) (h2 : M' 38 = M 38) : OT M' L := by
  unfold OT at h ⊢
  rw [h0, h1, h2]
  exact h
theorem oV_v48 {M M' : zMem} {k : Nat → Int} {dn gn : Int} (hi : KI k) (hv : v48 M) (h : oV (M' 48) k dn gn) (hd : 0 ≤ dn ∧ dn ≤ 1000000) (hg : -1 ≤ gn ∧ gn ≤ 1000000) (hG : ∀ j, (j < 6 ∨ j = 7 ∨ j = 9) → M' 48 j = M 48 j) : v48 M' := by
  obtain ⟨h1, h2, h3, h4, h5, h6, h7⟩ := h
  have i1 := hi.1
  intro j hj
  by_cases c1 : j < 6 ∨ j = 7 ∨ j = 9
  · rw [hG j c1]; exact hv j hj
  · by_cases c2 : j < 13
    · have : j = 6 ∨ j = 8 ∨ j = 10 ∨ j = 11 ∨ j = 12 := by omega
      rcases this with rfl | rfl | rfl | rfl | rfl <;> omega
    · by_cases c3 : j < 21
      · have e := h6 (j - 13) (by omega)
        rw [show 13 + (j - 13) = j by omega] at e
        have := hi.2.1 (j - 13) (by omega)
        rw [e]; split <;> omega
      · have e := h7 (j - 21) (by omega)
        rw [show 21 + (j - 21) = j by omega] at e
        have := hi.2.2.1 (j - 21) (by omega)
        rw [e]; split <;> omega

set_option maxRecDepth 100000 in
set_option maxHeartbeats 4000000 in
theorem c_X0_valueOf {d sz : Nat} {S : zSh} {M : zMem} (hL : LY S sz) {L : List gC} (hO : OT M L) {i : Nat} {x : gC} (hx : L[i]? = some x) (hv : v48 M) {e : Int → Int → Int} (hE : EV true (M 48) e) {w : Int} (hw : w = 1 ∨ w = 2) : zX (d + 2) 0 0 mX0_valueOf [zn 45, zn 36, zi (i : Int), zi w] sz S M (zI sz S (fun r M' => r = ((if w = 1 then x.2.1 else x.2.2.1) e).getD zBK ∧ ∃ s, M' = z_mup M 47 s)) := by
  obtain ⟨-, hlen, hh, hc⟩ := id hO
  have hil : i < L.length := (List.getElem?_eq_some_iff.mp hx).1
  obtain ⟨-, h1, h2, -, -⟩ := hh i x hx
  obtain ⟨⟨-, -, -, b1, b2, -⟩, ⟨m1, m2, -⟩, -, hpos⟩ := hc x (List.mem_of_getElem? hx)
  obtain ⟨f, V, hf, hV, hseg, hfb⟩ : ∃ (f : Int) (V : gV), M (36 + 1) (5 * i + w.toNat) = f ∧ (if w = 1 then x.2.1 else x.2.2.1) = V ∧ ((f = -1 ∧ V = v_k 0) ∨ segM true (nrm (M 38)) 400 f V) ∧ (-1 ≤ f ∧ f ≤ 400) := by
    rcases hw with rfl | rfl
    · refine ⟨_, _, h1, rfl, .inr ?_, b1⟩
      rw [if_pos rfl]
      rcases m1 with h9 | h9
      · exfalso; have := h9.1; omega
      · exact h9
    · refine ⟨_, _, h2, rfl, ?_, b2⟩
      rw [if_neg (by decide)]
      exact m2
  rw [hV]
  refine zX_of pl_RX0 [some (zn 45), some (zn 36), some (zi (i : Int)), some (zi w), none] 1 rfl rfl ?_
  refine x_aload_n 1 rfl dX0_valueOf_0 1 rfl rfl ?_
  refine x_iload_n 2 rfl dX0_valueOf_1 2 rfl rfl ?_
  refine x_iload_n 3 rfl dX0_valueOf_2 3 rfl rfl ?_
  refine x_cVi 6 rfl lX0_35 dX0_valueOf_3 (lyl36 hL) (lys36 hL) (c_X9_get (t := 36) (ly_tx36 hL) ⟨by decide, by decide⟩ (by omega) (by omega)) rfl rfl (Nat.le_of_ble_eq_true rfl) (fun r M1 hr1 => ?_)
  obtain ⟨rfl, hM1⟩ := hr1
  rw [hM1, if_pos (by omega), show ((i : Int) * 5 + w).toNat = 5 * i + w.toNat by omega, hf]
  refine y_istore 8 rfl dX0_valueOf_6 rfl (ls' := [_, _, _, _, _]) rfl (by decide) ?_
  refine x_iload 10 rfl dX0_valueOf_8 rfl ?_
  refine x_iconst 11 rfl dX0_valueOf_10 (by decide) ?_
  refine x_icmp_ne 14 18 rfl dX0_valueOf_11 (by decide) (fun c11 => ?_) (fun c11 => ?_)
  · refine x_aload_n 19 rfl dX0_valueOf_18 0 rfl rfl ?_
    refine x_getr 22 rfl fX0_12 dX0_valueOf_19 (lyl45 hL) (lys45 hL) (by decide) (46) rfl ?_
    refine x_aload_n 23 rfl dX0_valueOf_22 1 rfl rfl ?_
    refine x_getr 26 rfl fX0_43 dX0_valueOf_23 (lyl36 hL) (lys36 hL) (by decide) (38) rfl ?_
    refine x_iload 28 rfl dX0_valueOf_26 rfl ?_
    refine x_aload_n 29 rfl dX0_valueOf_28 0 rfl rfl ?_
    refine x_getr 32 rfl fX0_18 dX0_valueOf_29 (lyl45 hL) (lys45 hL) (by decide) (48) rfl ?_
    refine x_cVi 35 rfl lX0_46 dX0_valueOf_32 (lyl46 hL) (lys46 hL) (c_X3_value2 (a := 46) (c := 38) (v := 48) (ly_mc46 hL) (lyl38 hL) (lys38 hL) (lyl48 hL) (lys48 hL) ⟨by decide, by decide⟩ (by decide) (by omega) hv) rfl rfl (Nat.le_of_ble_eq_true rfl) (fun r M2 hr2 => ?_)
    obtain ⟨hr2, s2, hM2⟩ := hr2
    rw [hM2]
    refine x_reti dX0_valueOf_35 rfl ?_
    refine ⟨?_, s2, rfl⟩
    rcases hseg with h9 | h9
    · exfalso; have := h9.1; omega
    · rw [hr2, h9.2.2 _ e _ hE]
  · refine x_iconst 15 rfl dX0_valueOf_14 (by decide) ?_
    refine x_goto 35 dX0_valueOf_15 (by decide) ?_
    refine x_reti dX0_valueOf_35 rfl ?_
    refine ⟨?_, M 47, z_mup_self.symm⟩
    rcases hseg with h9 | h9
    · rw [h9.2]; rfl
    · exfalso; have := h9.1; omega
