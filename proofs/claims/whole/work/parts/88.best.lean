/-! best, as it is called -/
/-- the reference's scratch, its worths and casks apart, nothing has changed -/
def bF (M M' : zMem) : Prop := (∀ i, i ≠ 55 → i ≠ 67 → i ≠ 71 → i ≠ 72 → M' i = M i) ∧ ∀ j, j ≠ 22 → j ≠ 23 → j ≠ 24 → j ≠ 25 → M' 55 j = M 55 j
theorem bF_refl {M : zMem} : bF M M := ⟨fun _ _ _ _ _ => rfl, fun _ _ _ _ _ => rfl⟩
theorem bF_mF {M M1 M2 : zMem} (h : bF M M1) (h1 : mF M1 M2) : bF M M2 := ⟨fun i a b c d => (h1.1 i a b).trans (h.1 i a b c d), fun j a b c d => (h1.2 j a b c d).trans (h.2 j a b c d)⟩
theorem bF_up {M M1 : zMem} {a j : Nat} {v : Int} (h : bF M M1) (ha : a = 71 ∨ a = 72) : bF M (z_up M1 a j v) := ⟨fun i a b c d => by rw [z_up_ne (by omega)]; exact h.1 i a b c d, fun l a b c d => by rw [z_up_ne (by omega)]; exact h.2 l a b c d⟩
theorem bF_57 {M M1 : zMem} (h : bF M M1) : M1 57 = M 57 := h.1 57 (by decide) (by decide) (by decide) (by decide)
def zCk (Lw : List gC) (k : Nat → Int) : Nat → Int := fun g => if (g : Int) < k 76 then zcasks Lw k g (zcrew k) else 0

set_option maxRecDepth 100000 in
set_option maxHeartbeats 4000000 in
theorem c_X11_laysCasks {d sz : Nat} {S : zSh} {M : zMem} (hL : LY S sz) (hi : KI (M 57)) {Lw : List gC} (hLw : LwI (M 57) Lw)  : zX (d + 44) 0 0 mX11_laysCasks [zn 55] sz S M (zU sz S (fun M' => (∀ g : Nat, (g : Int) < M 57 76 → M' 72 g = zcasks Lw (M 57) g (zcrew (M 57))) ∧ (∀ g : Nat, M 57 76 ≤ (g : Int) → M' 72 g = M 72 g) ∧ (∀ i, i ≠ 72 → i ≠ 55 → i ≠ 67 → M' i = M i) ∧ bF M M')) := by
  have i1 := hi.1
  have hcr := zcrew_in hi
  have loop : ∀ (q n : Nat) (M1 : zMem), (M 57 76).toNat < q + n → n ≤ (M 57 76).toNat → (∀ g : Nat, g < n → M1 72 g = zcasks Lw (M 57) g (zcrew (M 57))) → (∀ g : Nat, n ≤ g → M1 72 g = M 72 g) → (∀ i, i ≠ 72 → i ≠ 55 → i ≠ 67 → M1 i = M i) → bF M M1 → zW mX11_laysCasks (d + 44) 0 0 [] (zU sz S (fun M' => (∀ g : Nat, (g : Int) < M 57 76 → M' 72 g = zcasks Lw (M 57) g (zcrew (M 57))) ∧ (∀ g : Nat, M 57 76 ≤ (g : Int) → M' 72 g = M 72 g) ∧ (∀ i, i ≠ 72 → i ≠ 55 → i ≠ 67 → M' i = M i) ∧ bF M M')) 7 [some (zn 55), some (zi (zcrew (M 57))), some (zi n)] [] sz S M1 := by
    intro q
    induction q with
    | zero => intro n M1 hq hn; omega
    | succ q ih =>
      intro n M1 hq hn h1 h0 h2 hF
      have e57 := bF_57 hF
      refine x_iload_n 8 rfl dX11_laysCasks_7 2 rfl rfl ?_
      refine x_aload_n 9 rfl dX11_laysCasks_8 0 rfl rfl ?_
      refine x_getr 12 rfl fX11_24 dX11_laysCasks_9 (lyl55 hL) (lys55 hL) (by decide) (57) rfl ?_
      refine x_bipush 14 rfl dX11_laysCasks_12 (by decide) ?_
      refine x_ialk 15 rfl dX11_laysCasks_14 (lyl57 hL) (lys57 hL) 76 rfl (by decide) ?_
      rw [e57]
      refine x_icmp_ge 18 36 rfl dX11_laysCasks_15 (by decide) (fun c15 => ?_) (fun c15 => ?_)
      · refine x_retu dX11_laysCasks_36 rfl ?_
        exact ⟨fun g hg => h1 g (by omega), fun g hg => h0 g (by omega), h2, hF⟩
      · refine x_aload_n 19 rfl dX11_laysCasks_18 0 rfl rfl ?_
        refine x_getr 22 rfl fX11_75 dX11_laysCasks_19 (lyl55 hL) (lys55 hL) (by decide) (72) rfl ?_
        refine x_iload_n 23 rfl dX11_laysCasks_22 2 rfl rfl ?_
        refine x_aload_n 24 rfl dX11_laysCasks_23 0 rfl rfl ?_
        refine x_iload_n 25 rfl dX11_laysCasks_24 2 rfl rfl ?_
        refine x_iload_n 26 rfl dX11_laysCasks_25 1 rfl rfl ?_
        refine x_cVi 29 rfl lX11_132 dX11_laysCasks_26 (lyl55 hL) (lys55 hL) (c_X11_casksIn (Lw := Lw) hL (by rw [e57]; exact hi) (by rw [e57]; exact hLw) (by omega) (by omega)) rfl rfl (Nat.le_of_ble_eq_true rfl) (fun r1 M2 hr1 => ?_)
        obtain ⟨hr2, hF2⟩ := hr1
        rw [e57, show ((n : Int)).toNat = n by omega] at hr2
        subst hr2
        refine x_iast 30 rfl dX11_laysCasks_29 (lyl72 hL) (lys72 hL) (by omega) (by omega) ?_
        refine w_iinc 33 rfl dX11_laysCasks_30 rfl (by decide) (by omega) rfl (ls' := [_, _, _]) rfl (by decide) ?_
        refine x_goto 7 dX11_laysCasks_33 (by decide) ?_
        exact ih (n + 1) _ (by omega) (by omega) (fun g hg => by
          rw [show ((n : Int)).toNat = n by omega]
          by_cases e : g = n
          · rw [e, z_up_eq]
          · rw [z_up_nk e, hF2.1 72 (by decide) (by decide)]; exact h1 g (by omega)) (fun g hg => by rw [z_up_nk (by omega), hF2.1 72 (by decide) (by decide)]; exact h0 g (by omega)) (fun i a b c => by rw [z_up_ne a, hF2.1 i b c]; exact h2 i a b c) (bF_up (bF_mF hF hF2) (by omega))
  refine zX_of pl_RX11 [some (zn 55), none, none] 2 rfl rfl ?_
  refine x_aload_n 1 rfl dX11_laysCasks_0 0 rfl rfl ?_
  refine x_cVi 4 rfl lX11_108 dX11_laysCasks_1 (lyl55 hL) (lys55 hL) (c_X11_crewNow hL hi) rfl rfl (Nat.le_of_ble_eq_true rfl) (fun a1 M9 ha1 => ?_)
  obtain ⟨ha2, hM9⟩ := ha1
  rw [hM9]
  subst ha2
  refine y_istore_n 5 rfl dX11_laysCasks_4 rfl rfl (ls' := [_, _, _]) rfl (by decide) ?_
  refine x_iconst 6 rfl dX11_laysCasks_5 (by decide) ?_
  refine y_istore_n 7 rfl dX11_laysCasks_6 rfl rfl (ls' := [_, _, _]) rfl (by decide) ?_
  exact loop ((M 57 76).toNat + 1) 0 M (by omega) (by omega) (fun g hg => by omega) (fun _ _ => rfl) (fun _ _ _ _ => rfl) bF_refl

set_option maxRecDepth 100000 in
set_option maxHeartbeats 4000000 in
theorem c_X11_choice {d sz : Nat} {S : zSh} {M : zMem} (hL : LY S sz) (hi : KI (M 57)) {b : Nat} (hb : b ≤ 1) (hf : zfB (fun i => M 71 (1000 * b + i)) (M 57 73)) (hC : ∀ g, g < 4 → 0 ≤ M 72 g ∧ M 72 g ≤ 99) {n : Nat} (hn : (n : Int) ≤ M 57 73) {m : Int} (hm : 0 ≤ m ∧ m < 72) : zX (d + 2) 0 0 mX11_choice [zn 55, zi (n : Int), zi m, zi (b : Int)] sz S M (zI sz S (fun r M' => r = (zcs (M 57) (M 72) (fun i => M 71 (1000 * b + i)) n (zhm (M 57) n m) (M 57 76).toNat).1 ∧ M' = M)) := by
  have i1 := hi.1
  have hC0 : ∀ g, g < 4 → 0 ≤ M 72 g := fun g hg => (hC g hg).1
  have loop : ∀ (q g : Nat) (a v : Int), (M 57 76).toNat < q + g → g ≤ (M 57 76).toNat → zcs (M 57) (M 72) (fun i => M 71 (1000 * b + i)) n (zhm (M 57) n m) g = (a, v) → zW mX11_choice (d + 2) 0 0 [] (zI sz S (fun r M' => r = (zcs (M 57) (M 72) (fun i => M 71 (1000 * b + i)) n (zhm (M 57) n m) (M 57 76).toNat).1 ∧ M' = M)) 15 [some (zn 55), some (zi (n : Int)), some (zi m), some (zi (b : Int)), some (zi a), some (zl v), none, some (zi g), none, none] [] sz S M := by
    intro q
    induction q with
    | zero => intro g a v hq hg; omega
    | succ q ih =>
      intro g a v hq hg hz
      refine x_iload 17 rfl dX11_choice_15 rfl ?_
      refine x_aload_n 18 rfl dX11_choice_17 0 rfl rfl ?_
      refine x_getr 21 rfl fX11_24 dX11_choice_18 (lyl55 hL) (lys55 hL) (by decide) (57) rfl ?_
      refine x_bipush 23 rfl dX11_choice_21 (by decide) ?_
      refine x_ialk 24 rfl dX11_choice_23 (lyl57 hL) (lys57 hL) 76 rfl (by decide) ?_
      refine x_icmp_ge 27 62 rfl dX11_choice_24 (by decide) (fun c24 => ?_) (fun c24 => ?_)
      · refine x_iload 64 rfl dX11_choice_62 rfl ?_
        refine x_reti dX11_choice_64 rfl ?_
        refine ⟨?_, rfl⟩
        rw [show (M 57 76).toNat = g by omega, hz]
      · refine x_aload_n 28 rfl dX11_choice_27 0 rfl rfl ?_
        refine x_iload 30 rfl dX11_choice_28 rfl ?_
        refine x_iload_n 31 rfl dX11_choice_30 1 rfl rfl ?_
        refine x_iload_n 32 rfl dX11_choice_31 3 rfl rfl ?_
        refine x_cVj 35 rfl lX11_385 dX11_choice_32 (lyl55 hL) (lys55 hL) (c_X11_huntWorth hL hi hb hf hC hn (by omega)) rfl rfl (Nat.le_of_ble_eq_true rfl) (fun r1 M1 hr1 => ?_)
        obtain ⟨hr2, hM1⟩ := hr1
        rw [hM1]
        subst hr2
        refine y_lstore 37 rfl dX11_choice_35 rfl (ls' := [_, _, _, _, _, _, _, _, _, _]) rfl (by decide) ?_
        refine x_lload 39 rfl dX11_choice_37 rfl ?_
        refine x_lload 41 rfl dX11_choice_39 rfl ?_
        refine x_lcmp 42 rfl dX11_choice_41 ?_
        refine x_if_gt 45 48 rfl dX11_choice_42 (by decide) (fun c42 => ?_) (fun c42 => ?_)
        · have c42 := zcmp_gt.1 c42
          refine x_lload 50 rfl dX11_choice_48 rfl ?_
          refine y_lstore 52 rfl dX11_choice_50 rfl (ls' := [_, _, _, _, _, _, _, _, _, _]) rfl (by decide) ?_
          refine x_iload 54 rfl dX11_choice_52 rfl ?_
          refine y_istore 56 rfl dX11_choice_54 rfl (ls' := [_, _, _, _, _, _, _, _, _, _]) rfl (by decide) ?_
          refine w_iinc 59 rfl dX11_choice_56 rfl (by decide) (by omega) rfl (ls' := [_, _, _, _, _, _, _, _, _, _]) rfl (by decide) ?_
          refine x_goto 15 dX11_choice_59 (by decide) ?_
          refine z_wk (ls' := [some (zn 55), some (zi (n : Int)), some (zi m), some (zi (b : Int)), some (zi (g : Int)), some (zl _), none, some (zi ((g + 1 : Nat) : Int)), none, none]) ⟨rfl, rfl, rfl, rfl, rfl, rfl, rfl, trivial⟩ (ih (g + 1) _ _ (by omega) (by omega) (zcs_y hz c42))
        · have c42 := fun h => c42 (zcmp_gt.2 h)
          refine x_goto 56 dX11_choice_45 (by decide) ?_
          refine w_iinc 59 rfl dX11_choice_56 rfl (by decide) (by omega) rfl (ls' := [_, _, _, _, _, _, _, _, _, _]) rfl (by decide) ?_
          refine x_goto 15 dX11_choice_59 (by decide) ?_
          refine z_wk (ls' := [some (zn 55), some (zi (n : Int)), some (zi m), some (zi (b : Int)), some (zi a), some (zl _), none, some (zi ((g + 1 : Nat) : Int)), none, none]) ⟨rfl, rfl, rfl, rfl, rfl, rfl, rfl, trivial⟩ (ih (g + 1) _ _ (by omega) (by omega) (zcs_n hz c42))
  refine zX_of pl_RX11 [some (zn 55), some (zi (n : Int)), some (zi m), some (zi (b : Int)), none, none, none, none, none, none] 6 rfl rfl ?_
  refine x_bipush 2 rfl dX11_choice_0 (by decide) ?_
  refine y_istore 4 rfl dX11_choice_2 rfl (ls' := [_, _, _, _, _, _, _, _, _, _]) rfl (by decide) ?_
  refine x_aload_n 5 rfl dX11_choice_4 0 rfl rfl ?_
  refine x_iload_n 6 rfl dX11_choice_5 1 rfl rfl ?_
  refine x_iload_n 7 rfl dX11_choice_6 2 rfl rfl ?_
  refine x_cVj 10 rfl lX11_381 dX11_choice_7 (lyl55 hL) (lys55 hL) (c_X11_homeWorth hL hi hn hm) rfl rfl (Nat.le_of_ble_eq_true rfl) (fun a1 M9 ha1 => ?_)
  obtain ⟨ha2, hM9⟩ := ha1
  rw [hM9]
  subst ha2
  refine y_lstore 12 rfl dX11_choice_10 rfl (ls' := [_, _, _, _, _, _, _, _, _, _]) rfl (by decide) ?_
  refine x_iconst 13 rfl dX11_choice_12 (by decide) ?_
  refine y_istore 15 rfl dX11_choice_13 rfl (ls' := [_, _, _, _, _, _, _, _, _, _]) rfl (by decide) ?_
  exact loop ((M 57 76).toNat + 1) 0 100 _ (by omega) (by omega) rfl

set_option maxRecDepth 100000 in
set_option maxHeartbeats 4000000 in
theorem c_X11_bestWorth {d sz : Nat} {S : zSh} {M : zMem} (hL : LY S sz) (hi : KI (M 57)) {b : Nat} (hb : b ≤ 1) (hf : zfB (fun i => M 71 (1000 * b + i)) (M 57 73)) (hC : ∀ g, g < 4 → 0 ≤ M 72 g ∧ M 72 g ≤ 99) {n : Nat} (hn : (n : Int) ≤ M 57 73) {m : Int} (hm : 0 ≤ m ∧ m < 72) : zX (d + 3) 0 0 mX11_bestWorth [zn 55, zi (n : Int), zi m, zi (b : Int)] sz S M (zJ sz S (fun r M' => r = (zcs (M 57) (M 72) (fun i => M 71 (1000 * b + i)) n (zhm (M 57) n m) (M 57 76).toNat).2 ∧ M' = M)) := by
  have i1 := hi.1
  have hin := zcs_in hi hf (fun g hg => (hC g hg).1) hn (zhm_in hi hn hm).2.2 (M 57 76).toNat (by omega)
  obtain ⟨a, v, hz⟩ : ∃ a v, zcs (M 57) (M 72) (fun i => M 71 (1000 * b + i)) n (zhm (M 57) n m) (M 57 76).toNat = (a, v) := ⟨_, _, rfl⟩
  rw [hz] at hin
  have hin : ((a = 100 ∧ v = zhm (M 57) n m) ∨ (0 ≤ a ∧ a < (((M 57 76).toNat : Nat) : Int) ∧ v = zav (M 57) (M 72) (fun i => M 71 (1000 * b + i)) a.toNat n)) ∧ 0 ≤ v ∧ v ≤ 98901000000 := hin
  refine zX_of pl_RX11 [some (zn 55), some (zi (n : Int)), some (zi m), some (zi (b : Int)), none] 1 rfl rfl ?_
  refine x_aload_n 1 rfl dX11_bestWorth_0 0 rfl rfl ?_
  refine x_iload_n 2 rfl dX11_bestWorth_1 1 rfl rfl ?_
  refine x_iload_n 3 rfl dX11_bestWorth_2 2 rfl rfl ?_
  refine x_iload_n 4 rfl dX11_bestWorth_3 3 rfl rfl ?_
  refine x_cVi 7 rfl lX11_389 dX11_bestWorth_4 (lyl55 hL) (lys55 hL) (c_X11_choice hL hi hb hf hC hn hm) rfl rfl (Nat.le_of_ble_eq_true rfl) (fun a1 M9 ha1 => ?_)
  obtain ⟨ha2, hM9⟩ := ha1
  rw [hM9]
  rw [hz] at ha2
  have ha2 : a1 = a := ha2
  subst ha2
  refine y_istore 9 rfl dX11_bestWorth_7 rfl (ls' := [_, _, _, _, _]) rfl (by decide) ?_
  refine x_iload 11 rfl dX11_bestWorth_9 rfl ?_
  refine x_bipush 13 rfl dX11_bestWorth_11 (by decide) ?_
  refine x_icmp_ne 16 23 rfl dX11_bestWorth_13 (by decide) (fun c13 => ?_) (fun c13 => ?_)
  · rw [show zi a1 = zi ((a1.toNat : Nat) : Int) by rw [show ((a1.toNat : Nat) : Int) = a1 by omega]]
    refine x_aload_n 24 rfl dX11_bestWorth_23 0 rfl rfl ?_
    refine x_iload 26 rfl dX11_bestWorth_24 rfl ?_
    refine x_iload_n 27 rfl dX11_bestWorth_26 1 rfl rfl ?_
    refine x_iload_n 28 rfl dX11_bestWorth_27 3 rfl rfl ?_
    refine x_cVj 31 rfl lX11_385 dX11_bestWorth_28 (lyl55 hL) (lys55 hL) (c_X11_huntWorth hL hi hb hf hC hn (g := a1.toNat) (by omega)) rfl rfl (Nat.le_of_ble_eq_true rfl) (fun r3 M3 hr3 => ?_)
    obtain ⟨hr4, hM3⟩ := hr3
    refine x_retj dX11_bestWorth_31 rfl ?_
    refine ⟨?_, hM3⟩
    rw [hz, hr4]
    show _ = v
    rcases hin.1 with h | h
    · exfalso; omega
    · exact h.2.2.symm
  · refine x_aload_n 17 rfl dX11_bestWorth_16 0 rfl rfl ?_
    refine x_iload_n 18 rfl dX11_bestWorth_17 1 rfl rfl ?_
    refine x_iload_n 19 rfl dX11_bestWorth_18 2 rfl rfl ?_
    refine x_cVj 22 rfl lX11_381 dX11_bestWorth_19 (lyl55 hL) (lys55 hL) (c_X11_homeWorth hL hi hn hm) rfl rfl (Nat.le_of_ble_eq_true rfl) (fun r1 M1 hr1 => ?_)
    obtain ⟨hr2, hM1⟩ := hr1
    refine x_retj dX11_bestWorth_22 rfl ?_
    refine ⟨?_, hM1⟩
    rw [hz, hr2]
    show _ = v
    omega
