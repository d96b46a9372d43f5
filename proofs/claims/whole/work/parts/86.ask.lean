/-! ask -/
def zak (k : Nat → Int) : Nat → Int × Int
  | 0 => (-1, -1)
  | n + 1 => if (zak k n).1 = -1 ∨ zmost k n < (zak k n).2 then ((n : Int), zmost k n) else zak k n
theorem zak_y {k : Nat → Int} {n : Nat} {a b : Int} (e : zak k n = (a, b)) (h : a = -1 ∨ zmost k n < b) : zak k (n + 1) = ((n : Int), zmost k n) := by
  have e2 : zak k (n + 1) = if (zak k n).1 = -1 ∨ zmost k n < (zak k n).2 then ((n : Int), zmost k n) else zak k n := rfl
  rw [e2, e]
  exact if_pos h
theorem zak_n {k : Nat → Int} {n : Nat} {a b : Int} (e : zak k n = (a, b)) (h : ¬ (a = -1 ∨ zmost k n < b)) : zak k (n + 1) = (a, b) := by
  have e2 : zak k (n + 1) = if (zak k n).1 = -1 ∨ zmost k n < (zak k n).2 then ((n : Int), zmost k n) else zak k n := rfl
  rw [e2, e]
  exact if_neg h
theorem zak_in {k : Nat → Int} (hi : KI k) : ∀ n : Nat, (zak k n).1 = -1 ∧ (zak k n).2 = -1 ∨ (0 ≤ (zak k n).1 ∧ 0 ≤ (zak k n).2 ∧ (zak k n).2 ≤ 1000)
  | 0 => Or.inl ⟨rfl, rfl⟩
  | n + 1 => by
    have ih := zak_in hi n
    rcases e : zak k n with ⟨a, b⟩
    rw [e] at ih
    have hm := zmost_in (h := n) hi
    rcases Classical.em (a = -1 ∨ zmost k n < b) with h | h
    · rw [zak_y e h]
      exact Or.inr ⟨by show (0 : Int) ≤ (n : Int); omega, hm⟩
    · rw [zak_n e h]; exact ih
def zask (k : Nat → Int) (w : Int) : Int := if ¬ (0 ≤ w ∧ w ≤ 1) ∨ (zwg k (k 77).toNat).2 < (zwg k (k 77).toNat).1 then -1 else if w = 0 then (zak k (k 75).toNat).1 else (zak k (k 75).toNat).2
theorem zbar_0 {k : Nat → Int} : zbar k 0 = 0 ↔ (zwg k (k 77).toNat).2 < (zwg k (k 77).toNat).1 := by
  unfold zbar
  rw [if_pos rfl]
  split <;> omega

set_option maxRecDepth 100000 in
set_option maxHeartbeats 4000000 in
theorem c_X11_ask {d sz : Nat} {S : zSh} {M : zMem} (hL : LY S sz) (hi : KI (M 57)) {x : Int} : zX (d + 5) 0 0 mX11_ask [zn 55, zi x] sz S M (zI sz S (fun r M' => r = zask (M 57) x ∧ M' = M)) := by
  have i1 := hi.1
  have loop : (0 ≤ x ∧ x ≤ 1) → ¬ (zwg (M 57) (M 57 77).toNat).2 < (zwg (M 57) (M 57 77).toNat).1 → ∀ (q n : Nat) (a b b9 : Int), (M 57 75).toNat < q + n → n ≤ (M 57 75).toNat → zak (M 57) n = (a, b) → b9 = (if a = -1 then 1000000000 else b) → zW mX11_ask (d + 5) 0 0 [] (zI sz S (fun r M' => r = zask (M 57) x ∧ M' = M)) 28 [some (zn 55), some (zi x), some (zi a), some (zi b9), some (zi n), none] [] sz S M := by
    intro hx hw q
    induction q with
    | zero => intro n a b b9 hq hn; omega
    | succ q ih =>
      intro n a b b9 hq hn hz h9
      have hin := zak_in hi n
      rw [hz] at hin
      have hin : a = -1 ∧ b = -1 ∨ (0 ≤ a ∧ 0 ≤ b ∧ b ≤ 1000) := hin
      have hmo := zmost_in (h := n) hi
      refine x_iload 30 rfl dX11_ask_28 rfl ?_
      refine x_aload_n 31 rfl dX11_ask_30 0 rfl rfl ?_
      refine x_getr 34 rfl fX11_24 dX11_ask_31 (lyl55 hL) (lys55 hL) (by decide) (57) rfl ?_
      refine x_bipush 36 rfl dX11_ask_34 (by decide) ?_
      refine x_ialk 37 rfl dX11_ask_36 (lyl57 hL) (lys57 hL) 75 rfl (by decide) ?_
      refine x_icmp_ge 40 69 rfl dX11_ask_37 (by decide) (fun c37 => ?_) (fun c37 => ?_)
      · refine x_iload_n 70 rfl dX11_ask_69 2 rfl rfl ?_
        refine x_iconst 71 rfl dX11_ask_70 (by decide) ?_
        refine x_icmp_eq 74 78 rfl dX11_ask_71 (by decide) (fun c71 => ?_) (fun c71 => ?_)
        · refine x_iload_n 79 rfl dX11_ask_78 2 rfl rfl ?_
          refine x_goto 83 dX11_ask_79 (by decide) ?_
          refine x_reti dX11_ask_83 rfl ?_
          refine ⟨?_, rfl⟩
          unfold zask
          rw [show (M 57 75).toNat = n by omega, hz, if_neg (by omega)]
          show _ = (if x = 0 then a else b)
          by_cases e : x = 0
          · rw [if_pos e]; try omega
          · rw [if_neg e]; try first | omega | (rw [h9, if_neg (by omega)])
        · refine x_iload_n 75 rfl dX11_ask_74 1 rfl rfl ?_
          refine x_if_ne 78 82 rfl dX11_ask_75 (by decide) (fun c75 => ?_) (fun c75 => ?_)
          · refine x_iload_n 83 rfl dX11_ask_82 3 rfl rfl ?_
            refine x_reti dX11_ask_83 rfl ?_
            refine ⟨?_, rfl⟩
            unfold zask
            rw [show (M 57 75).toNat = n by omega, hz, if_neg (by omega)]
            show _ = (if x = 0 then a else b)
            by_cases e : x = 0
            · rw [if_pos e]; try omega
            · rw [if_neg e]; try first | omega | (rw [h9, if_neg (by omega)])
          · refine x_iload_n 79 rfl dX11_ask_78 2 rfl rfl ?_
            refine x_goto 83 dX11_ask_79 (by decide) ?_
            refine x_reti dX11_ask_83 rfl ?_
            refine ⟨?_, rfl⟩
            unfold zask
            rw [show (M 57 75).toNat = n by omega, hz, if_neg (by omega)]
            show _ = (if x = 0 then a else b)
            by_cases e : x = 0
            · rw [if_pos e]; try omega
            · rw [if_neg e]; try first | omega | (rw [h9, if_neg (by omega)])
      · refine x_aload_n 41 rfl dX11_ask_40 0 rfl rfl ?_
        refine x_iload 43 rfl dX11_ask_41 rfl ?_
        refine x_cVi 46 rfl lX11_413 dX11_ask_43 (lyl55 hL) (lys55 hL) (c_X11_mostAlike hL hi (by omega)) rfl rfl (Nat.le_of_ble_eq_true rfl) (fun r1 M1 hr1 => ?_)
        obtain ⟨hr2, hM1⟩ := hr1
        rw [hM1]
        rw [show ((n : Int)).toNat = n by omega] at hr2
        subst hr2
        refine y_istore 48 rfl dX11_ask_46 rfl (ls' := [_, _, _, _, _, _]) rfl (by decide) ?_
        refine x_iload 50 rfl dX11_ask_48 rfl ?_
        refine x_iload_n 51 rfl dX11_ask_50 3 rfl rfl ?_
        refine x_icmp_lt 54 57 rfl dX11_ask_51 (by decide) (fun c51 => ?_) (fun c51 => ?_)
        · refine x_iload 59 rfl dX11_ask_57 rfl ?_
          refine y_istore_n 60 rfl dX11_ask_59 rfl rfl (ls' := [_, _, _, _, _, _]) rfl (by decide) ?_
          refine x_iload 62 rfl dX11_ask_60 rfl ?_
          refine y_istore_n 63 rfl dX11_ask_62 rfl rfl (ls' := [_, _, _, _, _, _]) rfl (by decide) ?_
          refine w_iinc 66 rfl dX11_ask_63 rfl (by decide) (by omega) rfl (ls' := [_, _, _, _, _, _]) rfl (by decide) ?_
          refine x_goto 28 dX11_ask_66 (by decide) ?_
          refine z_wk (ls' := [some (zn 55), some (zi x), some (zi _), some (zi _), some (zi ((n + 1 : Nat) : Int)), none]) ⟨rfl, rfl, rfl, rfl, rfl, trivial⟩ (ih (n + 1) _ _ _ (by omega) (by omega) (zak_y hz (by by_cases e : a = -1; exact Or.inl e; rw [if_neg e] at h9; exact Or.inr (by omega))) (by rw [if_neg (by omega)]))
        · refine x_goto 63 dX11_ask_54 (by decide) ?_
          refine w_iinc 66 rfl dX11_ask_63 rfl (by decide) (by omega) rfl (ls' := [_, _, _, _, _, _]) rfl (by decide) ?_
          refine x_goto 28 dX11_ask_66 (by decide) ?_
          refine z_wk (ls' := [some (zn 55), some (zi x), some (zi _), some (zi _), some (zi ((n + 1 : Nat) : Int)), none]) ⟨rfl, rfl, rfl, rfl, rfl, trivial⟩ (ih (n + 1) _ _ _ (by omega) (by omega) (zak_n hz (fun h8 => by by_cases e : a = -1; (rw [if_pos e] at h9; omega); (rw [if_neg e] at h9; rcases h8 with h | h; exact e h; omega))) h9)
  refine zX_of pl_RX11 [some (zn 55), some (zi x), none, none, none, none] 4 rfl rfl ?_
  refine x_iload_n 1 rfl dX11_ask_0 1 rfl rfl ?_
  refine x_iconst 2 rfl dX11_ask_1 (by decide) ?_
  refine x_iconst 3 rfl dX11_ask_2 (by decide) ?_
  refine x_cSi 6 rfl lX11_90 dX11_ask_3 c_X11_lies rfl rfl (Nat.le_of_ble_eq_true rfl) (fun a1 M9 ha1 => ?_)
  obtain ⟨ha2, hM9⟩ := ha1
  rw [hM9]
  refine x_if_eq 9 17 rfl dX11_ask_6 (by decide) (fun c6 => ?_) (fun c6 => ?_)
  · have hx : ¬ (0 ≤ x ∧ x ≤ 1) := fun h9 => by rw [if_pos h9] at ha2; omega
    refine x_iconst 18 rfl dX11_ask_17 (by decide) ?_
    refine x_reti dX11_ask_18 rfl ?_
    exact ⟨by unfold zask; rw [if_pos (Or.inl hx)], rfl⟩
  · have hx : 0 ≤ x ∧ x ≤ 1 := Decidable.byContradiction (fun h9 => by rw [if_neg h9] at ha2; omega)
    refine x_aload_n 10 rfl dX11_ask_9 0 rfl rfl ?_
    refine x_iconst 11 rfl dX11_ask_10 (by decide) ?_
    refine x_cVi 14 rfl lX11_409 dX11_ask_11 (lyl55 hL) (lys55 hL) (c_X11_barrels hL hi) rfl rfl (Nat.le_of_ble_eq_true rfl) (fun a3 M8 ha3 => ?_)
    obtain ⟨ha4, hM8⟩ := ha3
    rw [hM8]
    subst ha4
    refine x_if_ne 17 19 rfl dX11_ask_14 (by decide) (fun c14 => ?_) (fun c14 => ?_)
    · refine x_iconst 20 rfl dX11_ask_19 (by decide) ?_
      refine y_istore_n 21 rfl dX11_ask_20 rfl rfl (ls' := [_, _, _, _, _, _]) rfl (by decide) ?_
      refine x_ldc_w (x := 1000000000) 24 rfl kX11_412 (by decide) dX11_ask_21 ?_
      refine y_istore_n 25 rfl dX11_ask_24 rfl rfl (ls' := [_, _, _, _, _, _]) rfl (by decide) ?_
      refine x_iconst 26 rfl dX11_ask_25 (by decide) ?_
      refine y_istore 28 rfl dX11_ask_26 rfl (ls' := [_, _, _, _, _, _]) rfl (by decide) ?_
      exact loop hx (fun h => c14 (zbar_0.2 h)) ((M 57 75).toNat + 1) 0 (-1) (-1) 1000000000 (by omega) (by omega) rfl rfl
    · refine x_iconst 18 rfl dX11_ask_17 (by decide) ?_
      refine x_reti dX11_ask_18 rfl ?_
      exact ⟨by unfold zask; rw [if_pos (Or.inr (zbar_0.1 c14))], rfl⟩

set_option maxRecDepth 100000 in
set_option maxHeartbeats 4000000 in
theorem c_X5_toAsk {d sz : Nat} {S : zSh} {M : zMem} (hL : LY S sz) {k : Nat → Int} (hs : SR M 1 k) (hi : KI k) {t : Int} (ht : t = 0 ∨ t = 1) : zX (d + 2) 0 0 mX5_toAsk [zn 49, zn 1, zi t] sz S M (zI sz S (fun r M' => r = zask k t ∧ pF M M')) := by
  have i1 := hi.1
  have loop : ∀ M1 : zMem, M1 49 5 = (zwg k (k 77).toNat).1 → M1 49 6 = (zwg k (k 77).toNat).2 → pF M M1 → ¬ (zwg k (k 77).toNat).2 < (zwg k (k 77).toNat).1 → ∀ (q n : Nat) (a b : Int), (k 75).toNat < q + n → n ≤ (k 75).toNat → zak k n = (a, b) → zW mX5_toAsk (d + 2) 0 0 [] (zI sz S (fun r M' => r = zask k t ∧ pF M M')) 26 [some (zn 49), some (zn 1), some (zi t), some (zi a), some (zi b), some (zi n), none] [] sz S M1 := by
    intro M1 h5 h6 hF hw q
    have hs1 : SR M1 1 k := (SR_frame hs (fun i a b => hF.1 i (by omega)))
    have e0 := hs1.1.1
    induction q with
    | zero => intro n a b hq hn; omega
    | succ q ih =>
      intro n a b hq hn hz
      have hin := zak_in hi n
      rw [hz] at hin
      have hin : a = -1 ∧ b = -1 ∨ (0 ≤ a ∧ 0 ≤ b ∧ b ≤ 1000) := hin
      refine x_iload 28 rfl dX5_toAsk_26 rfl ?_
      refine x_aload_n 29 rfl dX5_toAsk_28 1 rfl rfl ?_
      refine x_geti 32 rfl fX5_98 dX5_toAsk_29 (lyl1 hL) (lys1 hL) (by decide) ?_
      rw [e0]
      refine x_icmp_ge 35 69 rfl dX5_toAsk_32 (by decide) (fun c32 => ?_) (fun c32 => ?_)
      · refine x_iload_n 70 rfl dX5_toAsk_69 2 rfl rfl ?_
        refine x_if_eq 73 78 rfl dX5_toAsk_70 (by decide) (fun c70 => ?_) (fun c70 => ?_)
        · refine x_iload_n 79 rfl dX5_toAsk_78 3 rfl rfl ?_
          refine x_reti dX5_toAsk_79 rfl ?_
          refine ⟨?_, hF⟩
          unfold zask
          rw [show (k 75).toNat = n by omega, hz, if_neg (by omega)]
          show _ = (if t = 0 then a else b)
          first | (rw [if_pos (by omega)]; done) | (rw [if_neg (by omega)]; done)
        · refine x_iload 75 rfl dX5_toAsk_73 rfl ?_
          refine x_goto 79 dX5_toAsk_75 (by decide) ?_
          refine x_reti dX5_toAsk_79 rfl ?_
          refine ⟨?_, hF⟩
          unfold zask
          rw [show (k 75).toNat = n by omega, hz, if_neg (by omega)]
          show _ = (if t = 0 then a else b)
          first | (rw [if_pos (by omega)]; done) | (rw [if_neg (by omega)]; done)
      · refine x_aload_n 36 rfl dX5_toAsk_35 0 rfl rfl ?_
        refine x_aload_n 37 rfl dX5_toAsk_36 1 rfl rfl ?_
        refine x_iload 39 rfl dX5_toAsk_37 rfl ?_
        refine x_cVi 42 rfl lX5_147 dX5_toAsk_39 (lyl49 hL) (lys49 hL) (c_X5_mostAlike hL hs1 hi h5 h6 (by omega)) rfl rfl (Nat.le_of_ble_eq_true rfl) (fun r1 M2 hr1 => ?_)
        obtain ⟨hr2, hM2⟩ := hr1
        rw [hM2]
        rw [show ((n : Int)).toNat = n by omega] at hr2
        subst hr2
        refine y_istore 44 rfl dX5_toAsk_42 rfl (ls' := [_, _, _, _, _, _, _]) rfl (by decide) ?_
        refine x_iload_n 45 rfl dX5_toAsk_44 3 rfl rfl ?_
        refine x_iconst 46 rfl dX5_toAsk_45 (by decide) ?_
        refine x_icmp_eq 49 56 rfl dX5_toAsk_46 (by decide) (fun c46 => ?_) (fun c46 => ?_)
        · refine x_iload 58 rfl dX5_toAsk_56 rfl ?_
          refine y_istore_n 59 rfl dX5_toAsk_58 rfl rfl (ls' := [_, _, _, _, _, _, _]) rfl (by decide) ?_
          refine x_iload 61 rfl dX5_toAsk_59 rfl ?_
          refine y_istore 63 rfl dX5_toAsk_61 rfl (ls' := [_, _, _, _, _, _, _]) rfl (by decide) ?_
          refine w_iinc 66 rfl dX5_toAsk_63 rfl (by decide) (by omega) rfl (ls' := [_, _, _, _, _, _, _]) rfl (by decide) ?_
          refine x_goto 26 dX5_toAsk_66 (by decide) ?_
          refine z_wk (ls' := [some (zn 49), some (zn 1), some (zi t), some (zi _), some (zi _), some (zi ((n + 1 : Nat) : Int)), none]) ⟨rfl, rfl, rfl, rfl, rfl, rfl, trivial⟩ (ih (n + 1) _ _ (by omega) (by omega) (zak_y hz (Or.inl c46)))
        · refine x_iload 51 rfl dX5_toAsk_49 rfl ?_
          refine x_iload 53 rfl dX5_toAsk_51 rfl ?_
          refine x_icmp_ge 56 63 rfl dX5_toAsk_53 (by decide) (fun c53 => ?_) (fun c53 => ?_)
          · refine w_iinc 66 rfl dX5_toAsk_63 rfl (by decide) (by omega) rfl (ls' := [_, _, _, _, _, _, _]) rfl (by decide) ?_
            refine x_goto 26 dX5_toAsk_66 (by decide) ?_
            refine z_wk (ls' := [some (zn 49), some (zn 1), some (zi t), some (zi _), some (zi _), some (zi ((n + 1 : Nat) : Int)), none]) ⟨rfl, rfl, rfl, rfl, rfl, rfl, trivial⟩ (ih (n + 1) _ _ (by omega) (by omega) (zak_n hz (fun h8 => by rcases h8 with h | h; exact c46 h; omega)))
          · refine x_iload 58 rfl dX5_toAsk_56 rfl ?_
            refine y_istore_n 59 rfl dX5_toAsk_58 rfl rfl (ls' := [_, _, _, _, _, _, _]) rfl (by decide) ?_
            refine x_iload 61 rfl dX5_toAsk_59 rfl ?_
            refine y_istore 63 rfl dX5_toAsk_61 rfl (ls' := [_, _, _, _, _, _, _]) rfl (by decide) ?_
            refine w_iinc 66 rfl dX5_toAsk_63 rfl (by decide) (by omega) rfl (ls' := [_, _, _, _, _, _, _]) rfl (by decide) ?_
            refine x_goto 26 dX5_toAsk_66 (by decide) ?_
            refine z_wk (ls' := [some (zn 49), some (zn 1), some (zi t), some (zi _), some (zi _), some (zi ((n + 1 : Nat) : Int)), none]) ⟨rfl, rfl, rfl, rfl, rfl, rfl, trivial⟩ (ih (n + 1) _ _ (by omega) (by omega) (zak_y hz (Or.inr (by omega))))
  refine zX_of pl_RX5 [some (zn 49), some (zn 1), some (zi t), none, none, none, none] 4 rfl rfl ?_
  refine x_aload_n 1 rfl dX5_toAsk_0 0 rfl rfl ?_
  refine x_aload_n 2 rfl dX5_toAsk_1 1 rfl rfl ?_
  refine x_cVu 5 rfl lX5_144 dX5_toAsk_2 (lyl49 hL) (lys49 hL) (c_X5_weigh hL hs hi) rfl rfl (Nat.le_of_ble_eq_true rfl) (fun M9 ha1 => ?_)
  obtain ⟨h5, h6, hF⟩ := ha1
  refine x_aload_n 6 rfl dX5_toAsk_5 0 rfl rfl ?_
  refine x_geti 9 rfl fX5_123 dX5_toAsk_6 (lyl49 hL) (lys49 hL) (by decide) ?_
  refine x_aload_n 10 rfl dX5_toAsk_9 0 rfl rfl ?_
  refine x_geti 13 rfl fX5_126 dX5_toAsk_10 (lyl49 hL) (lys49 hL) (by decide) ?_
  refine x_icmp_le 16 18 rfl dX5_toAsk_13 (by decide) (fun c13 => ?_) (fun c13 => ?_)
  · refine x_iconst 19 rfl dX5_toAsk_18 (by decide) ?_
    refine y_istore_n 20 rfl dX5_toAsk_19 rfl rfl (ls' := [_, _, _, _, _, _, _]) rfl (by decide) ?_
    refine x_iconst 21 rfl dX5_toAsk_20 (by decide) ?_
    refine y_istore 23 rfl dX5_toAsk_21 rfl (ls' := [_, _, _, _, _, _, _]) rfl (by decide) ?_
    refine x_iconst 24 rfl dX5_toAsk_23 (by decide) ?_
    refine y_istore 26 rfl dX5_toAsk_24 rfl (ls' := [_, _, _, _, _, _, _]) rfl (by decide) ?_
    exact loop M9 h5 h6 hF (by omega) ((k 75).toNat + 1) 0 (-1) (-1) (by omega) (by omega) rfl
  · refine x_iconst 17 rfl dX5_toAsk_16 (by decide) ?_
    refine x_reti dX5_toAsk_17 rfl ?_
    exact ⟨by unfold zask; rw [if_pos (Or.inr (by omega))], hF⟩

set_option maxRecDepth 100000 in
set_option maxHeartbeats 4000000 in
theorem c_X10_ask {d sz : Nat} {S : zSh} {M : zMem} (hL : LY S sz) {k : Nat → Int} (hs : SR M 1 k) (hi : KI k) {x : Int} : zX (d + 3) 0 0 mX10_ask [zn 0, zi x] sz S M (zI sz S (fun r M' => r = zask k x ∧ pF M M')) := by
  refine zX_of pl_RX10 [some (zn 0), some (zi x)] 0 rfl rfl ?_
  refine x_iload_n 1 rfl dX10_ask_0 1 rfl rfl ?_
  refine x_if_lt 4 9 rfl dX10_ask_1 (by decide) (fun c1 => ?_) (fun c1 => ?_)
  · refine x_iconst 10 rfl dX10_ask_9 (by decide) ?_
    refine x_reti dX10_ask_10 rfl ?_
    exact ⟨by unfold zask; rw [if_pos (Or.inl (by omega))], pF_refl⟩
  · refine x_iload_n 5 rfl dX10_ask_4 1 rfl rfl ?_
    refine x_iconst 6 rfl dX10_ask_5 (by decide) ?_
    refine x_icmp_le 9 11 rfl dX10_ask_6 (by decide) (fun c6 => ?_) (fun c6 => ?_)
    · refine x_aload_n 12 rfl dX10_ask_11 0 rfl rfl ?_
      refine x_getr 15 rfl fX10_75 dX10_ask_12 (lyl0 hL) (lys0 hL) (by decide) (49) rfl ?_
      refine x_aload_n 16 rfl dX10_ask_15 0 rfl rfl ?_
      refine x_getr 19 rfl fX10_10 dX10_ask_16 (lyl0 hL) (lys0 hL) (by decide) (1) rfl ?_
      refine x_iload_n 20 rfl dX10_ask_19 1 rfl rfl ?_
      refine x_iconst 21 rfl dX10_ask_20 (by decide) ?_
      refine x_icmp_ne 24 28 rfl dX10_ask_21 (by decide) (fun c21 => ?_) (fun c21 => ?_)
      · refine x_iconst 29 rfl dX10_ask_28 (by decide) ?_
        refine x_cVi 32 rfl lX10_283 dX10_ask_29 (lyl49 hL) (lys49 hL) (c_X5_toAsk hL hs hi (by omega)) rfl rfl (Nat.le_of_ble_eq_true rfl) (fun r1 M1 hr1 => ?_)
        obtain ⟨hr2, hF1⟩ := hr1
        refine x_reti dX10_ask_32 rfl ?_
        refine ⟨?_, hF1⟩
        rw [hr2]
        first | (rw [show x = 1 by omega]; done) | (rw [show x = 0 by omega]; done)
      · refine x_iconst 25 rfl dX10_ask_24 (by decide) ?_
        refine x_goto 29 dX10_ask_25 (by decide) ?_
        refine x_cVi 32 rfl lX10_283 dX10_ask_29 (lyl49 hL) (lys49 hL) (c_X5_toAsk hL hs hi (by omega)) rfl rfl (Nat.le_of_ble_eq_true rfl) (fun r1 M1 hr1 => ?_)
        obtain ⟨hr2, hF1⟩ := hr1
        refine x_reti dX10_ask_32 rfl ?_
        refine ⟨?_, hF1⟩
        rw [hr2]
        first | (rw [show x = 1 by omega]; done) | (rw [show x = 0 by omega]; done)
    · refine x_iconst 10 rfl dX10_ask_9 (by decide) ?_
      refine x_reti dX10_ask_10 rfl ?_
      exact ⟨by unfold zask; rw [if_pos (Or.inl (by omega))], pF_refl⟩
