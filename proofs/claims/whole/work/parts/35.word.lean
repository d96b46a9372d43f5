theorem wfl_lt {x : List Int} {t : List (List Int)} {i : Nat} (h : i < x.length) : (wfl (x :: t)).getD i 0 = x.getD i 0 := by
  simp only [wfl, List.getD_eq_getElem?_getD]
  rw [List.getElem?_append_left h]
theorem wfl_eq {x : List Int} {t : List (List Int)} : (wfl (x :: t)).getD x.length 0 = 32 := by
  simp [wfl, List.getD_eq_getElem?_getD]
theorem wfl_gt {x : List Int} {t : List (List Int)} {i : Nat} : (wfl (x :: t)).getD (x.length + 1 + i) 0 = (wfl t).getD i 0 := by
  simp only [wfl, List.getD_eq_getElem?_getD]
  rw [List.getElem?_append_right (by omega), show x.length + 1 + i - x.length = i + 1 by omega, List.getElem?_cons_succ]
theorem wfl_len {x : List Int} {t : List (List Int)} : (wfl (x :: t)).length = x.length + 1 + (wfl t).length := by
  simp [wfl]; omega
theorem WM_let : ∀ x ∈ WM, ∀ c ∈ x, 97 ≤ c ∧ c ≤ 122 := by decide +kernel
theorem WM_len : (wfl WM).length = 141 := by decide +kernel
theorem WM_cnt : WM.length = 27 := by decide +kernel
def tb (M : zMem) : Nat → Int := fun i => M 62 i % 256
def tbI (M : zMem) : Prop := ∀ i, i < 400 → -128 ≤ M 62 i ∧ M 62 i ≤ 127
def wdI (M : zMem) : Prop := ∀ i, i < 141 → M 61 i = (wfl WM).getD i 0
theorem zand255' : ∀ x : Nat, x < 256 → zand ((x : Int) - 128) 255 = ((x : Int) - 128) % 256 := by decide +kernel
theorem zand255 {x : Int} (h : -128 ≤ x ∧ x ≤ 127) : zand x 255 = x % 256 := by
  have h1 := zand255' (x + 128).toNat (by omega)
  rw [Int.toNat_of_nonneg (by omega), show x + 128 - 128 = x by omega] at h1
  exact h1
theorem getD_mem {x : List Int} {i : Nat} (h : i < x.length) : x.getD i 0 ∈ x := by
  rw [List.getD_eq_getElem?_getD, List.getElem?_eq_getElem h]
  exact List.getElem_mem h

set_option maxRecDepth 100000 in
set_option maxHeartbeats 4000000 in
theorem c_X11_isSmall {d sz : Nat} {S : zSh} {M : zMem} {x : Int} : zX d 0 0 mX11_isSmall [zi x] sz S M (zI sz S (fun r M' => r = (if 97 ≤ x ∧ x ≤ 122 then 1 else 0) ∧ M' = M)) := by
  refine zX_of pl_RX11 [some (zi x)] 0 rfl rfl ?_
  refine x_iload_n 1 rfl dX11_isSmall_0 0 rfl rfl ?_
  refine x_bipush 3 rfl dX11_isSmall_1 (by decide) ?_
  refine x_icmp_lt 6 16 rfl dX11_isSmall_3 (by decide) (fun c3 => ?_) (fun c3 => ?_)
  · refine x_iconst 17 rfl dX11_isSmall_16 (by decide) ?_
    refine x_retz dX11_isSmall_17 rfl (by omega) ?_
    refine ⟨?_, rfl⟩
    split <;> omega
  · refine x_iload_n 7 rfl dX11_isSmall_6 0 rfl rfl ?_
    refine x_bipush 9 rfl dX11_isSmall_7 (by decide) ?_
    refine x_icmp_gt 12 16 rfl dX11_isSmall_9 (by decide) (fun c9 => ?_) (fun c9 => ?_)
    · refine x_iconst 17 rfl dX11_isSmall_16 (by decide) ?_
      refine x_retz dX11_isSmall_17 rfl (by omega) ?_
      refine ⟨?_, rfl⟩
      split <;> omega
    · refine x_iconst 13 rfl dX11_isSmall_12 (by decide) ?_
      refine x_goto 17 dX11_isSmall_13 (by decide) ?_
      refine x_retz dX11_isSmall_17 rfl (by omega) ?_
      refine ⟨?_, rfl⟩
      split <;> omega

set_option maxRecDepth 100000 in
set_option maxHeartbeats 4000000 in
theorem c_X11_isDigit {d sz : Nat} {S : zSh} {M : zMem} {x : Int} : zX d 0 0 mX11_isDigit [zi x] sz S M (zI sz S (fun r M' => r = (if 48 ≤ x ∧ x ≤ 57 then 1 else 0) ∧ M' = M)) := by
  refine zX_of pl_RX11 [some (zi x)] 0 rfl rfl ?_
  refine x_iload_n 1 rfl dX11_isDigit_0 0 rfl rfl ?_
  refine x_bipush 3 rfl dX11_isDigit_1 (by decide) ?_
  refine x_icmp_lt 6 16 rfl dX11_isDigit_3 (by decide) (fun c3 => ?_) (fun c3 => ?_)
  · refine x_iconst 17 rfl dX11_isDigit_16 (by decide) ?_
    refine x_retz dX11_isDigit_17 rfl (by omega) ?_
    refine ⟨?_, rfl⟩
    split <;> omega
  · refine x_iload_n 7 rfl dX11_isDigit_6 0 rfl rfl ?_
    refine x_bipush 9 rfl dX11_isDigit_7 (by decide) ?_
    refine x_icmp_gt 12 16 rfl dX11_isDigit_9 (by decide) (fun c9 => ?_) (fun c9 => ?_)
    · refine x_iconst 17 rfl dX11_isDigit_16 (by decide) ?_
      refine x_retz dX11_isDigit_17 rfl (by omega) ?_
      refine ⟨?_, rfl⟩
      split <;> omega
    · refine x_iconst 13 rfl dX11_isDigit_12 (by decide) ?_
      refine x_goto 17 dX11_isDigit_13 (by decide) ?_
      refine x_retz dX11_isDigit_17 rfl (by omega) ?_
      refine ⟨?_, rfl⟩
      split <;> omega

set_option maxRecDepth 100000 in
set_option maxHeartbeats 4000000 in
theorem c_X11_wordOf {d sz : Nat} {S : zSh} {M : zMem} (hL : LY S sz) {k to : Nat} (hk : k < to) (ht : to ≤ 400) (hW : wdI M) (hB : tbI M) : zX d 0 0 mX11_wordOf [zn 55, zi (k : Int), zi (to : Int)] sz S M (zI sz S (fun r M' => r = wlN 0 WM 1 (wsg (tb M) k (to - k)) ∧ M' = M)) := by
  obtain ⟨R, hR⟩ : ∃ R, wlN 0 WM 1 (wsg (tb M) k (to - k)) = R := ⟨_, rfl⟩
  rw [hR]
  have outer : ∀ (rest : List (List Int)) (kk : Nat) (w : Int), (∀ i, i < (wfl rest).length → M 61 (kk + i) = (wfl rest).getD i 0) → kk + (wfl rest).length = 141 → (∀ x ∈ rest, ∀ c ∈ x, 97 ≤ c ∧ c ≤ 122) → wlN 0 rest w (wsg (tb M) k (to - k)) = R → (0 ≤ w ∧ w + rest.length ≤ 28) → zW mX11_wordOf d 0 0 [] (zI sz S (fun r M' => r = R ∧ M' = M)) 5 [some (zn 55), some (zi (k : Int)), some (zi (to : Int)), some (zi w), some (zi (kk : Int)), none, none, none] [] sz S M := by
    intro rest
    induction rest with
    | nil =>
      intro kk w h1 h2 h3 h4 h5
      have h2 : kk = 141 := h2
      have h4 : (0 : Int) = R := h4
      refine x_iload 7 rfl dX11_wordOf_5 rfl ?_
      refine x_aload_n 8 rfl dX11_wordOf_7 0 rfl rfl ?_
      refine x_getr 11 rfl fX11_37 dX11_wordOf_8 (lyl55 hL) (lys55 hL) (by decide) (61) rfl ?_
      refine x_alen (t := 0) 12 rfl dX11_wordOf_11 (lyl61 hL) (lys61 hL) (Or.inr rfl) (by decide) ?_
      refine x_icmp_ge 15 126 rfl dX11_wordOf_12 (by decide) (fun c12 => ?_) (fun c12 => ?_)
      · refine x_iconst 127 rfl dX11_wordOf_126 (by decide) ?_
        refine x_reti dX11_wordOf_127 rfl ?_
        exact ⟨h4, rfl⟩
      · exfalso; omega
    | cons x t ih =>
      intro kk w h1 h2 h3 h4 h5
      rw [wfl_len] at h1 h2
      simp only [List.length_cons] at h5
      have hx := h3 x (by simp)
      have hlet : ∀ i, i < x.length → M 61 (kk + i) = x.getD i 0 ∧ 97 ≤ x.getD i 0 ∧ x.getD i 0 ≤ 122 := fun i hi => ⟨by rw [h1 i (by omega), wfl_lt hi], hx _ (getD_mem hi)⟩
      have hsp : M 61 (kk + x.length) = 32 := by rw [h1 x.length (by omega), wfl_eq]
      have nxt : zW mX11_wordOf d 0 0 [] (zI sz S (fun r M' => r = R ∧ M' = M)) 5 [some (zn 55), some (zi (k : Int)), some (zi (to : Int)), some (zi (w + 1)), some (zi ((kk + x.length + 1 : Nat) : Int)), none, none, none] [] sz S M → wsg (tb M) k (to - k) ≠ x → True := fun _ _ => trivial
      have next : wsg (tb M) k (to - k) ≠ x → zW mX11_wordOf d 0 0 [] (zI sz S (fun r M' => r = R ∧ M' = M)) 5 [some (zn 55), some (zi (k : Int)), some (zi (to : Int)), some (zi (w + 1)), some (zi ((kk + x.length + 1 : Nat) : Int)), none, none, none] [] sz S M := fun hne => ih (kk + x.length + 1) (w + 1) (fun i hi => by rw [show kk + x.length + 1 + i = kk + (x.length + 1 + i) by omega, h1 _ (by omega), wfl_gt]) (by omega) (fun y hy => h3 y (by simp [hy])) (by rw [← h4]; simp only [wlN]; rw [if_neg hne]) (by omega)
      have loop2 : ∀ (q i : Nat) (sm : Int), x.length < q + i → i ≤ x.length → (sm = 1 ∧ to - k = x.length ∧ (∀ j, j < i → tb M (k + j) = x.getD j 0)) ∨ (sm = 0 ∧ wsg (tb M) k (to - k) ≠ x) → zW mX11_wordOf d 0 0 [] (zI sz S (fun r M' => r = R ∧ M' = M)) 57 [some (zn 55), some (zi (k : Int)), some (zi (to : Int)), some (zi w), some (zi (kk : Int)), some (zi (x.length : Int)), some (zi sm), some (zi (i : Int))] [] sz S M := by
        intro q
        induction q with
        | zero => intro i sm h6 h7; omega
        | succ q ih2 =>
          intro i sm h6 h7 h8
          refine x_iload 59 rfl dX11_wordOf_57 rfl ?_
          refine x_iload 61 rfl dX11_wordOf_59 rfl ?_
          refine x_icmp_ge 64 104 rfl dX11_wordOf_61 (by decide) (fun c61 => ?_) (fun c61 => ?_)
          · refine x_iload 106 rfl dX11_wordOf_104 rfl ?_
            refine x_if_eq 109 111 rfl dX11_wordOf_106 (by decide) (fun c106 => ?_) (fun c106 => ?_)
            · refine x_iload 113 rfl dX11_wordOf_111 rfl ?_
              refine x_iload 115 rfl dX11_wordOf_113 rfl ?_
              refine x_iconst 116 rfl dX11_wordOf_115 (by decide) ?_
              refine y_iadd 117 rfl dX11_wordOf_116 (by omega) ?_
              refine y_iadd 118 rfl dX11_wordOf_117 (by omega) ?_
              refine y_istore 120 rfl dX11_wordOf_118 rfl (ls' := [_, _, _, _, _, _, _, _]) rfl (by decide) ?_
              refine w_iinc 123 rfl dX11_wordOf_120 rfl (by decide) (by omega) rfl (ls' := [_, _, _, _, _, _, _, _]) rfl (by decide) ?_
              refine x_goto 5 dX11_wordOf_123 (by decide) ?_
              refine z_wk (ls' := [some (zn 55), some (zi (k : Int)), some (zi (to : Int)), some (zi (w + 1)), some (zi ((kk + x.length + 1 : Nat) : Int)), none, none, none]) ⟨rfl, rfl, rfl, rfl, z_e (by omega), trivial⟩ (next (by rcases h8 with h8 | h8; exfalso; omega; exact h8.2))
            · refine x_iload_n 110 rfl dX11_wordOf_109 3 rfl rfl ?_
              refine x_reti dX11_wordOf_110 rfl ?_
              refine ⟨?_, rfl⟩
              rw [← h4]
              simp only [wlN]
              rw [if_pos]
              have h12 : to - k = x.length ∧ (∀ j, j < i → tb M (k + j) = x.getD j 0) := by rcases h8 with h8 | h8; exact h8.2; exfalso; omega
              have h13 : i = x.length := by first | omega | (exfalso; rcases h8 with h8 | h8 <;> omega)
              exact wsg_eq.mpr ⟨h12.1, fun j hj => h12.2 j (by omega)⟩
          · refine x_iload 66 rfl dX11_wordOf_64 rfl ?_
            refine x_if_eq 69 104 rfl dX11_wordOf_66 (by decide) (fun c66 => ?_) (fun c66 => ?_)
            · refine x_iload 106 rfl dX11_wordOf_104 rfl ?_
              refine x_if_eq 109 111 rfl dX11_wordOf_106 (by decide) (fun c106 => ?_) (fun c106 => ?_)
              · refine x_iload 113 rfl dX11_wordOf_111 rfl ?_
                refine x_iload 115 rfl dX11_wordOf_113 rfl ?_
                refine x_iconst 116 rfl dX11_wordOf_115 (by decide) ?_
                refine y_iadd 117 rfl dX11_wordOf_116 (by omega) ?_
                refine y_iadd 118 rfl dX11_wordOf_117 (by omega) ?_
                refine y_istore 120 rfl dX11_wordOf_118 rfl (ls' := [_, _, _, _, _, _, _, _]) rfl (by decide) ?_
                refine w_iinc 123 rfl dX11_wordOf_120 rfl (by decide) (by omega) rfl (ls' := [_, _, _, _, _, _, _, _]) rfl (by decide) ?_
                refine x_goto 5 dX11_wordOf_123 (by decide) ?_
                refine z_wk (ls' := [some (zn 55), some (zi (k : Int)), some (zi (to : Int)), some (zi (w + 1)), some (zi ((kk + x.length + 1 : Nat) : Int)), none, none, none]) ⟨rfl, rfl, rfl, rfl, z_e (by omega), trivial⟩ (next (by rcases h8 with h8 | h8; exfalso; omega; exact h8.2))
              · refine x_iload_n 110 rfl dX11_wordOf_109 3 rfl rfl ?_
                refine x_reti dX11_wordOf_110 rfl ?_
                refine ⟨?_, rfl⟩
                rw [← h4]
                simp only [wlN]
                rw [if_pos]
                have h12 : to - k = x.length ∧ (∀ j, j < i → tb M (k + j) = x.getD j 0) := by rcases h8 with h8 | h8; exact h8.2; exfalso; omega
                have h13 : i = x.length := by first | omega | (exfalso; rcases h8 with h8 | h8 <;> omega)
                exact wsg_eq.mpr ⟨h12.1, fun j hj => h12.2 j (by omega)⟩
            · have h9 : i < x.length := by omega
              have h10 : to - k = x.length ∧ (∀ j, j < i → tb M (k + j) = x.getD j 0) := by rcases h8 with h8 | h8; exact h8.2; exfalso; exact c66 h8.1
              have hB1 := hB (k + i) (by omega)
              have hl1 := hlet i h9
              have htb : tb M (k + i) = M 62 (k + i) % 256 := rfl
              refine x_aload_n 70 rfl dX11_wordOf_69 0 rfl rfl ?_
              refine x_getr 73 rfl fX11_37 dX11_wordOf_70 (lyl55 hL) (lys55 hL) (by decide) (61) rfl ?_
              refine x_iload 75 rfl dX11_wordOf_73 rfl ?_
              refine x_iload 77 rfl dX11_wordOf_75 rfl ?_
              refine y_iadd 78 rfl dX11_wordOf_77 (by omega) ?_
              refine x_bald 79 rfl dX11_wordOf_78 (lyl61 hL) (lys61 hL) (by omega) (by omega) ?_
              rw [show ((kk : Int) + (i : Int)).toNat = kk + i by omega]
              refine x_aload_n 80 rfl dX11_wordOf_79 0 rfl rfl ?_
              refine x_getr 83 rfl fX11_41 dX11_wordOf_80 (lyl55 hL) (lys55 hL) (by decide) (62) rfl ?_
              refine x_iload_n 84 rfl dX11_wordOf_83 1 rfl rfl ?_
              refine x_iload 86 rfl dX11_wordOf_84 rfl ?_
              refine y_iadd 87 rfl dX11_wordOf_86 (by omega) ?_
              refine x_bald 88 rfl dX11_wordOf_87 (lyl62 hL) (lys62 hL) (by omega) (by omega) ?_
              rw [show ((k : Int) + (i : Int)).toNat = k + i by omega]
              refine x_icmp_ne 91 95 rfl dX11_wordOf_88 (by decide) (fun c88 => ?_) (fun c88 => ?_)
              · refine x_iconst 96 rfl dX11_wordOf_95 (by decide) ?_
                refine y_istore 98 rfl dX11_wordOf_96 rfl (ls' := [_, _, _, _, _, _, _, _]) rfl (by decide) ?_
                refine w_iinc 101 rfl dX11_wordOf_98 rfl (by decide) (by omega) rfl (ls' := [_, _, _, _, _, _, _, _]) rfl (by decide) ?_
                refine x_goto 57 dX11_wordOf_101 (by decide) ?_
                exact ih2 (i + 1) 0 (by omega) (by omega) (Or.inr ⟨rfl, fun hh => by have h11 := (wsg_eq.mp hh).2 i h9; omega⟩)
              · refine x_iconst 92 rfl dX11_wordOf_91 (by decide) ?_
                refine x_goto 96 dX11_wordOf_92 (by decide) ?_
                refine y_istore 98 rfl dX11_wordOf_96 rfl (ls' := [_, _, _, _, _, _, _, _]) rfl (by decide) ?_
                refine w_iinc 101 rfl dX11_wordOf_98 rfl (by decide) (by omega) rfl (ls' := [_, _, _, _, _, _, _, _]) rfl (by decide) ?_
                refine x_goto 57 dX11_wordOf_101 (by decide) ?_
                exact ih2 (i + 1) 1 (by omega) (by omega) (Or.inl ⟨rfl, h10.1, fun j hj => by by_cases e : j = i; (subst e; omega); exact h10.2 j (by omega)⟩)
      have loop1 : ∀ (q i : Nat), x.length < q + i → i ≤ x.length → zW mX11_wordOf d 0 0 [] (zI sz S (fun r M' => r = R ∧ M' = M)) 18 [some (zn 55), some (zi (k : Int)), some (zi (to : Int)), some (zi w), some (zi (kk : Int)), some (zi (i : Int)), none, none] [] sz S M := by
        intro q
        induction q with
        | zero => intro i h6 h7; omega
        | succ q ih2 =>
          intro i h6 h7
          refine x_aload_n 19 rfl dX11_wordOf_18 0 rfl rfl ?_
          refine x_getr 22 rfl fX11_37 dX11_wordOf_19 (lyl55 hL) (lys55 hL) (by decide) (61) rfl ?_
          refine x_iload 24 rfl dX11_wordOf_22 rfl ?_
          refine x_iload 26 rfl dX11_wordOf_24 rfl ?_
          refine y_iadd 27 rfl dX11_wordOf_26 (by omega) ?_
          refine x_bald 28 rfl dX11_wordOf_27 (lyl61 hL) (lys61 hL) (by omega) (by omega) ?_
          rw [show ((kk : Int) + (i : Int)).toNat = kk + i by omega]
          refine x_bipush 30 rfl dX11_wordOf_28 (by decide) ?_
          refine x_icmp_eq 33 39 rfl dX11_wordOf_30 (by decide) (fun c30 => ?_) (fun c30 => ?_)
          · have h9 : i = x.length := by
              rcases Nat.lt_or_ge i x.length with h | h
              · have := hlet i h; omega
              · omega
            subst h9
            refine x_iload 41 rfl dX11_wordOf_39 rfl ?_
            refine x_iload_n 42 rfl dX11_wordOf_41 2 rfl rfl ?_
            refine x_iload_n 43 rfl dX11_wordOf_42 1 rfl rfl ?_
            refine y_isub 44 rfl dX11_wordOf_43 (by omega) ?_
            refine x_icmp_ne 47 51 rfl dX11_wordOf_44 (by decide) (fun c44 => ?_) (fun c44 => ?_)
            · refine x_iconst 52 rfl dX11_wordOf_51 (by decide) ?_
              refine y_istore 54 rfl dX11_wordOf_52 rfl (ls' := [_, _, _, _, _, _, _, _]) rfl (by decide) ?_
              refine x_iconst 55 rfl dX11_wordOf_54 (by decide) ?_
              refine y_istore 57 rfl dX11_wordOf_55 rfl (ls' := [_, _, _, _, _, _, _, _]) rfl (by decide) ?_
              first | exact loop2 (x.length + 1) 0 1 (by omega) (by omega) (Or.inl ⟨rfl, by omega, fun j hj => by omega⟩) | exact loop2 (x.length + 1) 0 0 (by omega) (by omega) (Or.inr ⟨rfl, fun hh => by have := (wsg_eq.mp hh).1; omega⟩)
            · refine x_iconst 48 rfl dX11_wordOf_47 (by decide) ?_
              refine x_goto 52 dX11_wordOf_48 (by decide) ?_
              refine y_istore 54 rfl dX11_wordOf_52 rfl (ls' := [_, _, _, _, _, _, _, _]) rfl (by decide) ?_
              refine x_iconst 55 rfl dX11_wordOf_54 (by decide) ?_
              refine y_istore 57 rfl dX11_wordOf_55 rfl (ls' := [_, _, _, _, _, _, _, _]) rfl (by decide) ?_
              first | exact loop2 (x.length + 1) 0 1 (by omega) (by omega) (Or.inl ⟨rfl, by omega, fun j hj => by omega⟩) | exact loop2 (x.length + 1) 0 0 (by omega) (by omega) (Or.inr ⟨rfl, fun hh => by have := (wsg_eq.mp hh).1; omega⟩)
          · have h9 : i < x.length := by
              rcases Nat.lt_or_ge i x.length with h | h
              · exact h
              · exfalso; rw [show i = x.length by omega] at c30; exact c30 hsp
            refine w_iinc 36 rfl dX11_wordOf_33 rfl (by decide) (by omega) rfl (ls' := [_, _, _, _, _, _, _, _]) rfl (by decide) ?_
            refine x_goto 18 dX11_wordOf_36 (by decide) ?_
            exact ih2 (i + 1) (by omega) (by omega)
      refine x_iload 7 rfl dX11_wordOf_5 rfl ?_
      refine x_aload_n 8 rfl dX11_wordOf_7 0 rfl rfl ?_
      refine x_getr 11 rfl fX11_37 dX11_wordOf_8 (lyl55 hL) (lys55 hL) (by decide) (61) rfl ?_
      refine x_alen (t := 0) 12 rfl dX11_wordOf_11 (lyl61 hL) (lys61 hL) (Or.inr rfl) (by decide) ?_
      refine x_icmp_ge 15 126 rfl dX11_wordOf_12 (by decide) (fun c12 => ?_) (fun c12 => ?_)
      · exfalso; omega
      · refine x_iconst 16 rfl dX11_wordOf_15 (by decide) ?_
        refine y_istore 18 rfl dX11_wordOf_16 rfl (ls' := [_, _, _, _, _, _, _, _]) rfl (by decide) ?_
        exact loop1 (x.length + 1) 0 (by omega) (by omega)
  refine zX_of pl_RX11 [some (zn 55), some (zi (k : Int)), some (zi (to : Int)), none, none, none, none, none] 5 rfl rfl ?_
  refine x_iconst 1 rfl dX11_wordOf_0 (by decide) ?_
  refine y_istore_n 2 rfl dX11_wordOf_1 rfl rfl (ls' := [_, _, _, _, _, _, _, _]) rfl (by decide) ?_
  refine x_iconst 3 rfl dX11_wordOf_2 (by decide) ?_
  refine y_istore 5 rfl dX11_wordOf_3 rfl (ls' := [_, _, _, _, _, _, _, _]) rfl (by decide) ?_
  exact outer WM 0 1 (fun i hi => by rw [Nat.zero_add]; exact hW i (by rw [WM_len] at hi; exact hi)) (by rw [WM_len]) WM_let hR (by rw [WM_cnt]; decide)
