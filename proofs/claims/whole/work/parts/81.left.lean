/-! left -/
def zdl (g : Nat → Int) (h : Nat) : Nat → Int := fun j => if j = h then 0 else g j
theorem zdl01 {g : Nat → Int} {h : Nat} (hg : z01 g) : z01 (zdl g h) := fun j hj => by
  unfold zdl
  by_cases e : j = h
  · rw [if_pos e]; exact Or.inl rfl
  · rw [if_neg e]; exact hg j hj
theorem zmk_del {g : Nat → Int} {h : Nat} (hg : z01 g) (hh : h < 8) : zand (zmk g) (zxor (zshl 1 (h : Int)) (-1)) = zmk (zdl g h) := by
  rw [zmk_one hh, zmk_andn hg (fun j hj => by by_cases e : j = h; (rw [if_pos e]; exact Or.inr rfl); (rw [if_neg e]; exact Or.inl rfl))]
  refine zmk_congr (fun j hj => ?_)
  unfold zdl
  by_cases e : j = h
  · rw [if_pos e, if_pos e]; omega
  · rw [if_neg e, if_neg e]; omega
theorem zdl_cn {g : Nat → Int} {h : Nat} (hh : h < 8) : zgone (zdl g h) = zgone g - g h := by
  have : h = 0 ∨ h = 1 ∨ h = 2 ∨ h = 3 ∨ h = 4 ∨ h = 5 ∨ h = 6 ∨ h = 7 := by omega
  unfold zgone zdl
  rcases this with rfl | rfl | rfl | rfl | rfl | rfl | rfl | rfl <;> simp <;> omega
theorem zpop_gn {g : Nat → Int} (hg : z01 g) : z_pop (zmk g) = zgone g := by
  have e0 := zmk_div hg (i := 0) (by decide)
  have e1 := zmk_div hg (i := 1) (by decide)
  have e2 := zmk_div hg (i := 2) (by decide)
  have e3 := zmk_div hg (i := 3) (by decide)
  have e4 := zmk_div hg (i := 4) (by decide)
  have e5 := zmk_div hg (i := 5) (by decide)
  have e6 := zmk_div hg (i := 6) (by decide)
  have e7 := zmk_div hg (i := 7) (by decide)
  simp only [Int.reducePow] at e0 e1 e2 e3 e4 e5 e6 e7
  unfold z_pop zgone
  omega
theorem zbt {g : Nat → Int} (hg : z01 g) {h : Nat} (hh : h < 8) : zand (zshr (zmk g) (h : Int)) 1 = 1 ↔ g h = 1 := by
  have e := zbit_mk hg hh
  unfold zbit at e
  by_cases h1 : zand (zshr (zmk g) (h : Int)) 1 = 1
  · rw [if_pos h1] at e; exact ⟨fun _ => e.symm, fun _ => h1⟩
  · rw [if_neg h1] at e; exact ⟨fun h2 => absurd h2 h1, fun h2 => by omega⟩
/-- one pass over the first n hands -/
def zlP (Lw : List gC) (k g : Nat → Int) : Nat → (Nat → Int) × Int
  | 0 => (g, 0)
  | n + 1 => if (zlP Lw k g n).1 n = 1 ∧ zdesI Lw k n (k (23 + n)) (zgone (zlP Lw k g n).1) = 1 then (zdl (zlP Lw k g n).1 n, 1) else zlP Lw k g n
theorem zlP_y {Lw : List gC} {k g g1 : Nat → Int} {fl : Int} {n : Nat} (h : zlP Lw k g n = (g1, fl)) (h1 : g1 n = 1) (h2 : zdesI Lw k n (k (23 + n)) (zgone g1) = 1) : zlP Lw k g (n + 1) = (zdl g1 n, 1) := by
  have e : zlP Lw k g (n + 1) = if (zlP Lw k g n).1 n = 1 ∧ zdesI Lw k n (k (23 + n)) (zgone (zlP Lw k g n).1) = 1 then (zdl (zlP Lw k g n).1 n, 1) else zlP Lw k g n := rfl
  rw [e, h]
  exact if_pos ⟨h1, h2⟩
theorem zlP_n {Lw : List gC} {k g g1 : Nat → Int} {fl : Int} {n : Nat} (h : zlP Lw k g n = (g1, fl)) (h1 : ¬ (g1 n = 1 ∧ zdesI Lw k n (k (23 + n)) (zgone g1) = 1)) : zlP Lw k g (n + 1) = (g1, fl) := by
  have e : zlP Lw k g (n + 1) = if (zlP Lw k g n).1 n = 1 ∧ zdesI Lw k n (k (23 + n)) (zgone (zlP Lw k g n).1) = 1 then (zdl (zlP Lw k g n).1 n, 1) else zlP Lw k g n := rfl
  rw [e, h]
  exact if_neg h1
theorem zlP_in {Lw : List gC} {k g : Nat → Int} (hg : z01 g) : ∀ n, n ≤ 8 → z01 (zlP Lw k g n).1 ∧ ((zlP Lw k g n).2 = 0 ∨ (zlP Lw k g n).2 = 1) ∧ zgone (zlP Lw k g n).1 + (zlP Lw k g n).2 ≤ zgone g
  | 0, _ => ⟨hg, Or.inl rfl, by show zgone g + 0 ≤ zgone g; omega⟩
  | n + 1, hn => by
    obtain ⟨h1, h2, h3⟩ := zlP_in (Lw := Lw) (k := k) hg n (by omega)
    rcases hp : zlP Lw k g n with ⟨g1, fl⟩
    rw [hp] at h1 h2 h3
    rcases Classical.em (g1 n = 1 ∧ zdesI Lw k n (k (23 + n)) (zgone g1) = 1) with h | h
    · rw [zlP_y hp h.1 h.2]
      refine ⟨zdl01 h1, Or.inr rfl, ?_⟩
      show zgone (zdl g1 n) + 1 ≤ zgone g
      have h3 : zgone g1 + fl ≤ zgone g := h3
      have h2 : fl = 0 ∨ fl = 1 := h2
      rw [zdl_cn (by omega), h.1]
      omega
    · rw [zlP_n hp h]; exact ⟨h1, h2, h3⟩
def zlF (Lw : List gC) (k : Nat → Int) : Nat → (Nat → Int) → Int → (Nat → Int) × Int
  | 0, g, r => (g, r)
  | f + 1, g, r => if (zlP Lw k g (k 75).toNat).2 = 1 then zlF Lw k f (zlP Lw k g (k 75).toNat).1 (r + 1) else ((zlP Lw k g (k 75).toNat).1, r + 1)
theorem zlF_s {Lw : List gC} {k g g1 : Nat → Int} {fl r : Int} {f : Nat} (h : zlP Lw k g (k 75).toNat = (g1, fl)) : zlF Lw k (f + 1) g r = if fl = 1 then zlF Lw k f g1 (r + 1) else (g1, r + 1) := by
  have e : zlF Lw k (f + 1) g r = if (zlP Lw k g (k 75).toNat).2 = 1 then zlF Lw k f (zlP Lw k g (k 75).toNat).1 (r + 1) else ((zlP Lw k g (k 75).toNat).1, r + 1) := rfl
  rw [e, h]
def zleft (Lw : List gC) (k : Nat → Int) : (Nat → Int) × Int := zlF Lw k 9 (fun h => k (11 + h)) 0

/-- what is shown of an end may be said more loosely -/
theorem zW_loose {mt : zMt} {d kc ks : Nat} {sc : List Int} {Q Q2 : zQ} {pc : Nat} {ls : zLs} {st : List zV} {sz : Nat} {S : zSh} {M : zMem} (h : zW mt d kc ks sc Q2 pc ls st sz S M) (hq : ∀ v sz' S' M', Q2 v sz' S' M' → Q v sz' S' M') : zW mt d kc ks sc Q pc ls st sz S M := by
  intro E D dA p l e R s m args below meth c QQ hE H locs cells slots lr hR hS hc hs ho hL
  obtain ⟨h1, h2, h3, h4, h5, h6, h7, h8, h9, h10, h11, h12⟩ := hE
  exact h E D dA p l e R s m args below meth c QQ ⟨h1, h2, h3, h4, h5, h6, h7, h8, h9, h10, h11, fun v sz1 S1 M1 H1 locs1 cells1 slots1 pc1 lr1 hQ => h12 v sz1 S1 M1 H1 locs1 cells1 slots1 pc1 lr1 (hq _ _ _ _ hQ)⟩ H locs cells slots lr hR hS hc hs ho hL

set_option maxRecDepth 100000 in
set_option maxHeartbeats 4000000 in
theorem c_X11_left {d sz : Nat} {S : zSh} {M : zMem} (hL : LY S sz) (hi : KI (M 57)) {Lw : List gC} (hLw : LwI (M 57) Lw) {x : Int} : zX (d + 44) 0 0 mX11_left [zn 55, zi x] sz S M (zI sz S (fun r M' => r = (if ¬ (0 ≤ x ∧ x ≤ 1) then -1 else if x = 0 then zmk (zleft Lw (M 57)).1 else (zleft Lw (M 57)).2) ∧ mF M M')) := by
  have i1 := hi.1
  obtain ⟨R, hR⟩ : ∃ R, zleft Lw (M 57) = R := ⟨_, rfl⟩
  have fin : (0 ≤ x ∧ x ≤ 1) → ∀ (g : Nat → Int) (r : Int) (M1 : zMem), R = (g, r) → mF M M1 → zW mX11_left (d + 44) 0 0 [] (zI sz S (fun r M' => r = (if ¬ (0 ≤ x ∧ x ≤ 1) then -1 else if x = 0 then zmk (zleft Lw (M 57)).1 else (zleft Lw (M 57)).2) ∧ mF M M')) 21 [some (zn 55), some (zi x), some (zi (zmk g)), some (zi r), some (zi 0), none] [] sz S M1 := by
    intro hx g r M1 h1 hF
    refine x_iload 23 rfl dX11_left_21 rfl ?_
    refine x_if_eq 26 103 rfl dX11_left_23 (by decide) (fun c23 => ?_) (fun c23 => ?_)
    · refine x_iload_n 104 rfl dX11_left_103 1 rfl rfl ?_
      refine x_if_ne 107 111 rfl dX11_left_104 (by decide) (fun c104 => ?_) (fun c104 => ?_)
      · refine x_iload_n 112 rfl dX11_left_111 3 rfl rfl ?_
        refine x_reti dX11_left_112 rfl ?_
        refine ⟨?_, hF⟩
        rw [if_neg (by omega), hR, h1]
        first | (rw [if_pos (by omega)]) | (rw [if_neg (by omega)])
      · refine x_iload_n 108 rfl dX11_left_107 2 rfl rfl ?_
        refine x_goto 112 dX11_left_108 (by decide) ?_
        refine x_reti dX11_left_112 rfl ?_
        refine ⟨?_, hF⟩
        rw [if_neg (by omega), hR, h1]
        first | (rw [if_pos (by omega)]) | (rw [if_neg (by omega)])
    · exfalso; omega
  have outer : (0 ≤ x ∧ x ≤ 1) → ∀ (f : Nat) (g : Nat → Int) (r : Int) (M1 : zMem), z01 g → zgone g + 1 ≤ (f : Int) → 0 ≤ r ∧ r + (f : Int) ≤ 9 → zlF Lw (M 57) f g r = R → mF M M1 → zW mX11_left (d + 44) 0 0 [] (zI sz S (fun r M' => r = (if ¬ (0 ≤ x ∧ x ≤ 1) then -1 else if x = 0 then zmk (zleft Lw (M 57)).1 else (zleft Lw (M 57)).2) ∧ mF M M')) 21 [some (zn 55), some (zi x), some (zi (zmk g)), some (zi r), some (zi 1), none] [] sz S M1 := by
    intro hx f
    induction f with
    | zero => intro g r M1 hg h1 h2 h3 hF; exfalso; have h4 := z01_sum hg; unfold zgone at h1; omega
    | succ f ih =>
      intro g r M1 hg h1 h2 h3 hF
      have inner : ∀ (q n : Nat) (g1 : Nat → Int) (fl : Int) (M2 : zMem), (M 57 75).toNat < q + n → n ≤ (M 57 75).toNat → zlP Lw (M 57) g n = (g1, fl) → mF M M2 → zW mX11_left (d + 44) 0 0 [] (zI sz S (fun r M' => r = (if ¬ (0 ≤ x ∧ x ≤ 1) then -1 else if x = 0 then zmk (zleft Lw (M 57)).1 else (zleft Lw (M 57)).2) ∧ mF M M')) 35 [some (zn 55), some (zi x), some (zi (zmk g1)), some (zi (r + 1)), some (zi fl), some (zi n)] [] sz S M2 := by
        intro q
        induction q with
        | zero => intro n g1 fl M2 hq hn; omega
        | succ q ih2 =>
          intro n g1 fl M2 hq hn hp hF2
          have e57 : M2 57 = M 57 := hF2.1 57 (by decide) (by decide)
          have hp9 := zlP_in (Lw := Lw) (k := M 57) hg n (by omega)
          rw [hp] at hp9
          obtain ⟨hg1, hfl, hcn⟩ := hp9
          have hg1 : z01 g1 := hg1
          have hfl : fl = 0 ∨ fl = 1 := hfl
          have hcn : zgone g1 + fl ≤ zgone g := hcn
          have hmk := zmk_in hg1
          have hpp := zpop_gn hg1
          have hsm : 0 ≤ zgone g1 ∧ zgone g1 ≤ 8 := z01_sum hg1
          refine x_iload 37 rfl dX11_left_35 rfl ?_
          refine x_aload_n 38 rfl dX11_left_37 0 rfl rfl ?_
          refine x_getr 41 rfl fX11_24 dX11_left_38 (lyl55 hL) (lys55 hL) (by decide) (57) rfl ?_
          refine x_bipush 43 rfl dX11_left_41 (by decide) ?_
          refine x_ialk 44 rfl dX11_left_43 (lyl57 hL) (lys57 hL) 75 rfl (by decide) ?_
          rw [e57]
          refine x_icmp_ge 47 100 rfl dX11_left_44 (by decide) (fun c44 => ?_) (fun c44 => ?_)
          · have en : n = (M 57 75).toNat := by omega
            subst en
            rw [zlF_s hp] at h3
            refine x_goto 21 dX11_left_100 (by decide) ?_
            rcases hfl with e | e
            · subst e
              rw [if_neg (by decide)] at h3
              refine z_wk (ls' := [some (zn 55), some (zi x), some (zi (zmk g1)), some (zi (r + 1)), some (zi 0), none]) ⟨rfl, rfl, rfl, rfl, rfl, trivial⟩ (fin hx g1 (r + 1) M2 h3.symm hF2)
            · subst e
              rw [if_pos rfl] at h3
              refine z_wk (ls' := [some (zn 55), some (zi x), some (zi (zmk g1)), some (zi (r + 1)), some (zi 1), none]) ⟨rfl, rfl, rfl, rfl, rfl, trivial⟩ (ih g1 (r + 1) M2 hg1 (by omega) (by omega) h3 hF2)
          · have i2 := hi.2.1 n (by omega)
            refine x_iload_n 48 rfl dX11_left_47 2 rfl rfl ?_
            refine x_iload 50 rfl dX11_left_48 rfl ?_
            refine x_cSi 53 rfl lX11_316 dX11_left_50 c_X11_isIn rfl rfl (Nat.le_of_ble_eq_true rfl) (fun b1 M3 hb1 => ?_)
            obtain ⟨hb1a, hM3⟩ := hb1
            rw [hM3]
            rw [zbit_mk hg1 (by omega)] at hb1a
            subst hb1a
            refine x_if_eq 56 94 rfl dX11_left_53 (by decide) (fun c53 => ?_) (fun c53 => ?_)
            · refine w_iinc 97 rfl dX11_left_94 rfl (by decide) (by omega) rfl (ls' := [_, _, _, _, _, _]) rfl (by decide) ?_
              refine x_goto 35 dX11_left_97 (by decide) ?_
              exact ih2 (n + 1) g1 fl M2 (by omega) (by omega) (zlP_n hp (fun h9 => by omega)) hF2
            · refine x_aload_n 57 rfl dX11_left_56 0 rfl rfl ?_
              refine x_iload 59 rfl dX11_left_57 rfl ?_
              refine x_aload_n 60 rfl dX11_left_59 0 rfl rfl ?_
              refine x_getr 63 rfl fX11_24 dX11_left_60 (lyl55 hL) (lys55 hL) (by decide) (57) rfl ?_
              refine x_bipush 65 rfl dX11_left_63 (by decide) ?_
              refine x_iload 67 rfl dX11_left_65 rfl ?_
              refine y_iadd 68 rfl dX11_left_67 (by omega) ?_
              refine x_iald 69 rfl dX11_left_68 (lyl57 hL) (lys57 hL) (by omega) (by omega) ?_
              rw [e57, show ((23 : Int) + (n : Int)).toNat = 23 + n by omega]
              refine x_iload_n 70 rfl dX11_left_69 2 rfl rfl ?_
              refine x_cSi 73 rfl lX11_319 dX11_left_70 (c_X11_ones hmk) rfl rfl (Nat.le_of_ble_eq_true rfl) (fun b4 M4 hb4 => ?_)
              obtain ⟨hb4a, hM4⟩ := hb4
              rw [hM4]
              rw [hpp] at hb4a
              subst hb4a
              refine x_cVi 76 rfl lX11_112 dX11_left_73 (lyl55 hL) (lys55 hL) (c_X11_deserts (Lw := Lw) hL (by rw [e57]; exact hi) (by rw [e57]; exact hLw) (by omega) (by omega) (by omega)) rfl rfl (Nat.le_of_ble_eq_true rfl) (fun b5 M5 hb5 => ?_)
              obtain ⟨hb6, hF5⟩ := hb5
              rw [e57, show ((n : Int)).toNat = n by omega, zdesI_iff] at hb6
              have hF6 := mF_trans hF2 hF5
              refine x_if_ne 79 82 rfl dX11_left_76 (by decide) (fun c76 => ?_) (fun c76 => ?_)
              · refine x_iload_n 83 rfl dX11_left_82 2 rfl rfl ?_
                refine x_iconst 84 rfl dX11_left_83 (by decide) ?_
                refine x_iload 86 rfl dX11_left_84 rfl ?_
                refine x_ishl 87 rfl dX11_left_86 ?_
                refine x_iconst 88 rfl dX11_left_87 (by decide) ?_
                refine x_ixor 89 rfl dX11_left_88 ?_
                refine x_iand 90 rfl dX11_left_89 ?_
                rw [zmk_del hg1 (by omega)]
                refine y_istore_n 91 rfl dX11_left_90 rfl rfl (ls' := [_, _, _, _, _, _]) rfl (by decide) ?_
                refine x_iconst 92 rfl dX11_left_91 (by decide) ?_
                refine y_istore 94 rfl dX11_left_92 rfl (ls' := [_, _, _, _, _, _]) rfl (by decide) ?_
                refine w_iinc 97 rfl dX11_left_94 rfl (by decide) (by omega) rfl (ls' := [_, _, _, _, _, _]) rfl (by decide) ?_
                refine x_goto 35 dX11_left_97 (by decide) ?_
                exact ih2 (n + 1) _ 1 M5 (by omega) (by omega) (zlP_y hp (by have := hg1 n (by omega); omega) (by rcases hb6 with h | h; exact h.2; exfalso; omega)) hF6
              · refine x_goto 94 dX11_left_79 (by decide) ?_
                refine w_iinc 97 rfl dX11_left_94 rfl (by decide) (by omega) rfl (ls' := [_, _, _, _, _, _]) rfl (by decide) ?_
                refine x_goto 35 dX11_left_97 (by decide) ?_
                exact ih2 (n + 1) g1 fl M5 (by omega) (by omega) (zlP_n hp (fun h9 => by rcases hb6 with h | h; omega; exact h.2 h9.2)) hF6
      refine x_iload 23 rfl dX11_left_21 rfl ?_
      refine x_if_eq 26 103 rfl dX11_left_23 (by decide) (fun c23 => ?_) (fun c23 => ?_)
      · exfalso; omega
      · refine x_iconst 27 rfl dX11_left_26 (by decide) ?_
        refine y_istore 29 rfl dX11_left_27 rfl (ls' := [_, _, _, _, _, _]) rfl (by decide) ?_
        refine w_iinc 32 rfl dX11_left_29 rfl (by decide) (by omega) rfl (ls' := [_, _, _, _, _, _]) rfl (by decide) ?_
        refine x_iconst 33 rfl dX11_left_32 (by decide) ?_
        refine y_istore 35 rfl dX11_left_33 rfl (ls' := [_, _, _, _, _, _]) rfl (by decide) ?_
        refine z_wk (ls' := [some (zn 55), some (zi x), some (zi (zmk g)), some (zi (r + 1)), some (zi 0), some (zi ((0 : Nat) : Int))]) ⟨rfl, rfl, rfl, rfl, rfl, rfl, trivial⟩ (inner ((M 57 75).toNat + 1) 0 g 0 M1 (by omega) (by omega) rfl hF)
  refine zX_of pl_RX11 [some (zn 55), some (zi x), none, none, none, none] 4 rfl rfl ?_
  refine x_iload_n 1 rfl dX11_left_0 1 rfl rfl ?_
  refine x_iconst 2 rfl dX11_left_1 (by decide) ?_
  refine x_iconst 3 rfl dX11_left_2 (by decide) ?_
  refine x_cSi 6 rfl lX11_90 dX11_left_3 c_X11_lies rfl rfl (Nat.le_of_ble_eq_true rfl) (fun a1 M9 ha1 => ?_)
  obtain ⟨ha2, hM9⟩ := ha1
  rw [hM9]
  refine x_if_ne 9 11 rfl dX11_left_6 (by decide) (fun c6 => ?_) (fun c6 => ?_)
  · have hx : 0 ≤ x ∧ x ≤ 1 := Decidable.byContradiction (fun h9 => by rw [if_neg h9] at ha2; omega)
    refine x_aload_n 12 rfl dX11_left_11 0 rfl rfl ?_
    refine x_cVi 15 rfl lX11_370 dX11_left_12 (lyl55 hL) (lys55 hL) (c_X11_aboardNow hL hi) rfl rfl (Nat.le_of_ble_eq_true rfl) (fun a3 M8 ha3 => ?_)
    obtain ⟨ha4, hM8⟩ := ha3
    rw [hM8]
    have ha4 : a3 = zmk (fun h => M 57 (11 + h)) := ha4
    subst ha4
    refine y_istore_n 16 rfl dX11_left_15 rfl rfl (ls' := [_, _, _, _, _, _]) rfl (by decide) ?_
    refine x_iconst 17 rfl dX11_left_16 (by decide) ?_
    refine y_istore_n 18 rfl dX11_left_17 rfl rfl (ls' := [_, _, _, _, _, _]) rfl (by decide) ?_
    refine x_iconst 19 rfl dX11_left_18 (by decide) ?_
    refine y_istore 21 rfl dX11_left_19 rfl (ls' := [_, _, _, _, _, _]) rfl (by decide) ?_
    exact outer hx 9 _ 0 M (zab01 hi) (by have h8 : zgone (fun h => M 57 (11 + h)) ≤ 8 := (z01_sum (zab01 hi)).2; omega) (by omega) hR mF_refl
  · have hx : ¬ (0 ≤ x ∧ x ≤ 1) := fun h9 => by rw [if_pos h9] at ha2; omega
    refine x_iconst 10 rfl dX11_left_9 (by decide) ?_
    refine x_reti dX11_left_10 rfl ?_
    exact ⟨by rw [if_pos hx], mF_refl⟩

set_option maxRecDepth 100000 in
set_option maxHeartbeats 4000000 in
theorem c_X5_atRest {d sz : Nat} {S : zSh} {M : zMem} (hL : LY S sz) {k : Nat → Int} (hs : SR M 1 k) (hi : KI k) {Lw : List gC} (hLw : LwC S sz M 1 k Lw) (hv : v42 M) {y : Int} (hy : y = 0 ∨ y = 1) : zX (d + 4) 0 0 mX5_atRest [zn 49, zn 1, zi y] sz S M (zI sz S (fun r M' => r = (if y = 0 then zmk (zleft Lw k).1 else (zleft Lw k).2) ∧ jF M M')) := by
  have i1 := hi.1
  obtain ⟨R, hR⟩ : ∃ R, zleft Lw k = R := ⟨_, rfl⟩
  have fin : ∀ (g : Nat → Int) (r : Int) (M1 : zMem), R = (g, r) → jF M M1 → zW mX5_atRest (d + 4) 0 0 [] (zI sz S (fun r M' => r = (if y = 0 then zmk (zleft Lw k).1 else (zleft Lw k).2) ∧ jF M M')) 11 [some (zn 49), some (zn 1), some (zi y), some (zi (zmk g)), some (zi r), some (zi 0), none] [] sz S M1 := by
    intro g r M1 h1 hF
    refine x_iload 13 rfl dX5_atRest_11 rfl ?_
    refine x_if_eq 16 96 rfl dX5_atRest_13 (by decide) (fun c13 => ?_) (fun c13 => ?_)
    · refine x_iload_n 97 rfl dX5_atRest_96 2 rfl rfl ?_
      refine x_if_eq 100 105 rfl dX5_atRest_97 (by decide) (fun c97 => ?_) (fun c97 => ?_)
      · refine x_iload_n 106 rfl dX5_atRest_105 3 rfl rfl ?_
        refine x_reti dX5_atRest_106 rfl ?_
        refine ⟨?_, hF⟩
        rw [hR, h1]
        first | (rw [if_pos (by omega)]) | (rw [if_neg (by omega)])
      · refine x_iload 102 rfl dX5_atRest_100 rfl ?_
        refine x_goto 106 dX5_atRest_102 (by decide) ?_
        refine x_reti dX5_atRest_106 rfl ?_
        refine ⟨?_, hF⟩
        rw [hR, h1]
        first | (rw [if_pos (by omega)]) | (rw [if_neg (by omega)])
    · exfalso; omega
  have outer : ∀ (f : Nat) (g : Nat → Int) (r : Int) (M1 : zMem), z01 g → zgone g + 1 ≤ (f : Int) → 0 ≤ r ∧ r + (f : Int) ≤ 9 → zlF Lw k f g r = R → jF M M1 → zW mX5_atRest (d + 4) 0 0 [] (zI sz S (fun r M' => r = (if y = 0 then zmk (zleft Lw k).1 else (zleft Lw k).2) ∧ jF M M')) 11 [some (zn 49), some (zn 1), some (zi y), some (zi (zmk g)), some (zi r), some (zi 1), none] [] sz S M1 := by
    intro f
    induction f with
    | zero => intro g r M1 hg h1 h2 h3 hF; exfalso; have h4 := z01_sum hg; unfold zgone at h1; omega
    | succ f ih =>
      intro g r M1 hg h1 h2 h3 hF
      have hg8 : 0 ≤ zgone g ∧ zgone g ≤ 8 := z01_sum hg
      have inner : ∀ (q n : Nat) (g1 : Nat → Int) (fl : Int) (M2 : zMem), (k 75).toNat < q + n → n ≤ (k 75).toNat → zlP Lw k g n = (g1, fl) → jF M M2 → zW mX5_atRest (d + 4) 0 0 [] (zI sz S (fun r M' => r = (if y = 0 then zmk (zleft Lw k).1 else (zleft Lw k).2) ∧ jF M M')) 32 [some (zn 49), some (zn 1), some (zi y), some (zi (zmk g1)), some (zi (r + 1)), some (zi fl), some (zi n)] [] sz S M2 := by
        intro q
        induction q with
        | zero => intro n g1 fl M2 hq hn; omega
        | succ q ih2 =>
          intro n g1 fl M2 hq hn hp hF2
          have hs2 : SR M2 1 k := (SR_frame hs (fun i a b => hF2.1 i (by omega) (by omega)))
          have e0 := hs2.1.1
          have hp9 := zlP_in (Lw := Lw) (k := k) hg n (by omega)
          rw [hp] at hp9
          obtain ⟨hg1, hfl, hcn⟩ := hp9
          have hg1 : z01 g1 := hg1
          have hfl : fl = 0 ∨ fl = 1 := hfl
          have hcn : zgone g1 + fl ≤ zgone g := hcn
          have hmk := zmk_in hg1
          have hpp := zpop_gn hg1
          have hsm : 0 ≤ zgone g1 ∧ zgone g1 ≤ 8 := z01_sum hg1
          refine x_iload 34 rfl dX5_atRest_32 rfl ?_
          refine x_aload_n 35 rfl dX5_atRest_34 1 rfl rfl ?_
          refine x_geti 38 rfl fX5_98 dX5_atRest_35 (lyl1 hL) (lys1 hL) (by decide) ?_
          rw [e0]
          refine x_icmp_ge 41 93 rfl dX5_atRest_38 (by decide) (fun c38 => ?_) (fun c38 => ?_)
          · have en : n = (k 75).toNat := by omega
            subst en
            rw [zlF_s hp] at h3
            refine x_goto 11 dX5_atRest_93 (by decide) ?_
            rcases hfl with e | e
            · subst e
              rw [if_neg (by decide)] at h3
              refine z_wk (ls' := [some (zn 49), some (zn 1), some (zi y), some (zi (zmk g1)), some (zi (r + 1)), some (zi 0), none]) ⟨rfl, rfl, rfl, rfl, rfl, rfl, trivial⟩ (fin g1 (r + 1) M2 h3.symm hF2)
            · subst e
              rw [if_pos rfl] at h3
              refine z_wk (ls' := [some (zn 49), some (zn 1), some (zi y), some (zi (zmk g1)), some (zi (r + 1)), some (zi 1), none]) ⟨rfl, rfl, rfl, rfl, rfl, rfl, trivial⟩ (ih g1 (r + 1) M2 hg1 (by omega) (by omega) h3 hF2)
          · have i2 := hi.2.1 n (by omega)
            have hb := zbt hg1 (h := n) (by omega)
            refine x_iload_n 42 rfl dX5_atRest_41 3 rfl rfl ?_
            refine x_iload 44 rfl dX5_atRest_42 rfl ?_
            refine x_ishr 45 rfl dX5_atRest_44 ?_
            refine x_iconst 46 rfl dX5_atRest_45 (by decide) ?_
            refine x_iand 47 rfl dX5_atRest_46 ?_
            refine x_iconst 48 rfl dX5_atRest_47 (by decide) ?_
            refine x_icmp_ne 51 87 rfl dX5_atRest_48 (by decide) (fun c48 => ?_) (fun c48 => ?_)
            · refine w_iinc 90 rfl dX5_atRest_87 rfl (by decide) (by omega) rfl (ls' := [_, _, _, _, _, _, _]) rfl (by decide) ?_
              refine x_goto 32 dX5_atRest_90 (by decide) ?_
              exact ih2 (n + 1) g1 fl M2 (by omega) (by omega) (zlP_n hp (fun h9 => c48 (hb.2 h9.1))) hF2
            · refine x_aload_n 52 rfl dX5_atRest_51 0 rfl rfl ?_
              refine x_getr 55 rfl fX5_25 dX5_atRest_52 (lyl49 hL) (lys49 hL) (by decide) (39) rfl ?_
              refine x_aload_n 56 rfl dX5_atRest_55 1 rfl rfl ?_
              refine x_iload 58 rfl dX5_atRest_56 rfl ?_
              refine x_aload_n 59 rfl dX5_atRest_58 1 rfl rfl ?_
              refine x_getr 62 rfl fX5_101 dX5_atRest_59 (lyl1 hL) (lys1 hL) (by decide) (2) rfl ?_
              refine x_iload 64 rfl dX5_atRest_62 rfl ?_
              refine x_iald 65 rfl dX5_atRest_64 (lyl2 hL) (lys2 hL) (by omega) (by omega) ?_
              rw [hs2.2.2.1 _ (by omega), show ((n : Int)).toNat = n by omega]
              refine x_iload_n 66 rfl dX5_atRest_65 3 rfl rfl ?_
              refine x_cSi 69 rfl lX5_104 dX5_atRest_66 (c_bitCount hmk) rfl rfl (Nat.le_of_ble_eq_true rfl) (fun b4 M4 hb4 => ?_)
              obtain ⟨hb4a, hM4⟩ := hb4
              rw [hM4]
              rw [hpp] at hb4a
              subst hb4a
              refine x_cVi 72 rfl lX5_109 dX5_atRest_69 (lyl39 hL) (lys39 hL) (c_X1_runsOff (Lw := Lw) hL (ly_sh1 hL) (by decide) hs2 hi (LwC_frame hLw rfl (hF2.1 11 (by decide) (by decide)) (fun i h => hF2.1 i (by omega) (by omega))) hF2.2 (by omega) (by omega) (by omega)) rfl rfl (Nat.le_of_ble_eq_true rfl) (fun b5 M5 hb5 => ?_)
              obtain ⟨hb6, hF5⟩ := hb5
              rw [show ((n : Int)).toNat = n by omega, zdesI_iff] at hb6
              have hF6 := jF_trans hF2 hF5
              refine x_if_eq 75 87 rfl dX5_atRest_72 (by decide) (fun c72 => ?_) (fun c72 => ?_)
              · refine w_iinc 90 rfl dX5_atRest_87 rfl (by decide) (by omega) rfl (ls' := [_, _, _, _, _, _, _]) rfl (by decide) ?_
                refine x_goto 32 dX5_atRest_90 (by decide) ?_
                exact ih2 (n + 1) g1 fl M5 (by omega) (by omega) (zlP_n hp (fun h9 => by rcases hb6 with h | h; omega; exact h.2 h9.2)) hF6
              · refine x_iload_n 76 rfl dX5_atRest_75 3 rfl rfl ?_
                refine x_iconst 77 rfl dX5_atRest_76 (by decide) ?_
                refine x_iload 79 rfl dX5_atRest_77 rfl ?_
                refine x_ishl 80 rfl dX5_atRest_79 ?_
                refine x_iconst 81 rfl dX5_atRest_80 (by decide) ?_
                refine x_ixor 82 rfl dX5_atRest_81 ?_
                refine x_iand 83 rfl dX5_atRest_82 ?_
                rw [zmk_del hg1 (by omega)]
                refine y_istore_n 84 rfl dX5_atRest_83 rfl rfl (ls' := [_, _, _, _, _, _, _]) rfl (by decide) ?_
                refine x_iconst 85 rfl dX5_atRest_84 (by decide) ?_
                refine y_istore 87 rfl dX5_atRest_85 rfl (ls' := [_, _, _, _, _, _, _]) rfl (by decide) ?_
                refine w_iinc 90 rfl dX5_atRest_87 rfl (by decide) (by omega) rfl (ls' := [_, _, _, _, _, _, _]) rfl (by decide) ?_
                refine x_goto 32 dX5_atRest_90 (by decide) ?_
                exact ih2 (n + 1) _ 1 M5 (by omega) (by omega) (zlP_y hp (hb.1 c48) (by rcases hb6 with h | h; exact h.2; exfalso; omega)) hF6
      refine x_iload 13 rfl dX5_atRest_11 rfl ?_
      refine x_if_eq 16 96 rfl dX5_atRest_13 (by decide) (fun c13 => ?_) (fun c13 => ?_)
      · exfalso; omega
      · refine x_iload 18 rfl dX5_atRest_16 rfl ?_
        refine x_bipush 20 rfl dX5_atRest_18 (by decide) ?_
        refine x_icmp_gt 23 96 rfl dX5_atRest_20 (by decide) (fun c20 => ?_) (fun c20 => ?_)
        · exfalso; omega
        · refine x_iconst 24 rfl dX5_atRest_23 (by decide) ?_
          refine y_istore 26 rfl dX5_atRest_24 rfl (ls' := [_, _, _, _, _, _, _]) rfl (by decide) ?_
          refine w_iinc 29 rfl dX5_atRest_26 rfl (by decide) (by omega) rfl (ls' := [_, _, _, _, _, _, _]) rfl (by decide) ?_
          refine x_iconst 30 rfl dX5_atRest_29 (by decide) ?_
          refine y_istore 32 rfl dX5_atRest_30 rfl (ls' := [_, _, _, _, _, _, _]) rfl (by decide) ?_
          refine z_wk (ls' := [some (zn 49), some (zn 1), some (zi y), some (zi (zmk g)), some (zi (r + 1)), some (zi 0), some (zi ((0 : Nat) : Int))]) ⟨rfl, rfl, rfl, rfl, rfl, rfl, rfl, trivial⟩ (inner ((k 75).toNat + 1) 0 g 0 M1 (by omega) (by omega) rfl hF)
  refine zX_of pl_RX5 [some (zn 49), some (zn 1), some (zi y), none, none, none, none] 4 rfl rfl ?_
  refine x_aload_n 1 rfl dX5_atRest_0 1 rfl rfl ?_
  refine x_geti 4 rfl fX5_95 dX5_atRest_1 (lyl1 hL) (lys1 hL) (by decide) ?_
  rw [hs.1.2.1]
  rw [show zmask k = zmk (fun h => k (11 + h)) from rfl]
  refine y_istore_n 5 rfl dX5_atRest_4 rfl rfl (ls' := [_, _, _, _, _, _, _]) rfl (by decide) ?_
  refine x_iconst 6 rfl dX5_atRest_5 (by decide) ?_
  refine y_istore 8 rfl dX5_atRest_6 rfl (ls' := [_, _, _, _, _, _, _]) rfl (by decide) ?_
  refine x_iconst 9 rfl dX5_atRest_8 (by decide) ?_
  refine y_istore 11 rfl dX5_atRest_9 rfl (ls' := [_, _, _, _, _, _, _]) rfl (by decide) ?_
  exact outer 9 _ 0 M (zab01 hi) (by have h8 : zgone (fun h => k (11 + h)) ≤ 8 := (z01_sum (zab01 hi)).2; omega) (by omega) hR (jF_refl hv)

set_option maxRecDepth 100000 in
set_option maxHeartbeats 4000000 in
theorem c_X10_left {d sz : Nat} {S : zSh} {M : zMem} (hL : LY S sz) {k : Nat → Int} (hs : SR M 1 k) (hi : KI k) {Lw : List gC} (hLw : LwC S sz M 1 k Lw) (hv : v42 M) {x : Int} : zX (d + 5) 0 0 mX10_left [zn 0, zi x] sz S M (zI sz S (fun r M' => r = (if ¬ (0 ≤ x ∧ x ≤ 1) then -1 else if x = 0 then zmk (zleft Lw k).1 else (zleft Lw k).2) ∧ jF M M')) := by
  refine zX_of pl_RX10 [some (zn 0), some (zi x)] 0 rfl rfl ?_
  refine x_iload_n 1 rfl dX10_left_0 1 rfl rfl ?_
  refine x_if_lt 4 9 rfl dX10_left_1 (by decide) (fun c1 => ?_) (fun c1 => ?_)
  · refine x_iconst 10 rfl dX10_left_9 (by decide) ?_
    refine x_reti dX10_left_10 rfl ?_
    exact ⟨by rw [if_pos (by omega)], jF_refl hv⟩
  · refine x_iload_n 5 rfl dX10_left_4 1 rfl rfl ?_
    refine x_iconst 6 rfl dX10_left_5 (by decide) ?_
    refine x_icmp_le 9 11 rfl dX10_left_6 (by decide) (fun c6 => ?_) (fun c6 => ?_)
    · refine x_aload_n 12 rfl dX10_left_11 0 rfl rfl ?_
      refine x_getr 15 rfl fX10_75 dX10_left_12 (lyl0 hL) (lys0 hL) (by decide) (49) rfl ?_
      refine x_aload_n 16 rfl dX10_left_15 0 rfl rfl ?_
      refine x_getr 19 rfl fX10_10 dX10_left_16 (lyl0 hL) (lys0 hL) (by decide) (1) rfl ?_
      refine x_iload_n 20 rfl dX10_left_19 1 rfl rfl ?_
      refine x_iconst 21 rfl dX10_left_20 (by decide) ?_
      refine x_icmp_ne 24 28 rfl dX10_left_21 (by decide) (fun c21 => ?_) (fun c21 => ?_)
      · refine x_iconst 29 rfl dX10_left_28 (by decide) ?_
        refine x_cVi 32 rfl lX10_256 dX10_left_29 (lyl49 hL) (lys49 hL) (c_X5_atRest (Lw := Lw) hL hs hi hLw hv (by omega)) rfl rfl (Nat.le_of_ble_eq_true rfl) (fun r1 M1 hr1 => ?_)
        obtain ⟨hr2, hF1⟩ := hr1
        refine x_reti dX10_left_32 rfl ?_
        refine ⟨?_, hF1⟩
        first | (rw [if_pos rfl] at hr2; rw [hr2, if_neg (by omega), if_pos (by omega)]; done) | (rw [if_neg (by decide)] at hr2; rw [hr2, if_neg (by omega), if_neg (by omega)]; done)
      · refine x_iconst 25 rfl dX10_left_24 (by decide) ?_
        refine x_goto 29 dX10_left_25 (by decide) ?_
        refine x_cVi 32 rfl lX10_256 dX10_left_29 (lyl49 hL) (lys49 hL) (c_X5_atRest (Lw := Lw) hL hs hi hLw hv (by omega)) rfl rfl (Nat.le_of_ble_eq_true rfl) (fun r1 M1 hr1 => ?_)
        obtain ⟨hr2, hF1⟩ := hr1
        refine x_reti dX10_left_32 rfl ?_
        refine ⟨?_, hF1⟩
        first | (rw [if_pos rfl] at hr2; rw [hr2, if_neg (by omega), if_pos (by omega)]; done) | (rw [if_neg (by decide)] at hr2; rw [hr2, if_neg (by omega), if_neg (by omega)]; done)
    · refine x_iconst 10 rfl dX10_left_9 (by decide) ?_
      refine x_reti dX10_left_10 rfl ?_
      exact ⟨by rw [if_pos (by omega)], jF_refl hv⟩

/-! least -/
def zlst (Lw : List gC) (k : Nat → Int) (h : Nat) : Nat → Int
  | 0 => -1
  | n + 1 => if zdesI Lw k h ((n : Int) + 1) (zcrew k) = 1 then zlst Lw k h n else (n : Int) + 1

set_option maxRecDepth 100000 in
set_option maxHeartbeats 4000000 in
theorem c_X11_least {d sz : Nat} {S : zSh} {M : zMem} (hL : LY S sz) (hi : KI (M 57)) {Lw : List gC} (hLw : LwI (M 57) Lw) {x : Int} : zX (d + 44) 0 0 mX11_least [zn 55, zi x] sz S M (zI sz S (fun r M' => r = (if (0 ≤ x ∧ x < M 57 75) ∧ M 57 (11 + x.toNat) = 1 then zlst Lw (M 57) x.toNat 999 else -1) ∧ mF M M')) := by
  have i1 := hi.1
  have loop : (0 ≤ x ∧ x < M 57 75) → ∀ (n : Nat) (M1 : zMem), n ≤ 999 → zlst Lw (M 57) x.toNat n = zlst Lw (M 57) x.toNat 999 → mF M M1 → zW mX11_least (d + 44) 0 0 [] (zI sz S (fun r M' => r = zlst Lw (M 57) x.toNat 999 ∧ mF M M')) 22 [some (zn 55), some (zi x), some (zi (n : Int))] [] sz S M1 := by
    intro hx n
    induction n with
    | zero =>
      intro M1 hn h1 hF
      refine x_iload_n 23 rfl dX11_least_22 2 rfl rfl ?_
      refine x_if_le 26 47 rfl dX11_least_23 (by decide) (fun c23 => ?_) (fun c23 => ?_)
      · refine x_iconst 48 rfl dX11_least_47 (by decide) ?_
        refine x_reti dX11_least_48 rfl ?_
        exact ⟨h1, hF⟩
      · exfalso; omega
    | succ n ih =>
      intro M1 hn h1 hF
      have e57 : M1 57 = M 57 := hF.1 57 (by decide) (by decide)
      have hcr := zcrew_in hi
      refine x_iload_n 23 rfl dX11_least_22 2 rfl rfl ?_
      refine x_if_le 26 47 rfl dX11_least_23 (by decide) (fun c23 => ?_) (fun c23 => ?_)
      · exfalso; omega
      · refine x_aload_n 27 rfl dX11_least_26 0 rfl rfl ?_
        refine x_iload_n 28 rfl dX11_least_27 1 rfl rfl ?_
        refine x_iload_n 29 rfl dX11_least_28 2 rfl rfl ?_
        refine x_aload_n 30 rfl dX11_least_29 0 rfl rfl ?_
        refine x_cVi 33 rfl lX11_108 dX11_least_30 (lyl55 hL) (lys55 hL) (c_X11_crewNow hL (by rw [e57]; exact hi)) rfl rfl (Nat.le_of_ble_eq_true rfl) (fun b1 M2 hb1 => ?_)
        obtain ⟨hb2, hM2⟩ := hb1
        rw [hM2]
        rw [e57] at hb2
        subst hb2
        refine x_cVi 36 rfl lX11_112 dX11_least_33 (lyl55 hL) (lys55 hL) (c_X11_deserts (Lw := Lw) hL (by rw [e57]; exact hi) (by rw [e57]; exact hLw) (by omega) (by omega) (by omega)) rfl rfl (Nat.le_of_ble_eq_true rfl) (fun b3 M3 hb3 => ?_)
        obtain ⟨hb4, hF3⟩ := hb3
        rw [e57, zdesI_iff] at hb4
        have hF4 := mF_trans hF hF3
        have e9 : zlst Lw (M 57) x.toNat (n + 1) = if zdesI Lw (M 57) x.toNat ((n : Int) + 1) (zcrew (M 57)) = 1 then zlst Lw (M 57) x.toNat n else (n : Int) + 1 := rfl
        refine x_if_ne 39 41 rfl dX11_least_36 (by decide) (fun c36 => ?_) (fun c36 => ?_)
        · refine w_iinc 44 rfl dX11_least_41 rfl (by decide) (by omega) rfl (ls' := [_, _, _]) rfl (by decide) ?_
          refine x_goto 22 dX11_least_44 (by decide) ?_
          refine z_wk (ls' := [some (zn 55), some (zi x), some (zi (n : Int))]) ⟨rfl, rfl, z_e (by omega), trivial⟩ (ih M3 (by omega) (by rw [← h1, e9, if_pos (by rcases hb4 with h | h; exact h.2; exfalso; omega)]) hF4)
        · refine x_iload_n 40 rfl dX11_least_39 2 rfl rfl ?_
          refine x_reti dX11_least_40 rfl ?_
          refine ⟨?_, hF4⟩
          rw [← h1, e9, if_neg (by rcases hb4 with h | h; (exfalso; omega); exact h.2)]
          omega
  refine zX_of pl_RX11 [some (zn 55), some (zi x), none] 1 rfl rfl ?_
  refine x_aload_n 1 rfl dX11_least_0 0 rfl rfl ?_
  refine x_iload_n 2 rfl dX11_least_1 1 rfl rfl ?_
  refine x_cVi 5 rfl lX11_100 dX11_least_2 (lyl55 hL) (lys55 hL) (c_X11_isHand hL hi) rfl rfl (Nat.le_of_ble_eq_true rfl) (fun a1 M9 ha1 => ?_)
  obtain ⟨ha2, hM9⟩ := ha1
  rw [hM9]
  refine x_if_eq 8 16 rfl dX11_least_5 (by decide) (fun c5 => ?_) (fun c5 => ?_)
  · have hx : ¬ (0 ≤ x ∧ x < M 57 75) := fun h9 => by rw [if_pos h9] at ha2; omega
    refine x_iconst 17 rfl dX11_least_16 (by decide) ?_
    refine x_reti dX11_least_17 rfl ?_
    exact ⟨by rw [if_neg (fun h9 => hx h9.1)], mF_refl⟩
  · have hx : 0 ≤ x ∧ x < M 57 75 := Decidable.byContradiction (fun h9 => by rw [if_neg h9] at ha2; omega)
    have i2 := hi.2.1 x.toNat (by omega)
    refine x_aload_n 9 rfl dX11_least_8 0 rfl rfl ?_
    refine x_iload_n 10 rfl dX11_least_9 1 rfl rfl ?_
    refine x_cVi 13 rfl lX11_118 dX11_least_10 (lyl55 hL) (lys55 hL) (c_X11_isAboard hL hi (by omega)) rfl rfl (Nat.le_of_ble_eq_true rfl) (fun a3 M8 ha3 => ?_)
    obtain ⟨ha4, hM8⟩ := ha3
    rw [hM8]
    refine x_if_ne 16 18 rfl dX11_least_13 (by decide) (fun c13 => ?_) (fun c13 => ?_)
    · refine x_sipush 21 rfl dX11_least_18 (by decide) ?_
      refine y_istore_n 22 rfl dX11_least_21 rfl rfl (ls' := [_, _, _]) rfl (by decide) ?_
      refine zW_loose (loop hx 999 M (by omega) rfl mF_refl) ?_
      rintro v sz1 S1 M1 ⟨r, h1, h2, h3, h4, h5⟩
      exact ⟨r, h1, h2, h3, by rw [h4, if_pos ⟨hx, by omega⟩], h5⟩
    · refine x_iconst 17 rfl dX11_least_16 (by decide) ?_
      refine x_reti dX11_least_17 rfl ?_
      exact ⟨by rw [if_neg (fun h9 => by omega)], mF_refl⟩

set_option maxRecDepth 100000 in
set_option maxHeartbeats 4000000 in
theorem c_X5_greatestLay {d sz : Nat} {S : zSh} {M : zMem} (hL : LY S sz) {k : Nat → Int} (hs : SR M 1 k) (hi : KI k) {Lw : List gC} (hLw : LwC S sz M 1 k Lw) (hv : v42 M) {x : Int} (hx : 0 ≤ x ∧ x < k 75) : zX (d + 4) 0 0 mX5_greatestLay [zn 49, zn 1, zi x] sz S M (zI sz S (fun r M' => r = zlst Lw k x.toNat 999 ∧ jF M M')) := by
  have i1 := hi.1
  have hcr := zcrew_in hi
  have loop : ∀ (n : Nat) (M2 : zMem), n ≤ 999 → zlst Lw k x.toNat n = zlst Lw k x.toNat 999 → jF M M2 → zW mX5_greatestLay (d + 4) 0 0 [] (zI sz S (fun r M' => r = zlst Lw k x.toNat 999 ∧ jF M M')) 10 [some (zn 49), some (zn 1), some (zi x), some (zi (zcrew k)), some (zi (n : Int))] [] sz S M2 := by
    intro n
    induction n with
    | zero =>
      intro M2 hn h1 hF2
      refine x_iload 12 rfl dX5_greatestLay_10 rfl ?_
      refine x_if_le 15 39 rfl dX5_greatestLay_12 (by decide) (fun c12 => ?_) (fun c12 => ?_)
      · refine x_iconst 40 rfl dX5_greatestLay_39 (by decide) ?_
        refine x_reti dX5_greatestLay_40 rfl ?_
        exact ⟨h1, hF2⟩
      · exfalso; omega
    | succ n ih =>
      intro M2 hn h1 hF2
      refine x_iload 12 rfl dX5_greatestLay_10 rfl ?_
      refine x_if_le 15 39 rfl dX5_greatestLay_12 (by decide) (fun c12 => ?_) (fun c12 => ?_)
      · exfalso; omega
      · refine x_aload_n 16 rfl dX5_greatestLay_15 0 rfl rfl ?_
        refine x_getr 19 rfl fX5_25 dX5_greatestLay_16 (lyl49 hL) (lys49 hL) (by decide) (39) rfl ?_
        refine x_aload_n 20 rfl dX5_greatestLay_19 1 rfl rfl ?_
        refine x_iload_n 21 rfl dX5_greatestLay_20 2 rfl rfl ?_
        refine x_iload 23 rfl dX5_greatestLay_21 rfl ?_
        refine x_iload_n 24 rfl dX5_greatestLay_23 3 rfl rfl ?_
        refine x_cVi 27 rfl lX5_109 dX5_greatestLay_24 (lyl39 hL) (lys39 hL) (c_X1_runsOff (Lw := Lw) hL (ly_sh1 hL) (by decide) (SR_frame hs (fun i a b => hF2.1 i (by omega) (by omega))) hi (LwC_frame hLw rfl (hF2.1 11 (by decide) (by decide)) (fun i h => hF2.1 i (by omega) (by omega))) hF2.2 (by omega) (by omega) (by omega)) rfl rfl (Nat.le_of_ble_eq_true rfl) (fun b3 M3 hb3 => ?_)
        obtain ⟨hb4, hF3⟩ := hb3
        rw [zdesI_iff] at hb4
        have hF4 := jF_trans hF2 hF3
        have e9 : zlst Lw k x.toNat (n + 1) = if zdesI Lw k x.toNat ((n : Int) + 1) (zcrew k) = 1 then zlst Lw k x.toNat n else (n : Int) + 1 := rfl
        refine x_if_ne 30 33 rfl dX5_greatestLay_27 (by decide) (fun c27 => ?_) (fun c27 => ?_)
        · refine w_iinc 36 rfl dX5_greatestLay_33 rfl (by decide) (by omega) rfl (ls' := [_, _, _, _, _]) rfl (by decide) ?_
          refine x_goto 10 dX5_greatestLay_36 (by decide) ?_
          refine z_wk (ls' := [some (zn 49), some (zn 1), some (zi x), some (zi (zcrew k)), some (zi (n : Int))]) ⟨rfl, rfl, rfl, rfl, z_e (by omega), trivial⟩ (ih M3 (by omega) (by rw [← h1, e9, if_pos (by rcases hb4 with h | h; exact h.2; exfalso; omega)]) hF4)
        · refine x_iload 32 rfl dX5_greatestLay_30 rfl ?_
          refine x_reti dX5_greatestLay_32 rfl ?_
          refine ⟨?_, hF4⟩
          rw [← h1, e9, if_neg (by rcases hb4 with h | h; (exfalso; omega); exact h.2)]
          omega
  refine zX_of pl_RX5 [some (zn 49), some (zn 1), some (zi x), none, none] 2 rfl rfl ?_
  refine x_aload_n 1 rfl dX5_greatestLay_0 1 rfl rfl ?_
  refine x_cVi 4 rfl lX5_44 dX5_greatestLay_1 (lyl1 hL) (lys1 hL) (c_X7_crewSize (ly_sh1 hL) hs hi) rfl rfl (Nat.le_of_ble_eq_true rfl) (fun a1 M9 ha1 => ?_)
  obtain ⟨ha2, hM9⟩ := ha1
  rw [hM9]
  subst ha2
  refine y_istore_n 5 rfl dX5_greatestLay_4 rfl rfl (ls' := [_, _, _, _, _]) rfl (by decide) ?_
  refine x_sipush 8 rfl dX5_greatestLay_5 (by decide) ?_
  refine y_istore 10 rfl dX5_greatestLay_8 rfl (ls' := [_, _, _, _, _]) rfl (by decide) ?_
  exact loop 999 M (by omega) rfl (jF_refl hv)

set_option maxRecDepth 100000 in
set_option maxHeartbeats 4000000 in
theorem c_X10_least {d sz : Nat} {S : zSh} {M : zMem} (hL : LY S sz) {k : Nat → Int} (hs : SR M 1 k) (hi : KI k) {Lw : List gC} (hLw : LwC S sz M 1 k Lw) (hv : v42 M) {x : Int} : zX (d + 5) 0 0 mX10_least [zn 0, zi x] sz S M (zI sz S (fun r M' => r = (if (0 ≤ x ∧ x < k 75) ∧ k (11 + x.toNat) = 1 then zlst Lw k x.toNat 999 else -1) ∧ jF M M')) := by
  have i1 := hi.1
  refine zX_of pl_RX10 [some (zn 0), some (zi x)] 0 rfl rfl ?_
  refine x_aload_n 1 rfl dX10_least_0 0 rfl rfl ?_
  refine x_getr 4 rfl fX10_10 dX10_least_1 (lyl0 hL) (lys0 hL) (by decide) (1) rfl ?_
  refine x_iload_n 5 rfl dX10_least_4 1 rfl rfl ?_
  refine x_cVi 8 rfl lX10_107 dX10_least_5 (lyl1 hL) (lys1 hL) (c_X7_hasHand (ly_sh1 hL) hs hi) rfl rfl (Nat.le_of_ble_eq_true rfl) (fun a1 M9 ha1 => ?_)
  obtain ⟨ha2, hM9⟩ := ha1
  rw [hM9]
  refine x_if_eq 11 22 rfl dX10_least_8 (by decide) (fun c8 => ?_) (fun c8 => ?_)
  · have hx : ¬ (0 ≤ x ∧ x < k 75) := fun h9 => by rw [if_pos h9] at ha2; omega
    refine x_iconst 23 rfl dX10_least_22 (by decide) ?_
    refine x_reti dX10_least_23 rfl ?_
    exact ⟨by rw [if_neg (fun h9 => hx h9.1)], jF_refl hv⟩
  · have hx : 0 ≤ x ∧ x < k 75 := Decidable.byContradiction (fun h9 => by rw [if_neg h9] at ha2; omega)
    have i2 := hi.2.1 x.toNat (by omega)
    refine x_aload_n 12 rfl dX10_least_11 0 rfl rfl ?_
    refine x_getr 15 rfl fX10_10 dX10_least_12 (lyl0 hL) (lys0 hL) (by decide) (1) rfl ?_
    refine x_iload_n 16 rfl dX10_least_15 1 rfl rfl ?_
    refine x_cVi 19 rfl lX10_121 dX10_least_16 (lyl1 hL) (lys1 hL) (c_X7_isAboard (ly_sh1 hL) hs hi (by omega)) rfl rfl (Nat.le_of_ble_eq_true rfl) (fun a3 M8 ha3 => ?_)
    obtain ⟨ha4, hM8⟩ := ha3
    rw [hM8]
    refine x_if_ne 22 24 rfl dX10_least_19 (by decide) (fun c19 => ?_) (fun c19 => ?_)
    · refine x_aload_n 25 rfl dX10_least_24 0 rfl rfl ?_
      refine x_getr 28 rfl fX10_75 dX10_least_25 (lyl0 hL) (lys0 hL) (by decide) (49) rfl ?_
      refine x_aload_n 29 rfl dX10_least_28 0 rfl rfl ?_
      refine x_getr 32 rfl fX10_10 dX10_least_29 (lyl0 hL) (lys0 hL) (by decide) (1) rfl ?_
      refine x_iload_n 33 rfl dX10_least_32 1 rfl rfl ?_
      refine x_cVi 36 rfl lX10_260 dX10_least_33 (lyl49 hL) (lys49 hL) (c_X5_greatestLay (Lw := Lw) hL hs hi hLw hv hx) rfl rfl (Nat.le_of_ble_eq_true rfl) (fun r1 M1 hr1 => ?_)
      obtain ⟨hr2, hF1⟩ := hr1
      refine x_reti dX10_least_36 rfl ?_
      refine ⟨?_, hF1⟩
      rw [hr2, if_pos ⟨hx, by omega⟩]
    · refine x_iconst 23 rfl dX10_least_22 (by decide) ?_
      refine x_reti dX10_least_23 rfl ?_
      exact ⟨by rw [if_neg (fun h9 => by omega)], jF_refl hv⟩
