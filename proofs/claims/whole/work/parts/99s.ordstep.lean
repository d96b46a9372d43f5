/-! THE LAW'S LOOP: orders, as a step -/
def oOk (k0 : Nat → Int) (s : oS) : Prop := KI s.1 ∧ (∀ i, 23 ≤ i → s.1 i = k0 i) ∧ s.2.2.1 ≤ 16 ∧ ∀ j, j < s.2.2.1 → (0 ≤ s.2.1 j 23 ∧ s.2.1 j 23 ≤ 3) ∧ KI (kMoved s.1 (s.2.1 j))
theorem zo1_ok {Lw : List gC} {x : gC} {k0 : Nat → Int} {s s' : oS} (hx : 16 ≤ x.1.1 ∧ x.1.1 ≤ 19) (h : oOk k0 s) (hz : zo1 Lw x s = some s') : oOk k0 s' := by
  obtain ⟨h1, h2, h3, h4⟩ := h
  unfold zo1 at hz
  by_cases ht : x.2.2.2 (oE s.1 s.2.2.2.1 s.2.2.2.2) = some 1
  · rw [if_pos ht] at hz
    rcases ea : x.2.1 (oE s.1 s.2.2.2.1 s.2.2.2.2) with _ | a
    · rw [ea] at hz; cases hz
    rcases eb : x.2.2.1 (oE s.1 s.2.2.2.1 s.2.2.2.2) with _ | b
    · rw [ea, eb] at hz; cases hz
    rw [ea, eb] at hz
    simp only at hz
    by_cases hn : (zactF Lw s.1 x.1.1 a b).1 < 0
    · rw [if_pos hn] at hz; cases hz
    · rw [if_neg hn] at hz
      cases hz
      have hR := zactF_R (Lw := Lw) h1 (K := x.1.1) (x := a) (y := b)
      have hI := actR_in h1 hx hR
      have hh : ∀ i, 23 ≤ i → (zactF Lw s.1 x.1.1 a b).2 i = s.1 i := fun i hi => zactF_hi h1 hi
      exact ⟨hI.2, fun i hi => (hh i hi).trans (h2 i hi), by show min (s.2.2.1 + 1) 16 ≤ 16; omega, push_ok h1 h4 h3 (by omega) hh⟩
  · rw [if_neg ht] at hz; cases hz; exact ⟨h1, h2, h3, h4⟩
theorem zoT_ok {Lw : List gC} {x : gC} {k0 : Nat → Int} (hx : 16 ≤ x.1.1 ∧ x.1.1 ≤ 19) : ∀ (n : Nat) (s s' : oS), oOk k0 s → zoT Lw x n s = some s' → oOk k0 s'
  | 0, s, s', h, hz => by cases hz; exact h
  | n + 1, s, s', h, hz => by
    rcases e : zo1 Lw x s with _ | s1
    · rw [zoT_none e] at hz; cases hz
    · rw [zoT_some e] at hz; exact zoT_ok hx n s1 s' (zo1_ok hx h e) hz
theorem zoL_ok {Lw : List gC} {k0 : Nat → Int} : ∀ (L : List gC) (i : Nat) (s s' : oS), (∀ x ∈ L, 16 ≤ x.1.1 ∧ x.1.1 ≤ 19) → oOk k0 s → zoL Lw L i s = .inr s' → oOk k0 s'
  | [], i, s, s', _, h, hz => by cases hz; exact h
  | x :: t, i, s, s', hx, h, hz => by
    rcases e : zoT Lw x x.1.2.2.2.2.toNat s with _ | s1
    · unfold zoL at hz; rw [e] at hz; cases hz
    · unfold zoL at hz; rw [e] at hz
      exact zoL_ok t (i + 1) s1 s' (fun y hy => hx y (List.mem_cons_of_mem _ hy)) (zoT_ok (hx x List.mem_cons_self) _ s s1 h e) hz
theorem kMoved_k6 {k c v e : Nat → Int} {n : Nat} : kMoved (k6 k c v n) e = k6 (kMoved k e) c v n := by
  funext j
  by_cases hj : j < 23
  · rw [k6_lo (by omega)]; unfold kMoved; rw [if_pos hj, if_pos hj]
  · rw [kMoved_at (by omega)]
    unfold k6 kLs
    rw [kMoved_at (by omega)]
theorem iv_om {c c' : Int} {S : zSh} {sz n : Nat} {M N : zMem} {cf vf : Nat → Int} (h : IV c S sz M) (hn : n ≤ 400) (f : ∀ i, i = 23 ∨ i = 31 ∨ i = 50 ∨ i = 52 ∨ i = 58 ∨ i = 59 ∨ i = 61 ∨ i = 62 ∨ i = 72 ∨ 74 ≤ i → N i = M i) (f11 : ∀ t, t < 6 → N 11 t = M 11 t) (f0 : N 0 3 = M 0 3) (f43 : N 55 43 = M 55 43) (f44 : N 55 44 = M 55 44) (hr : RFI c' N N) (hc : SCI N N) (h30 : N 30 1 = 0) (h13 : N 55 13 = 0) (hs : SR N 1 (N 57)) (hi : KI (N 57)) (hl : LGI N N) (hk : ∀ i, 23 ≤ i → N 57 i = k6 (M 57) cf vf n i) (hv : v42 N) (hv8 : v48 N) : IV c' S sz N := by
  have hh := h
  obtain ⟨g1, g2, g3, g4, g5, g6, g7, g8, g9, g10, g11⟩ := h
  refine IV_1 hh ⟨fun i hi => f i (by omega), f 23 (by omega), f0, f 58 (by omega), f 59 (by omega), f 74 (by omega), f43, f44⟩ hs hi hr hc ?_ hl f11 (by rw [hk 78 (by decide), k6_lo (by decide)]) (fun i a1 a2 a3 a4 => ?_) ?_
  · obtain ⟨t1, t2, t3, t4, t5⟩ := g6
    refine ⟨by omega, by omega, ?_, ?_, ?_⟩
    · rw [f 31 (by omega), f 62 (by omega)]; exact t3
    · unfold tbI; rw [f 62 (by omega)]; exact t4
    · unfold wdI; rw [f 61 (by omega)]; exact t5
  · rw [hk i (by omega)]
    by_cases h86 : i < 86
    · exact k6_lo h86
    · exact k6_law (by omega) hn
  · obtain ⟨x1, x2, x3, x4, x5⟩ := g11
    refine ⟨hv, hv8, ?_, ?_, ?_⟩
    · rw [f 52 (by omega)]; exact x3
    · rw [f 50 (by omega)]; exact x4
    · rw [f 72 (by omega)]; exact x5
theorem iv_orders {c : Int} {S : zSh} {sz n n0 : Nat} {M M1 M2 : zMem} {r r2 : Int} {Lw : List gC} {l : Nat → Nat → Int} {cf vf pf pf' : Nat → Int} {R : Nat ⊕ (gS × List gC)} (h : IV c S sz M) (hTK : TK cf vf n) {cd0 : Nat → Int} (hq : g_text true cf vf n 12 (gz cd0) [] = R) (hpf : ∀ t, t ≤ n → pf' t = pf t) (hl2 : lR (M 69) l n0) (h32 : M 55 32 = (n0 : Int)) (hv : ∀ j, j < n0 → (0 ≤ l j 23 ∧ l j 23 ≤ 3) ∧ KI (kMoved (M 57) (l j)))
    (h1 : ∃ C2 : zMem, (∀ i, i ≠ 30 → ¬ (32 ≤ i ∧ i ≤ 38) → C2 i = z_up M 0 14 (-1) i) ∧ C2 30 = ku (z_up M 0 14 (-1) 30) 1 0 ∧ ((∃ t, R = .inl t ∧ r = -6 ∧ M1 = cRef (z_up C2 0 12 (pf' t)) (-6)) ∨ ∃ q, R = .inr q ∧ orQ Lw (k6 (M 57) cf vf n) l n0 q.2 C2 r M1))
    (h2 : (∃ (t : Nat) (x y : Int), R = .inl t ∧ r2 = -6 ∧ M2 = zRef (lwN (z_up M1 55 35 (-1)) true (n : Int) cf vf pf (pf t) x y) (-6)) ∨ ∃ q, R = .inr q ∧ rorQ Lw M1 (k6 (M1 57) cf vf n) l n0 q.2 r2 M2) : r = r2 ∧ IV (c + 1) S sz M2 := by
  have hh := h
  obtain ⟨g1, g2, g3, g4, g5, g6, g7, g8, g9, g10, g11⟩ := h
  have hn := hTK.1
  obtain ⟨C2, a1, a2, a3⟩ := h1
  have c1 : ∀ i, i ≠ 0 → i ≠ 30 → ¬ (32 ≤ i ∧ i ≤ 38) → C2 i = M i := fun i p1 p2 p3 => by rw [a1 i p2 p3, z_up_ne p1]
  have c0 : ∀ j, j ≠ 14 → C2 0 j = M 0 j := fun j p => by rw [a1 0 (by decide) (by omega), z_up_nk p]
  have c014 : C2 0 14 = -1 := by rw [a1 0 (by decide) (by omega), z_up_eq]
  have c30 : C2 30 1 = 0 := by rw [a2, ku_eq]
  rcases a3 with ⟨t, b1, b2, b3⟩ | ⟨⟨s9, L⟩, b1, C3, b2, b3, b4, b5, b6⟩
  · rcases h2 with ⟨t2, x, y, d1, d2, d3⟩ | ⟨q, d1, -⟩
    · rw [b1] at d1; cases d1
      refine ⟨by omega, ?_⟩
      have htn : t ≤ n := (g_text_ok hTK 12 (gz cd0) [] gz_A rfl (fun x hx => by cases hx)).1 t (hq.trans b1)
      have e : ∀ i, i ≠ 0 → i ≠ 30 → ¬ (32 ≤ i ∧ i ≤ 38) → i ≠ 54 → i ≠ 55 → i ≠ 56 → i ≠ 64 → i ≠ 65 → i ≠ 66 → M2 i = M i := fun i p1 p2 p9 p3 p4 p5 p6 p7 p8 => by
        rw [d3]; unfold zRef; rw [z_up_ne p5, z_up_ne p4, lwN_ne p4 p6 p7 p8, z_up_ne p4, b3]; unfold cRef; rw [z_up_ne p3, z_up_ne p1, z_up_ne p1]; exact c1 i p1 p2 p9
      have e55 : M1 55 = M 55 := by rw [b3]; unfold cRef; rw [z_up_ne (by decide), z_up_ne (by decide), z_up_ne (by decide)]; exact c1 55 (by decide) (by decide) (by omega)
      have eL : ∀ j, (j ≠ 8 ∧ j ≠ 9 ∧ j ≠ 10 ∧ j ≠ 13 ∧ j ≠ 14 ∧ j ≠ 18 ∧ j ≠ 19 ∧ j ≠ 20 ∧ j ≠ 21) → j ≠ 0 → j ≠ 35 → M2 55 j = M 55 j := fun j p q s => by
        rw [d3]; unfold zRef; rw [z_up_ne (by decide), z_up_nk q, lwN_o p, z_up_nk s, e55]
      have e0 : ∀ j, j ≠ 15 → j ≠ 12 → M2 0 j = C2 0 j := fun j p q => by
        rw [d3]; unfold zRef; rw [z_up_ne (by decide), z_up_ne (by decide), lwN_ne (by decide) (by decide) (by decide) (by decide), z_up_ne (by decide), b3]; unfold cRef; rw [z_up_ne (by decide), z_up_nk p, z_up_nk q]
      refine iv_bad hh (x := -6) (by decide) (fun i hi => e i (by omega) (by omega) (by omega) (by omega) (by omega) (by omega) (by omega) (by omega) (by omega)) ?_ ?_ (by rw [e0 3 (by decide) (by decide)]; exact c0 3 (by decide)) ⟨?_, ?_, ?_, ?_⟩ ?_ ?_ (fun j hj => eL j (by omega) (by omega) (by omega))
      · rw [d3]; unfold zRef; rw [z_up_ne (by decide), z_up_ne (by decide), lwN_ne (by decide) (by decide) (by decide) (by decide), z_up_ne (by decide), b3]; unfold cRef
        rw [← c1 54 (by decide) (by decide) (by omega)]; funext j; simp [z_up, ku]
      · have e56 : lwN (z_up M1 55 35 (-1)) true (n : Int) cf vf pf (pf t) x y 56 = M 56 := by rw [lwN_ne (by decide) (by decide) (by decide) (by decide), z_up_ne (by decide), b3]; unfold cRef; rw [z_up_ne (by decide), z_up_ne (by decide), z_up_ne (by decide), c1 56 (by decide) (by decide) (by omega)]
        rw [d3]; unfold zRef; rw [e56]; funext j
        by_cases hj : j = (-(-6 : Int)).toNat
        · rw [hj, z_up_eq, ku_eq]
        · rw [z_up_nk hj, z_up_ne (by decide), ku_ne hj, e56]
      · rw [d3]; unfold zRef; rw [z_up_ne (by decide), z_up_ne (by decide), z_up_ne (by decide), z_up_nk (by decide), lwN_14, lwN_ne (by decide) (by decide) (by decide) (by decide), z_up_ne (by decide), b3]; unfold cRef; rw [z_up_ne (by decide), z_up_nk (by decide), z_up_eq]; exact hpf t htn
      · rw [e0 13 (by decide) (by decide), c0 13 (by decide), eL 6 (by omega) (by decide) (by decide)]; exact g5.2.1
      · rw [e0 14 (by decide) (by decide), c014, d3]; unfold zRef; rw [z_up_ne (by decide), z_up_nk (by decide), lwN_o (by omega), z_up_eq]
      · rw [d3]; unfold zRef; rw [z_up_ne (by decide), z_up_ne (by decide), z_up_ne (by decide), z_up_eq, lwN_ne (by decide) (by decide) (by decide) (by decide), z_up_ne (by decide), b3]; unfold cRef; rw [z_up_ne (by decide), z_up_eq]
      · rw [d3]; unfold zRef; rw [z_up_ne (by decide), z_up_ne (by decide), lwN_ne (by decide) (by decide) (by decide) (by decide), z_up_ne (by decide), b3]; unfold cRef; rw [z_up_ne (by decide), z_up_ne (by decide), z_up_ne (by decide), c30]
      · rw [d3]; unfold zRef; rw [z_up_ne (by decide), z_up_nk (by decide), lwN_13]
    · rw [b1] at d1; cases d1
  · rcases h2 with ⟨t2, x, y, d1, -⟩ | ⟨q, d1, d2⟩
    · rw [b1] at d1; cases d1
    rw [b1] at d1; cases d1
    have hgt := (g_text_ok hTK 12 (gz cd0) [] gz_A rfl (fun x hx => by cases hx)).2 s9 L (hq.trans b1)
    have c3 : ∀ i, (i = 23 ∨ i = 31 ∨ i = 39 ∨ i = 40 ∨ i = 43 ∨ i = 46 ∨ 49 ≤ i) → C3 i = M i := fun i hi => by rw [b2 i (by omega)]; exact c1 i (by omega) (by omega) (by omega)
    have c330 : C3 30 1 = 0 := by rw [b2 30 (by omega), c30]
    have c311 : ∀ t, t < 6 → C3 11 t = M 11 t := fun t ht => by rw [b5 t ht, c1 11 (by decide) (by decide) (by omega)]
    obtain ⟨N, d3, d4⟩ := d2
    have hKk : ∀ e, KI (kMoved (M 57) e) → KI (kMoved (k6 (M 57) cf vf n) e) := fun e he => by rw [kMoved_k6]; exact KI_k6 he hn
    rcases hz : zoL Lw L 0 (k6 (M 57) cf vf n, l, n0, 0, -1) with j | st
    · rw [hz] at b6
      obtain ⟨b7, b8, b9, b10, b11⟩ := b6
      have m1 : ∀ i, i ≠ 0 → i ≠ 54 → M1 i = C3 i := fun i p q => by rw [b11]; unfold cRef; rw [z_up_ne q, z_up_ne p]
      have e57 : M1 57 = M 57 := by rw [m1 57 (by decide) (by decide)]; exact c3 57 (by omega)
      rw [e57, hz] at d4
      obtain ⟨d5, d6, d7, d8, d9, d10⟩ := d4
      refine ⟨by omega, ?_⟩
      have m2 : ∀ i, i ≠ 55 → i ≠ 56 → M2 i = N i := fun i p q => by rw [d10]; unfold zRef; rw [z_up_ne q, z_up_ne p]
      have m255 : ∀ j, j ≠ 0 → M2 55 j = N 55 j := fun j p => by rw [d10]; unfold zRef; rw [z_up_ne (by decide), z_up_nk p]
      have mA : ∀ i, (1 ≤ i ∧ i < 54) → M2 i = C3 i := fun i hi => by rw [m2 i (by omega) (by omega), d3.1 i (by omega), m1 i (by omega) (by omega)]
      have mB : ∀ i, (i = 58 ∨ i = 59 ∨ i = 61 ∨ i = 62 ∨ i = 72 ∨ 74 ≤ i) → M2 i = M i := fun i hi => by rw [m2 i (by omega) (by omega), d3.1 i (by omega), m1 i (by omega) (by omega)]; exact c3 i (by omega)
      have e56 : N 56 = M 56 := by rw [d3.1 56 (by omega), m1 56 (by decide) (by decide)]; exact c3 56 (by omega)
      have m57 : M2 57 = k6 (M 57) cf vf n := by rw [m2 57 (by decide) (by decide)]; exact d6
      have mo : ∀ q, q ≠ 15 → M2 0 q = C3 0 q := fun q p => by rw [m2 0 (by decide) (by decide), d3.1 0 (by omega), b11]; unfold cRef; rw [z_up_ne (by decide), z_up_nk p]
      have m55 : ∀ q, (q < 8 ∨ 41 ≤ q) → q ≠ 0 → M2 55 q = M 55 q := fun q p s => by rw [m255 q s, d3.2.1 q p, m1 55 (by decide) (by decide), c3 55 (by omega)]
      refine iv_om hh hn (cf := cf) (vf := vf) (fun i hi => ?_) (fun t ht => by rw [mA 11 (by omega)]; exact c311 t ht) ?_ (m55 43 (by omega) (by decide)) (m55 44 (by omega) (by decide)) ?_ ⟨?_, ?_, ?_, ?_⟩ (by rw [mA 30 (by omega)]; exact c330) (by rw [m255 13 (by decide)]; exact d3.2.2.1) ?_ (by rw [m57]; exact KI_k6 g3 hn) ?_ (fun i _ => by rw [m57]) ?_ ?_
      · by_cases h54 : i < 54
        · rw [mA i (by omega)]; exact c3 i (by omega)
        · exact mB i (by omega)
      · rw [mo 3 (by decide), b10, ku_ne (by decide), ku_ne (by decide)]; exact c0 3 (by decide)
      · intro i hi
        have g := g4 i hi
        have x1 : M2 54 = ku (M 54) 3 (M 54 3 + 1) := by
          rw [m2 54 (by decide) (by decide), d3.1 54 (by omega), b11]; unfold cRef
          rw [← c3 54 (by omega)]; funext q; simp [z_up, ku]
        have x2 : M2 56 = ku (M 56) 3 (M 56 3 + 1) := by
          rw [d10]; unfold zRef; rw [e56]; funext q
          by_cases hq3 : q = 3
          · rw [hq3]; rw [show (-(-3 : Int)).toNat = 3 from rfl, z_up_eq, ku_eq]
          · rw [show (-(-3 : Int)).toNat = 3 from rfl, z_up_nk hq3, z_up_ne (by decide), ku_ne hq3, e56]
        rw [x1, x2]
        by_cases hi3 : i = 3
        · subst hi3; rw [ku_eq, ku_eq]; omega
        · rw [ku_ne hi3, ku_ne hi3]; omega
      · rw [mo 12 (by decide), b10, ku_ne (by decide), ku_eq, m255 14 (by decide)]; exact d3.2.2.2.symm
      · rw [mo 13 (by decide), b10, ku_ne (by decide), ku_ne (by decide), c0 13 (by decide), m55 6 (by omega) (by decide)]; exact g5.2.1
      · rw [mo 14 (by decide), b10, ku_eq, m255 35 (by decide)]; exact d9.symm
      · rw [m2 0 (by decide) (by decide), d3.1 0 (by omega), b11, d10]; unfold cRef zRef; rw [z_up_ne (by decide), z_up_eq, z_up_ne (by decide), z_up_eq]
      · rw [m57]; exact SR_frame b8 (fun i p q => mA i (by omega))
      · refine ⟨l, n0, LR_fr b9 (mA 24 (by omega)) (mA 25 (by omega)) (mA 26 (by omega)), by rw [m2 69 (by decide) (by decide)]; exact d7, by rw [m255 32 (by decide)]; exact d8, fun j hj => ⟨(hv j hj).1, ?_⟩⟩
        rw [m57]; exact hKk _ (hv j hj).2
      · unfold v42; rw [mA 42 (by omega)]; exact b3
      · unfold v48; rw [mA 48 (by omega)]; exact b4
    · rw [hz] at b6
      obtain ⟨b7, b12, b8, b9, b13, b10, b11⟩ := b6
      have m1 : ∀ i, i ≠ 0 → M1 i = C3 i := fun i p => by rw [b11, z_up_ne p]
      have e57 : M1 57 = M 57 := by rw [m1 57 (by decide)]; exact c3 57 (by omega)
      rw [e57, hz] at d4
      obtain ⟨d5, d6, d7, d8, d9, d11, d12, d10⟩ := d4
      refine ⟨by rw [b7, d5], ?_⟩
      have hok := zoL_ok (Lw := Lw) (k0 := k6 (M 57) cf vf n) L 0 _ st (fun x hx => (hgt.2.2.2.2 x hx).1.1) ⟨KI_k6 g3 hn, fun _ _ => rfl, hl2.1, fun j hj => ⟨(hv j hj).1, hKk _ (hv j hj).2⟩⟩ hz
      have m2 : ∀ i, i ≠ 55 → M2 i = N i := fun i p => by rw [d10, z_up_ne p]
      have m255 : ∀ j, j ≠ 0 → M2 55 j = N 55 j := fun j p => by rw [d10, z_up_nk p]
      have mA : ∀ i, (1 ≤ i ∧ i < 55) → M2 i = C3 i := fun i hi => by rw [m2 i (by omega), d3.1 i (by omega), m1 i (by omega)]
      have mB : ∀ i, (i = 56 ∨ i = 58 ∨ i = 59 ∨ i = 61 ∨ i = 62 ∨ i = 72 ∨ 74 ≤ i) → M2 i = M i := fun i hi => by rw [m2 i (by omega), d3.1 i (by omega), m1 i (by omega)]; exact c3 i (by omega)
      have m57 : M2 57 = st.1 := by rw [m2 57 (by decide)]; exact d6
      have mo : ∀ q, q ≠ 15 → M2 0 q = C3 0 q := fun q p => by rw [m2 0 (by decide), d3.1 0 (by omega), b11, z_up_nk p]
      have m55 : ∀ q, (q < 8 ∨ 41 ≤ q) → q ≠ 0 → M2 55 q = M 55 q := fun q p s => by rw [m255 q s, d3.2.1 q p, m1 55 (by decide), c3 55 (by omega)]
      refine iv_om hh hn (cf := cf) (vf := vf) (fun i hi => ?_) (fun t ht => by rw [mA 11 (by omega)]; exact c311 t ht) ?_ (m55 43 (by omega) (by decide)) (m55 44 (by omega) (by decide)) ?_ ⟨?_, ?_, ?_, ?_⟩ (by rw [mA 30 (by omega)]; exact c330) (by rw [m255 13 (by decide)]; exact d3.2.2.1) ?_ (by rw [m57]; exact b9) ?_ (fun i hi => by rw [m57]; exact d8 i hi) ?_ ?_
      · by_cases h54 : i < 55
        · rw [mA i (by omega)]; exact c3 i (by omega)
        · exact mB i (by omega)
      · rw [mo 3 (by decide), b10, ku_ne (by decide)]; exact c0 3 (by decide)
      · intro i hi; rw [mA 54 (by omega), c3 54 (by omega), mB 56 (by omega)]; have := g4 i hi; omega
      · rw [mo 12 (by decide), b10, ku_eq, m255 14 (by decide)]; exact d3.2.2.2.symm
      · rw [mo 13 (by decide), b10, ku_ne (by decide), c0 13 (by decide), m55 6 (by omega) (by decide)]; exact g5.2.1
      · rw [mo 14 (by decide), b10, ku_ne (by decide), c014, m255 35 (by decide)]; exact d12.symm
      · rw [m2 0 (by decide), d3.1 0 (by omega), b11, d10, z_up_eq, z_up_eq]
      · rw [m57]; exact SR_frame b8 (fun i p q => mA i (by omega))
      · exact ⟨st.2.1, st.2.2.1, LR_fr b13 (mA 24 (by omega)) (mA 25 (by omega)) (mA 26 (by omega)), by rw [m2 69 (by decide)]; exact d9, by rw [m255 32 (by decide)]; exact d11, by rw [m57]; exact hok.2.2.2⟩
      · unfold v42; rw [mA 42 (by omega)]; exact b3
      · unfold v48; rw [mA 48 (by omega)]; exact b4
