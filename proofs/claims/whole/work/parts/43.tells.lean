def stF (hd : Int) (e : Int → Int → Int) (a : Option Int) (x : gC) : Option Int := if x.1.1 = hd ∧ x.2.2.2 e = some 1 then (match x.2.1 e with
  | some y => some y
  | none => a) else a
/-- what the last clause of a kind that holds tells -/
def lastF (hd : Int) (e : Int → Int → Int) (L : List gC) : Option Int := L.foldl (stF hd e) none
theorem lastF_app {hd : Int} {e : Int → Int → Int} {L : List gC} {x : gC} : lastF hd e (L ++ [x]) = stF hd e (lastF hd e L) x := by simp [lastF, List.foldl_append]
def clamp (low y : Int) : Int := if y < low then low else if 99 < y then 99 else y
def tellF (low wo : Int) (a : Option Int) : Int := match a with
  | none => wo
  | some y => clamp low y
def LawK (k : Nat → Int) (t : Nat) (L : List gC) : Prop := ∃ (c v : Nat → Int) (n : Nat) (cd0 : Nat → Int) (s' : gS), k (80 + t) = (n : Int) ∧ TK c v n ∧ (∀ i, i < n → k (87 + (400 * t + i)) = c i) ∧ (∀ i, i < n → k (2887 + (400 * t + i)) = v i) ∧ g_text false c v n 12 (gz cd0) [] = .inr (s', L)
/-- the reference's scratch apart, nothing has changed -/
def mF (M M' : zMem) : Prop := (∀ i, i ≠ 55 → i ≠ 67 → M' i = M i) ∧ ∀ j, j ≠ 22 → j ≠ 23 → j ≠ 24 → j ≠ 25 → M' 55 j = M 55 j
theorem mF_refl {M : zMem} : mF M M := ⟨fun _ _ _ => rfl, fun _ _ _ _ _ => rfl⟩
theorem mF_trans {M M1 M2 : zMem} (h : mF M M1) (h1 : mF M1 M2) : mF M M2 := ⟨fun i a b => (h1.1 i a b).trans (h.1 i a b), fun j a b c d => (h1.2 j a b c d).trans (h.2 j a b c d)⟩
theorem g_tail_inv {o : Bool} {c v : Nat → Int} {s s' : gS} {mk : Int → gV → gC} {x : gC} (h : g_tail c v o s mk = .inr (s', x)) : (c s.1 = 4 ∧ ∃ s1 w, g_testD c v o 8 (g_ad s) = .inr (s1, w) ∧ s'.1 = s1.1 ∧ x = mk (s.2.2.1 : Int) w) ∨ (c s.1 ≠ 4 ∧ s' = s ∧ x = mk (-1) (v_k 1)) := by
  unfold g_tail at h
  by_cases h4 : c s.1 = 4
  · rw [if_pos h4] at h
    obtain ⟨s1, w, h1, h2⟩ := g_bc_r h
    cases h2
    exact Or.inl ⟨h4, s1, w, h1, rfl, rfl⟩
  · rw [if_neg h4] at h; cases h; exact Or.inr ⟨h4, rfl, rfl⟩
theorem g_law_inv {c v : Nat → Int} {s s' : gS} {x : gC} (h : g_law c v s = .inr (s', x)) : ((c s.1 = 1 ∨ c s.1 = 2) ∧ ∃ s1 w, g_sumD c v false 8 (g_ad s) = .inr (s1, w) ∧ g_tail c v false (g_em s1 0) (fun q wt => ((kap (c s.1), (s.2.2.1 : Int), -1, q, 1), w, v_k 0, wt)) = .inr (s', x)) ∨ (c s.1 = 3 ∧ g_tail c v false (g_ad s) (fun q wt => ((15, -1, -1, q, 1), v_k 1, v_k 0, wt)) = .inr (s', x)) := by
  unfold g_law at h
  by_cases h1 : c s.1 = 1 ∨ c s.1 = 2
  · rw [if_pos h1] at h
    obtain ⟨s1, w, h2, h3⟩ := g_bc_r h
    exact Or.inl ⟨h1, s1, w, h2, h3⟩
  · rw [if_neg h1] at h
    by_cases h3 : c s.1 = 3
    · rw [if_pos h3] at h; exact Or.inr ⟨h3, h⟩
    · rw [if_neg h3] at h; cases h
theorem g_text_inv {o : Bool} {c v : Nat → Int} {n f : Nat} {s s' : gS} {L L' : List gC} (h : g_text o c v n (f + 1) s L = .inr (s', L')) : ∃ s1 x, g_cl o c v s = .inr (s1, x) ∧ g_more o c v n f s1 (L ++ [x]) = .inr (s', L') := by
  rcases hq : g_cl o c v s with t | ⟨s1, x⟩
  · rw [g_text_f hq] at h; cases h
  · rw [g_text_s hq] at h; exact ⟨s1, x, rfl, h⟩
theorem g_more_inv {o : Bool} {c v : Nat → Int} {n f : Nat} {s s' : gS} {L L' : List gC} (h : g_more o c v n f s L = .inr (s', L')) : (c s.1 = 159 ∧ g_text o c v n f (g_ad s) L = .inr (s', L')) ∨ (s.1 = n ∧ L' = L) := by
  unfold g_more at h
  by_cases h1 : c s.1 = 159
  · rw [if_pos h1] at h; exact Or.inl ⟨h1, h⟩
  · rw [if_neg h1] at h
    by_cases h2 : s.1 = n
    · rw [if_pos h2] at h; cases h; exact Or.inr ⟨h2, rfl⟩
    · rw [if_neg h2] at h; cases h
theorem c_X11_sumOf8 {d sz : Nat} {S : zSh} {M : zMem} (hL : LY S sz) {B n : Nat} {c v : Nat → Int} (hM : EVM M B n c v) (hT : TK c v n) {o : Bool} (hO : M 55 25 = (if o = true then 1 else 0)) (hi : KI (M 57)) (hE : mEb M o) {live b : Int} (hlv : live = 0 ∨ live = 1) (hb : b = 0 ∨ b = 1) {s s' : gS} {w : gV} (hA : gA n s) (hq : g_sumD c v o 8 s = .inr (s', w)) : zX (d + 29) 0 0 mX11_sumOf [zn 55, zi live] sz S (ev M ((B + s.1 : Nat) : Int) b) (zJ sz S (fun r M' => EVO M B live b (w (mE M o)) s'.1 r M')) := c_X11_sumOfD hL hM hT hO hi hE 8 (d := d) hlv hb hA hq
theorem c_X11_testOf8 {d sz : Nat} {S : zSh} {M : zMem} (hL : LY S sz) {B n : Nat} {c v : Nat → Int} (hM : EVM M B n c v) (hT : TK c v n) {o : Bool} (hO : M 55 25 = (if o = true then 1 else 0)) (hi : KI (M 57)) (hE : mEb M o) {live b : Int} (hlv : live = 0 ∨ live = 1) (hb : b = 0 ∨ b = 1) {s s' : gS} {w : gV} (hA : gA n s) (hq : g_testD c v o 8 s = .inr (s', w)) : zX (d + 41) 0 0 mX11_testOf [zn 55, zi live] sz S (ev M ((B + s.1 : Nat) : Int) b) (zI sz S (fun r M' => EVT M B live b (w (mE M o)) s'.1 r M')) := c_X11_testOfD hL hM hT hO hi hE 8 (d := d) hlv hb hA hq

set_option maxRecDepth 100000 in
set_option maxHeartbeats 4000000 in
theorem w_X11_tells61 {d sz : Nat} {S : zSh} {M : zMem} (hL : LY S sz) {B n : Nat} {c v : Nat → Int} (hM : EVM M B n c v) (hT : TK c v n) (hO : M 55 25 = 0) (hi : KI (M 57)) (hE : mEb M false) {hdc lo wo : Int} (hhd : 1 ≤ hdc ∧ hdc ≤ 3) (hlo : 0 ≤ lo ∧ lo ≤ 99) (hwo : 0 ≤ wo ∧ wo ≤ 99) {L : List gC} {s9 : gS} {cd0 : Nat → Int} (hq0 : g_text false c v n 12 (gz cd0) [] = .inr (s9, L)) {b9 : Int} : zW mX11_tells (d + 42) 0 0 [] (zI sz S (fun r M' => r = tellF lo wo (lastF (12 + hdc) (mE M false) L) ∧ ∃ g b, M' = ev M g b)) 61 [some (zn 55), some (zi hdc), some (zi lo), some (zi wo), some (zl (tellF lo wo (lastF (12 + hdc) (mE M false) []))), none, none, none, none, none, none] [] sz S (ev M ((B + 0 : Nat) : Int) b9) := by
  have hM2 := hM.2.1
  have hM1 := hM.1
  have hn := hT.1
  have hO1 : M 55 25 = (if false = true then 1 else 0) := by rw [hO]; rfl
  have loop : ∀ (f : Nat) (s1 : gS) (Lp : List gC) (b0 : Int), gA n s1 → g_text false c v n f s1 Lp = .inr (s9, L) → zW mX11_tells (d + 42) 0 0 [] (zI sz S (fun r M' => r = tellF lo wo (lastF (12 + hdc) (mE M false) L) ∧ ∃ g b, M' = ev M g b)) 61 [some (zn 55), some (zi hdc), some (zi lo), some (zi wo), some (zl (tellF lo wo (lastF (12 + hdc) (mE M false) Lp))), none, none, none, none, none, none] [] sz S (ev M ((B + s1.1 : Nat) : Int) b0) := by
    intro f
    induction f with
    | zero => intro s1 Lp b0 hA hq; cases hq
    | succ f ih =>
      intro s1 Lp b0 hA hq
      obtain ⟨s2, x, hq1, hq2⟩ := g_text_inv hq
      have hcl : g_law c v s1 = .inr (s2, x) := hq1
      have hw2 := (g_law_ok hT hA).2 s2 x hcl
      have hB := gW_A hA hw2.1
      have hB1 := hB.1
      have hA1 := hA.1
      have hlt := hw2.1.1
      have fin : ∀ (is xs sb hh br : Int) (w wt : gV) (q1 q2 : Int), x = ((12 + is, q1, -1, q2, 1), w, v_k 0, wt) → ((sb = 0 ∧ w (mE M false) = some xs) ∨ (sb = 1 ∧ w (mE M false) = none)) → ((hh = 1 ∧ br = 0) ↔ wt (mE M false) = some 1) → (hh = 0 ∨ hh = 1) → (br = 0 ∨ br = 1) → zW mX11_tells (d + 42) 0 0 [] (zI sz S (fun r M' => r = tellF lo wo (lastF (12 + hdc) (mE M false) L) ∧ ∃ g b, M' = ev M g b)) 148 [some (zn 55), some (zi hdc), some (zi lo), some (zi wo), some (zl (tellF lo wo (lastF (12 + hdc) (mE M false) Lp))), none, some (zi is), some (zl xs), none, some (zi sb), some (zi hh)] [] sz S (ev M ((B + s2.1 : Nat) : Int) br) := by
        intro is xs sb hh br w wt q1 q2 hx hsb hok hh1 hbr
        obtain ⟨y, hy⟩ : ∃ y, tellF lo wo (lastF (12 + hdc) (mE M false) (Lp ++ [x])) = y := ⟨_, rfl⟩
        have nx : ∀ (b1 y1 : Int), y1 = y → zW mX11_tells (d + 42) 0 0 [] (zI sz S (fun r M' => r = tellF lo wo (lastF (12 + hdc) (mE M false) L) ∧ ∃ g b, M' = ev M g b)) 203 [some (zn 55), some (zi hdc), some (zi lo), some (zi wo), some (zl y1), none, some (zi is), some (zl xs), none, some (zi sb), some (zi hh)] [] sz S (ev M ((B + s2.1 : Nat) : Int) b1) := by
          intro b1 y1 hy1
          rw [hy1, ← hy]
          rcases g_more_inv hq2 with ⟨h1, h2⟩ | ⟨h1, h2⟩
          · have hB2 := gW_A hB (gW_ad hB (hT.lt hB1 (show c s2.1 ≠ 0 by omega)))
            refine x_aload_n 204 rfl dX11_tells_203 0 rfl rfl ?_
            refine x_dupr 205 rfl dX11_tells_204 ?_
            refine x_geti 208 rfl fX11_249 dX11_tells_205 (lyl55 hL) (lys55 hL) (by decide) ?_
            try simp (disch := omega) only [z_up_ne, z_up_nk, z_up_eq, z_mup_ne, z_mup_eq, Int.reduceToNat, Int.toNat_natCast, ev_22, ev_24, ev_o, ev_ne, ev_u22, ev_u24]
            refine x_iconst 209 rfl dX11_tells_208 (by decide) ?_
            refine y_iadd 210 rfl dX11_tells_209 (by omega) ?_
            refine x_puti 213 rfl fX11_249 dX11_tells_210 (lyl55 hL) (lys55 hL) (by decide) ?_
            try simp only [ev_22, ev_24, ev_o, ev_ne, ev_u22, ev_u24]
            rw [ev_ad]
            refine x_goto 61 dX11_tells_213 (by decide) ?_
            refine z_wk (ls' := [some (zn 55), some (zi hdc), some (zi lo), some (zi wo), some (zl (_)), none, none, none, none, none, none]) ⟨rfl, rfl, rfl, rfl, rfl, trivial⟩ (ih (g_ad s2) (Lp ++ [x]) b1 hB2 h2)
          · subst h2
            refine x_aload_n 204 rfl dX11_tells_203 0 rfl rfl ?_
            refine x_dupr 205 rfl dX11_tells_204 ?_
            refine x_geti 208 rfl fX11_249 dX11_tells_205 (lyl55 hL) (lys55 hL) (by decide) ?_
            try simp (disch := omega) only [z_up_ne, z_up_nk, z_up_eq, z_mup_ne, z_mup_eq, Int.reduceToNat, Int.toNat_natCast, ev_22, ev_24, ev_o, ev_ne, ev_u22, ev_u24]
            refine x_iconst 209 rfl dX11_tells_208 (by decide) ?_
            refine y_iadd 210 rfl dX11_tells_209 (by omega) ?_
            refine x_puti 213 rfl fX11_249 dX11_tells_210 (lyl55 hL) (lys55 hL) (by decide) ?_
            try simp only [ev_22, ev_24, ev_o, ev_ne, ev_u22, ev_u24]
            rw [ev_ad]
            refine x_goto 61 dX11_tells_213 (by decide) ?_
            refine x_aload_n 62 rfl dX11_tells_61 0 rfl rfl ?_
            refine x_geti 65 rfl fX11_249 dX11_tells_62 (lyl55 hL) (lys55 hL) (by decide) ?_
            try simp (disch := omega) only [z_up_ne, z_up_nk, z_up_eq, z_mup_ne, z_mup_eq, Int.reduceToNat, Int.toNat_natCast, ev_22, ev_24, ev_o, ev_ne, ev_u22, ev_u24]
            refine x_aload_n 66 rfl dX11_tells_65 0 rfl rfl ?_
            refine x_geti 69 rfl fX11_246 dX11_tells_66 (lyl55 hL) (lys55 hL) (by decide) ?_
            try simp (disch := omega) only [z_up_ne, z_up_nk, z_up_eq, z_mup_ne, z_mup_eq, Int.reduceToNat, Int.toNat_natCast, ev_22, ev_24, ev_o, ev_ne, ev_u22, ev_u24]
            refine x_icmp_ge 72 216 rfl dX11_tells_69 (by decide) (fun c69 => ?_) (fun c69 => ?_)
            · refine x_lload 218 rfl dX11_tells_216 rfl ?_
              refine x_l2i 219 rfl dX11_tells_218 ?_
              refine x_reti dX11_tells_219 rfl ?_
              refine ⟨?_, _, _, rfl⟩
              rw [w32_id (by unfold z_i32; unfold tellF clamp; split <;> (try split) <;> (try split) <;> omega)]
            · exfalso; omega
        rw [lastF_app] at hy
        unfold stF at hy
        refine x_iload 150 rfl dX11_tells_148 rfl ?_
        refine x_iload_n 151 rfl dX11_tells_150 1 rfl rfl ?_
        refine x_icmp_ne 154 203 rfl dX11_tells_151 (by decide) (fun c151 => ?_) (fun c151 => ?_)
        · exact nx _ _ (by rw [← hy, if_neg (by rw [hx]; intro hh2; have := hh2.1; simp only at this; omega)])
        · refine x_iload 156 rfl dX11_tells_154 rfl ?_
          refine x_if_eq 159 203 rfl dX11_tells_156 (by decide) (fun c156 => ?_) (fun c156 => ?_)
          · exact nx _ _ (by rw [← hy, if_neg (by rw [hx]; intro hh2; have := hok.mpr hh2.2; omega)])
          · refine x_aload_n 160 rfl dX11_tells_159 0 rfl rfl ?_
            refine x_getz 163 rfl fX11_259 dX11_tells_160 (lyl55 hL) (lys55 hL) (by decide) ?_
            try simp (disch := omega) only [z_up_ne, z_up_nk, z_up_eq, z_mup_ne, z_mup_eq, Int.reduceToNat, Int.toNat_natCast, ev_22, ev_24, ev_o, ev_ne, ev_u22, ev_u24]
            refine x_if_ne 166 203 rfl dX11_tells_163 (by decide) (fun c163 => ?_) (fun c163 => ?_)
            · exact nx _ _ (by rw [← hy, if_neg (by rw [hx]; intro hh2; have := hok.mpr hh2.2; omega)])
            · have hst : x.1.1 = 12 + hdc ∧ x.2.2.2 (mE M false) = some 1 := by rw [hx]; exact ⟨by show 12 + is = 12 + hdc; omega, hok.mp (by omega)⟩
              rw [if_pos hst] at hy
              refine x_iload 168 rfl dX11_tells_166 rfl ?_
              refine x_if_ne 171 203 rfl dX11_tells_168 (by decide) (fun c168 => ?_) (fun c168 => ?_)
              · exact nx _ _ (by rw [← hy]; rcases hsb with h | h; (exfalso; omega); (rw [hx]; simp only [h.2]))
              · have hwx : w (mE M false) = some xs := by rcases hsb with h | h; exact h.2; (exfalso; omega)
                have hxe : x.2.1 (mE M false) = some xs := by rw [hx]; exact hwx
                rw [hxe] at hy
                have hy : clamp lo xs = y := hy
                unfold clamp at hy
                refine x_lload 173 rfl dX11_tells_171 rfl ?_
                refine x_iload_n 174 rfl dX11_tells_173 2 rfl rfl ?_
                refine x_i2l 175 rfl dX11_tells_174 ?_
                refine x_lcmp 176 rfl dX11_tells_175 ?_
                refine x_if_ge 179 184 rfl dX11_tells_176 (by decide) (fun c176 => ?_) (fun c176 => ?_)
                · rw [zcmp_ge] at c176
                  rw [if_neg (by omega)] at hy
                  refine x_lload 186 rfl dX11_tells_184 rfl ?_
                  refine x_ldc2 (x := 99) 189 rfl klX11_306 (by decide) dX11_tells_186 ?_
                  refine x_lcmp 190 rfl dX11_tells_189 ?_
                  refine x_if_le 193 199 rfl dX11_tells_190 (by decide) (fun c190 => ?_) (fun c190 => ?_)
                  · rw [zcmp_le] at c190
                    rw [if_neg (by omega)] at hy
                    refine x_lload 201 rfl dX11_tells_199 rfl ?_
                    refine y_lstore 203 rfl dX11_tells_201 rfl (ls' := [_, _, _, _, _, _, _, _, _, _, _]) rfl (by decide) ?_
                    exact nx _ _ hy
                  · rw [zcmp_le] at c190
                    rw [if_pos (by omega)] at hy
                    refine x_ldc2 (x := 99) 196 rfl klX11_306 (by decide) dX11_tells_193 ?_
                    refine x_goto 201 dX11_tells_196 (by decide) ?_
                    refine y_lstore 203 rfl dX11_tells_201 rfl (ls' := [_, _, _, _, _, _, _, _, _, _, _]) rfl (by decide) ?_
                    exact nx _ _ hy
                · rw [zcmp_ge] at c176
                  rw [if_pos (by omega)] at hy
                  refine x_iload_n 180 rfl dX11_tells_179 2 rfl rfl ?_
                  refine x_i2l 181 rfl dX11_tells_180 ?_
                  refine x_goto 201 dX11_tells_181 (by decide) ?_
                  refine y_lstore 203 rfl dX11_tells_201 rfl (ls' := [_, _, _, _, _, _, _, _, _, _, _]) rfl (by decide) ?_
                  exact nx _ _ hy
      have mid : ∀ (is xs sb : Int) (s3 : gS) (w : gV) (q1 : Int), gA n s3 → ((sb = 0 ∧ w (mE M false) = some xs) ∨ (sb = 1 ∧ w (mE M false) = none)) → g_tail c v false s3 (fun q wt => ((12 + is, q1, -1, q, 1), w, v_k 0, wt)) = .inr (s2, x) → zW mX11_tells (d + 42) 0 0 [] (zI sz S (fun r M' => r = tellF lo wo (lastF (12 + hdc) (mE M false) L) ∧ ∃ g b, M' = ev M g b)) 125 [some (zn 55), some (zi hdc), some (zi lo), some (zi wo), some (zl (tellF lo wo (lastF (12 + hdc) (mE M false) Lp))), none, some (zi is), some (zl xs), none, some (zi sb), none] [] sz S (ev M ((B + s3.1 : Nat) : Int) 0) := by
        intro is xs sb s3 w q1 hA3 hsb h5
        have hA31 := hA3.1
        refine x_aload_n 126 rfl dX11_tells_125 0 rfl rfl ?_
        refine x_iconst 127 rfl dX11_tells_126 (by decide) ?_
        refine x_cVi 130 rfl lX11_273 dX11_tells_127 (lyl55 hL) (lys55 hL) (c_X11_passes0 hL hM hT hA31) rfl rfl (Nat.le_of_ble_eq_true rfl) (fun r M1 hr1 => ?_)
        rcases hr1 with ⟨hx, rfl, hM1⟩ | ⟨hx, rfl, hM1⟩
        · rw [hM1]
          obtain ⟨s4, wt, h6, h7, h8⟩ : ∃ s4 wt, g_testD c v false 8 (g_ad s3) = .inr (s4, wt) ∧ s2.1 = s4.1 ∧ x = ((12 + is, q1, -1, (s3.2.2.1 : Int), 1), w, v_k 0, wt) := by
            rcases g_tail_inv h5 with ⟨-, a⟩ | ⟨a, -⟩
            · exact a
            · exact absurd hx a
          have hA4 := gW_A hA3 (gW_ad hA3 (hT.lt hA31 (show c s3.1 ≠ 0 by omega)))
          refine z_mem (M' := ev M ((B + (g_ad s3).1 : Nat) : Int) _) rfl ?_
          refine x_if_eq 133 141 rfl dX11_tells_130 (by decide) (fun c130 => ?_) (fun c130 => ?_)
          · exfalso; omega
          · refine x_aload_n 134 rfl dX11_tells_133 0 rfl rfl ?_
            refine x_iconst 135 rfl dX11_tells_134 (by decide) ?_
            refine x_cVi 138 rfl lX11_300 dX11_tells_135 (lyl55 hL) (lys55 hL) (c_X11_testOf8 hL hM hT hO1 hi hE (Or.inr rfl) (Or.inl rfl) hA4 h6) rfl rfl (Nat.le_of_ble_eq_true rfl) (fun r M2 hr2 => ?_)
            rcases hr2 with ⟨e1, e2, x2, e3, rfl, e5, hM2⟩ | ⟨e1, e2, e3, e4, hM2⟩ | ⟨e1, e4, hM2⟩
            · rw [hM2, ← h7]
              refine x_if_eq 141 145 rfl dX11_tells_138 (by decide) (fun c138 => ?_) (fun c138 => ?_)
              · refine x_iconst 146 rfl dX11_tells_145 (by decide) ?_
                refine y_istore 148 rfl dX11_tells_146 rfl (ls' := [_, _, _, _, _, _, _, _, _, _, _]) rfl (by decide) ?_
                exact fin is xs sb _ 0 w wt q1 _ h8 hsb (by rw [e3]; first | (constructor <;> intro h9 <;> first | (simp only [Option.some.injEq]; omega) | (simp only [Option.some.injEq] at h9; omega)) ) (by first | exact Or.inl rfl | exact Or.inr rfl) (Or.inl rfl)
              · refine x_iconst 142 rfl dX11_tells_141 (by decide) ?_
                refine x_goto 146 dX11_tells_142 (by decide) ?_
                refine y_istore 148 rfl dX11_tells_146 rfl (ls' := [_, _, _, _, _, _, _, _, _, _, _]) rfl (by decide) ?_
                exact fin is xs sb _ 0 w wt q1 _ h8 hsb (by rw [e3]; first | (constructor <;> intro h9 <;> first | (simp only [Option.some.injEq]; omega) | (simp only [Option.some.injEq] at h9; omega)) ) (by first | exact Or.inl rfl | exact Or.inr rfl) (Or.inl rfl)
            · rw [hM2, ← h7]
              refine x_if_eq 141 145 rfl dX11_tells_138 (by decide) (fun c138 => ?_) (fun c138 => ?_)
              · refine x_iconst 146 rfl dX11_tells_145 (by decide) ?_
                refine y_istore 148 rfl dX11_tells_146 rfl (ls' := [_, _, _, _, _, _, _, _, _, _, _]) rfl (by decide) ?_
                exact fin is xs sb _ 1 w wt q1 _ h8 hsb (by rw [e3]; constructor <;> intro h9; (exfalso; omega); (cases h9)) (by first | exact Or.inl rfl | exact Or.inr rfl) (Or.inr rfl)
              · refine x_iconst 142 rfl dX11_tells_141 (by decide) ?_
                refine x_goto 146 dX11_tells_142 (by decide) ?_
                refine y_istore 148 rfl dX11_tells_146 rfl (ls' := [_, _, _, _, _, _, _, _, _, _, _]) rfl (by decide) ?_
                exact fin is xs sb _ 1 w wt q1 _ h8 hsb (by rw [e3]; constructor <;> intro h9; (exfalso; omega); (cases h9)) (by first | exact Or.inl rfl | exact Or.inr rfl) (Or.inr rfl)
            · exfalso; omega
        · rw [hM1]
          obtain ⟨h7, h8⟩ : s2 = s3 ∧ x = ((12 + is, q1, -1, -1, 1), w, v_k 0, v_k 1) := by
            rcases g_tail_inv h5 with ⟨a, -⟩ | ⟨-, a⟩
            · exact absurd a hx
            · exact a
          rw [← h7]
          refine x_if_eq 133 141 rfl dX11_tells_130 (by decide) (fun c130 => ?_) (fun c130 => ?_)
          · refine x_iconst 142 rfl dX11_tells_141 (by decide) ?_
            refine x_goto 146 dX11_tells_142 (by decide) ?_
            refine y_istore 148 rfl dX11_tells_146 rfl (ls' := [_, _, _, _, _, _, _, _, _, _, _]) rfl (by decide) ?_
            exact fin is xs sb 1 0 w (v_k 1) q1 _ h8 hsb (by simp [v_k]) (Or.inr rfl) (Or.inl rfl)
          · exfalso; omega
      refine x_aload_n 62 rfl dX11_tells_61 0 rfl rfl ?_
      refine x_geti 65 rfl fX11_249 dX11_tells_62 (lyl55 hL) (lys55 hL) (by decide) ?_
      try simp (disch := omega) only [z_up_ne, z_up_nk, z_up_eq, z_mup_ne, z_mup_eq, Int.reduceToNat, Int.toNat_natCast, ev_22, ev_24, ev_o, ev_ne, ev_u22, ev_u24]
      refine x_aload_n 66 rfl dX11_tells_65 0 rfl rfl ?_
      refine x_geti 69 rfl fX11_246 dX11_tells_66 (lyl55 hL) (lys55 hL) (by decide) ?_
      try simp (disch := omega) only [z_up_ne, z_up_nk, z_up_eq, z_mup_ne, z_mup_eq, Int.reduceToNat, Int.toNat_natCast, ev_22, ev_24, ev_o, ev_ne, ev_u22, ev_u24]
      refine x_icmp_ge 72 216 rfl dX11_tells_69 (by decide) (fun c69 => ?_) (fun c69 => ?_)
      · exfalso; omega
      · refine x_aload_n 73 rfl dX11_tells_72 0 rfl rfl ?_
        refine x_aload_n 74 rfl dX11_tells_73 0 rfl rfl ?_
        refine x_geti 77 rfl fX11_249 dX11_tells_74 (lyl55 hL) (lys55 hL) (by decide) ?_
        try simp (disch := omega) only [z_up_ne, z_up_nk, z_up_eq, z_mup_ne, z_mup_eq, Int.reduceToNat, Int.toNat_natCast, ev_22, ev_24, ev_o, ev_ne, ev_u22, ev_u24]
        refine x_cVi 80 rfl lX11_252 dX11_tells_77 (lyl55 hL) (lys55 hL) (c_X11_codeAt hL hM hT hA1) rfl rfl (Nat.le_of_ble_eq_true rfl) (fun r M1 hr1 => ?_)
        obtain ⟨rfl, hM1⟩ := hr1
        rw [hM1]
        refine y_istore 82 rfl dX11_tells_80 rfl (ls' := [_, _, _, _, _, _, _, _, _, _, _]) rfl (by decide) ?_
        refine x_aload_n 83 rfl dX11_tells_82 0 rfl rfl ?_
        refine x_iconst 84 rfl dX11_tells_83 (by decide) ?_
        refine x_putz 87 rfl fX11_259 dX11_tells_84 (lyl55 hL) (lys55 hL) (by decide) (by decide) ?_
        try simp only [ev_22, ev_24, ev_o, ev_ne, ev_u22, ev_u24]
        refine x_aload_n 88 rfl dX11_tells_87 0 rfl rfl ?_
        refine x_dupr 89 rfl dX11_tells_88 ?_
        refine x_geti 92 rfl fX11_249 dX11_tells_89 (lyl55 hL) (lys55 hL) (by decide) ?_
        try simp (disch := omega) only [z_up_ne, z_up_nk, z_up_eq, z_mup_ne, z_mup_eq, Int.reduceToNat, Int.toNat_natCast, ev_22, ev_24, ev_o, ev_ne, ev_u22, ev_u24]
        refine x_iconst 93 rfl dX11_tells_92 (by decide) ?_
        refine y_iadd 94 rfl dX11_tells_93 (by omega) ?_
        refine x_puti 97 rfl fX11_249 dX11_tells_94 (lyl55 hL) (lys55 hL) (by decide) ?_
        try simp only [ev_22, ev_24, ev_o, ev_ne, ev_u22, ev_u24]
        rw [ev_ad]
        refine x_iload 99 rfl dX11_tells_97 rfl ?_
        refine x_iconst 100 rfl dX11_tells_99 (by decide) ?_
        refine x_icmp_ne 103 107 rfl dX11_tells_100 (by decide) (fun c100 => ?_) (fun c100 => ?_)
        · rcases (g_law_inv hcl).symm with ⟨h4, -⟩ | ⟨h4, s4, w4, h6, h5⟩
          · exfalso; omega
          have hA3 := gW_A hA (gW_ad hA (hT.lt hA1 (show c s1.1 ≠ 0 by omega)))
          have hA5 := gW_A hA (gW_step hT (gG_sumD hT 8) hA (show c s1.1 ≠ 0 by omega) h6 (x := 0) (by decide))
          rw [kap_12 h4] at h5
          refine z_mem (M' := ev M ((B + (g_ad s1).1 : Nat) : Int) 0) rfl ?_
          refine x_aload_n 108 rfl dX11_tells_107 0 rfl rfl ?_
          refine x_iconst 109 rfl dX11_tells_108 (by decide) ?_
          refine x_cVj 112 rfl lX11_276 dX11_tells_109 (lyl55 hL) (lys55 hL) (c_X11_sumOf8 hL hM hT hO1 hi hE (Or.inr rfl) (Or.inl rfl) hA3 h6) rfl rfl (Nat.le_of_ble_eq_true rfl) (fun r M2 hr2 => ?_)
          rcases hr2 with ⟨e1, e2, x2, e3, rfl, e5, hM2⟩ | ⟨e1, e2, e3, rfl, hM2⟩ | ⟨e1, rfl, hM2⟩
          · rw [hM2]
            refine z_mem (M' := ev M ((B + (g_em s4 0).1 : Nat) : Int) 0) rfl ?_
            refine y_lstore 114 rfl dX11_tells_112 rfl (ls' := [_, _, _, _, _, _, _, _, _, _, _]) rfl (by decide) ?_
            refine x_aload_n 115 rfl dX11_tells_114 0 rfl rfl ?_
            refine x_getz 118 rfl fX11_259 dX11_tells_115 (lyl55 hL) (lys55 hL) (by decide) ?_
            try simp (disch := omega) only [z_up_ne, z_up_nk, z_up_eq, z_mup_ne, z_mup_eq, Int.reduceToNat, Int.toNat_natCast, ev_22, ev_24, ev_o, ev_ne, ev_u22, ev_u24]
            refine y_istore 120 rfl dX11_tells_118 rfl (ls' := [_, _, _, _, _, _, _, _, _, _, _]) rfl (by decide) ?_
            refine x_aload_n 121 rfl dX11_tells_120 0 rfl rfl ?_
            refine x_iconst 122 rfl dX11_tells_121 (by decide) ?_
            refine x_putz 125 rfl fX11_259 dX11_tells_122 (lyl55 hL) (lys55 hL) (by decide) (by decide) ?_
            try simp only [ev_22, ev_24, ev_o, ev_ne, ev_u22, ev_u24]
            exact mid _ _ 0 (g_em s4 0) w4 _ hA5 (Or.inl ⟨rfl, e3⟩) h5
          · rw [hM2]
            refine z_mem (M' := ev M ((B + (g_em s4 0).1 : Nat) : Int) 1) rfl ?_
            refine y_lstore 114 rfl dX11_tells_112 rfl (ls' := [_, _, _, _, _, _, _, _, _, _, _]) rfl (by decide) ?_
            refine x_aload_n 115 rfl dX11_tells_114 0 rfl rfl ?_
            refine x_getz 118 rfl fX11_259 dX11_tells_115 (lyl55 hL) (lys55 hL) (by decide) ?_
            try simp (disch := omega) only [z_up_ne, z_up_nk, z_up_eq, z_mup_ne, z_mup_eq, Int.reduceToNat, Int.toNat_natCast, ev_22, ev_24, ev_o, ev_ne, ev_u22, ev_u24]
            refine y_istore 120 rfl dX11_tells_118 rfl (ls' := [_, _, _, _, _, _, _, _, _, _, _]) rfl (by decide) ?_
            refine x_aload_n 121 rfl dX11_tells_120 0 rfl rfl ?_
            refine x_iconst 122 rfl dX11_tells_121 (by decide) ?_
            refine x_putz 125 rfl fX11_259 dX11_tells_122 (lyl55 hL) (lys55 hL) (by decide) (by decide) ?_
            try simp only [ev_22, ev_24, ev_o, ev_ne, ev_u22, ev_u24]
            exact mid _ 0 1 (g_em s4 0) w4 _ hA5 (Or.inr ⟨rfl, e3⟩) h5
          · exfalso; omega
        · rcases g_law_inv hcl with ⟨h4, -⟩ | ⟨h4, h5⟩
          · exfalso; omega
          have hA3 := gW_A hA (gW_ad hA (hT.lt hA1 (show c s1.1 ≠ 0 by omega)))
          refine x_lconst (x := 1) 104 rfl dX11_tells_103 rfl ?_
          refine x_goto 112 dX11_tells_104 (by decide) ?_
          refine y_lstore 114 rfl dX11_tells_112 rfl (ls' := [_, _, _, _, _, _, _, _, _, _, _]) rfl (by decide) ?_
          refine x_aload_n 115 rfl dX11_tells_114 0 rfl rfl ?_
          refine x_getz 118 rfl fX11_259 dX11_tells_115 (lyl55 hL) (lys55 hL) (by decide) ?_
          try simp (disch := omega) only [z_up_ne, z_up_nk, z_up_eq, z_mup_ne, z_mup_eq, Int.reduceToNat, Int.toNat_natCast, ev_22, ev_24, ev_o, ev_ne, ev_u22, ev_u24]
          refine y_istore 120 rfl dX11_tells_118 rfl (ls' := [_, _, _, _, _, _, _, _, _, _, _]) rfl (by decide) ?_
          refine x_aload_n 121 rfl dX11_tells_120 0 rfl rfl ?_
          refine x_iconst 122 rfl dX11_tells_121 (by decide) ?_
          refine x_putz 125 rfl fX11_259 dX11_tells_122 (lyl55 hL) (lys55 hL) (by decide) (by decide) ?_
          try simp only [ev_22, ev_24, ev_o, ev_ne, ev_u22, ev_u24]
          refine z_mem (M' := ev M ((B + (g_ad s1).1 : Nat) : Int) 0) rfl ?_
          exact mid _ 1 0 (g_ad s1) (v_k 1) (-1) hA3 (Or.inl ⟨rfl, rfl⟩) (by rw [c100]; exact h5)
  exact loop 12 (gz cd0) [] _ gz_A hq0
