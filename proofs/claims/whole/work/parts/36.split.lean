def sp (M : zMem) (n : Int) (cf vf pf : Nat → Int) : zMem := z_up (z_mup (z_mup (z_mup M 64 cf) 65 vf) 66 pf) 55 18 n
section SP
variable {M : zMem} {n x : Int} {cf vf pf : Nat → Int}
theorem sp_18 : sp M n cf vf pf 55 18 = n := by simp [sp, z_up]
theorem sp_o {j : Nat} (h : j ≠ 18) : sp M n cf vf pf 55 j = M 55 j := by simp [sp, z_up, z_mup, h]
theorem sp_64 : sp M n cf vf pf 64 = cf := by funext j; simp [sp, z_up, z_mup]
theorem sp_65 : sp M n cf vf pf 65 = vf := by funext j; simp [sp, z_up, z_mup]
theorem sp_66 : sp M n cf vf pf 66 = pf := by funext j; simp [sp, z_up, z_mup]
theorem sp_ne {i : Nat} (h1 : i ≠ 55) (h2 : i ≠ 64) (h3 : i ≠ 65) (h4 : i ≠ 66) : sp M n cf vf pf i = M i := by funext j; simp [sp, z_up, z_mup, h1, h2, h3, h4]
theorem sp_w18 : z_up (sp M n cf vf pf) 55 18 x = sp M x cf vf pf := by
  funext i j; by_cases h1 : i = 55 <;> by_cases h2 : j = 18 <;> simp [sp, z_up, h1, h2]
theorem sp_w64 {k : Nat} : z_up (sp M n cf vf pf) 64 k x = sp M n (ku cf k x) vf pf := by
  funext i j
  by_cases h1 : i = 64
  · subst h1; by_cases h2 : j = k <;> simp [sp, z_up, z_mup, ku, h2]
  · simp [sp, z_up, z_mup, h1]
theorem sp_w65 {k : Nat} : z_up (sp M n cf vf pf) 65 k x = sp M n cf (ku vf k x) pf := by
  funext i j
  by_cases h1 : i = 65
  · subst h1; by_cases h2 : j = k <;> simp [sp, z_up, z_mup, ku, h2]
  · simp [sp, z_up, z_mup, h1]
theorem sp_w66 {k : Nat} : z_up (sp M n cf vf pf) 66 k x = sp M n cf vf (ku pf k x) := by
  funext i j
  by_cases h1 : i = 66
  · subst h1; by_cases h2 : j = k <;> simp [sp, z_up, z_mup, ku, h2]
  · simp [sp, z_up, z_mup, h1]
theorem sp_init : z_up M 55 18 x = sp M x (M 64) (M 65) (M 66) := by
  funext i j
  by_cases h1 : i = 64
  · subst h1; simp [sp, z_up, z_mup]
  · by_cases h2 : i = 65
    · subst h2; simp [sp, z_up, z_mup]
    · by_cases h3 : i = 66
      · subst h3; simp [sp, z_up, z_mup]
      · simp [sp, z_up, z_mup, h1, h2, h3]
theorem sp_tb : tb (sp M n cf vf pf) = tb M := by funext i; simp [tb, sp_ne]
theorem sp_tbI (h : tbI M) : tbI (sp M n cf vf pf) := fun i hi => by rw [sp_ne (by decide) (by decide) (by decide) (by decide)]; exact h i hi
theorem sp_wdI (h : wdI M) : wdI (sp M n cf vf pf) := fun i hi => by rw [sp_ne (by decide) (by decide) (by decide) (by decide)]; exact h i hi
end SP

set_option maxRecDepth 100000 in
set_option maxHeartbeats 4000000 in
theorem c_X11_splits {d sz : Nat} {S : zSh} {M : zMem} (hL : LY S sz) {size : Nat} (hs : size ≤ 400) (hW : wdI M) (hB : tbI M) {T : tS} (hT : tkG (mC (tb M)) (mV (tb M)) (tb M) size 401 0 (0, M 64, M 65, M 66) = T) : zX (d + 1) 0 0 mX11_splits [zn 55, zi (size : Int)] sz S M (zU sz S (fun M' => M' = sp M (T.1 : Int) (ku T.2.1 T.1 0) (ku T.2.2.1 T.1 0) (ku T.2.2.2 T.1 (size : Int)))) := by
  have loop : ∀ (f k : Nat) (s : tS), k ≤ size → s.1 ≤ k → size < f + k → tkG (mC (tb M)) (mV (tb M)) (tb M) size f k s = T → zW mX11_splits (d + 1) 0 0 [] (zU sz S (fun M' => M' = sp M (T.1 : Int) (ku T.2.1 T.1 0) (ku T.2.2.1 T.1 0) (ku T.2.2.2 T.1 (size : Int)))) 7 [some (zn 55), some (zi (size : Int)), some (zi (k : Int)), none, none, none] [] sz S (sp M (s.1 : Int) s.2.1 s.2.2.1 s.2.2.2) := by
    intro f
    induction f with
    | zero => intro k s h1 h2 h3; omega
    | succ f ih =>
      intro k s hk hn hf hT9
      simp only [tkG] at hT9
      by_cases hk1 : k < size
      · rw [if_neg (by omega)] at hT9
        have hB1 := hB k (by omega)
        have htb : tb M k = M 62 k % 256 := rfl
        have fin100 : tb M k ≠ 32 → ∀ tt : Nat, tt = tkTo (tb M) size k → zW mX11_splits (d + 1) 0 0 [] (zU sz S (fun M' => M' = sp M (T.1 : Int) (ku T.2.1 T.1 0) (ku T.2.2.1 T.1 0) (ku T.2.2.2 T.1 (size : Int)))) 100 [some (zn 55), some (zi (size : Int)), some (zi (k : Int)), some (zi (M 62 k)), some (zi (tt : Int)), none] [] sz S (sp M (s.1 : Int) s.2.1 s.2.2.1 s.2.2.2) := by
          intro h32 tt htt
          rw [if_neg h32] at hT9
          have hto := tkTo_in (b := tb M) hk1
          rw [← htt] at hto
          have loopV : 48 ≤ tb M k ∧ tb M k ≤ 57 → ∀ (m i : Nat) (y : Int), i + m = tt → k ≤ i → vM (tb M) m i y = vM (tb M) (tt - k) k 0 → (0 ≤ y ∧ y ≤ 20000000) → zW mX11_splits (d + 1) 0 0 [] (zU sz S (fun M' => M' = sp M (T.1 : Int) (ku T.2.1 T.1 0) (ku T.2.2.1 T.1 0) (ku T.2.2.2 T.1 (size : Int)))) 169 [some (zn 55), some (zi (size : Int)), some (zi (k : Int)), some (zi (M 62 k)), some (zi (tt : Int)), some (zi (i : Int))] [] sz S (sp M (s.1 : Int) (ku s.2.1 s.1 50) (ku s.2.2.1 s.1 y) (ku s.2.2.2 s.1 (k : Int))) := by
            intro hdg
            have hr := rnD_in (tb M) size 401 (k + 1) hk1
            have ht2 : tt = rnD (tb M) size 401 (k + 1) := by rw [htt]; unfold tkTo; rw [if_neg (by omega), if_pos hdg]
            have hdig : ∀ i, k ≤ i → i < tt → 48 ≤ tb M i ∧ tb M i ≤ 57 := fun i h4 h5 => by
              by_cases e : i = k
              · subst e; exact hdg
              · exact hr.2.2 i (by omega) (by omega)
            intro m
            induction m with
            | zero =>
              intro i y h4 h5 h6 h7
              have h6 : y = vM (tb M) (tt - k) k 0 := h6
              refine x_iload 171 rfl dX11_splits_169 rfl ?_
              refine x_iload 173 rfl dX11_splits_171 rfl ?_
              refine x_icmp_ge 176 247 rfl dX11_splits_173 (by decide) (fun c173 => ?_) (fun c173 => ?_)
              · refine x_aload_n 248 rfl dX11_splits_247 0 rfl rfl ?_
                refine x_dupr 249 rfl dX11_splits_248 ?_
                refine x_geti 252 rfl fX11_149 dX11_splits_249 (lyl55 hL) (lys55 hL) (by decide) ?_
                try simp (disch := omega) only [z_up_ne, z_up_nk, z_up_eq, z_mup_ne, z_mup_eq, Int.reduceToNat, Int.toNat_natCast, sp_18, sp_o, sp_64, sp_65, sp_66, sp_ne, sp_w18, sp_w64, sp_w65, sp_w66, ku_eq, ku_ku, Int.toNat_natCast]
                refine x_iconst 253 rfl dX11_splits_252 (by decide) ?_
                refine y_iadd 254 rfl dX11_splits_253 (by omega) ?_
                refine x_puti 257 rfl fX11_149 dX11_splits_254 (lyl55 hL) (lys55 hL) (by decide) ?_
                try simp only [sp_18, sp_o, sp_64, sp_65, sp_66, sp_ne, sp_w18, sp_w64, sp_w65, sp_w66, ku_eq, ku_ku, Int.toNat_natCast]
                try rw [show (s.1 : Int) + 1 = ((s.1 + 1 : Nat) : Int) by omega]
                refine x_iload 259 rfl dX11_splits_257 rfl ?_
                refine y_istore_n 260 rfl dX11_splits_259 rfl rfl (ls' := [_, _, _, _, _, _]) rfl (by decide) ?_
                refine x_goto 7 dX11_splits_260 (by decide) ?_
                refine z_wk (ls' := [some (zn 55), some (zi (size : Int)), some (zi (tt : Int)), none, none, none]) ⟨rfl, rfl, rfl, trivial⟩ (z_mem (M' := sp M ((s.1 + 1 : Nat) : Int) (ku s.2.1 s.1 (mC (tb M) k tt)) (ku s.2.2.1 s.1 (mV (tb M) k tt)) (ku s.2.2.2 s.1 (k : Int))) (by rw [show mC (tb M) k tt = 50 by unfold mC; rw [if_neg (by omega), if_pos (by omega)], show mV (tb M) k tt = y by unfold mV; rw [if_pos (by omega), h6]]; (first | done | rfl)) (ih tt (s.1 + 1, ku s.2.1 s.1 (mC (tb M) k tt), ku s.2.2.1 s.1 (mV (tb M) k tt), ku s.2.2.2 s.1 (k : Int)) (by omega) (by show s.1 + 1 ≤ tt; omega) (by omega) (by rw [← htt] at hT9; exact hT9)))
              · exfalso; omega
            | succ m ihm =>
              intro i y h4 h5 h6 h7
              simp only [vM] at h6
              have hdi := hdig i h5 (by omega)
              have hBi := hB i (by omega)
              have htbi : tb M i = M 62 i % 256 := rfl
              refine x_iload 171 rfl dX11_splits_169 rfl ?_
              refine x_iload 173 rfl dX11_splits_171 rfl ?_
              refine x_icmp_ge 176 247 rfl dX11_splits_173 (by decide) (fun c173 => ?_) (fun c173 => ?_)
              · exfalso; omega
              · refine x_iload_n 177 rfl dX11_splits_176 3 rfl rfl ?_
                refine x_cSi 180 rfl lX11_155 dX11_splits_177 c_X11_isDigit rfl rfl (Nat.le_of_ble_eq_true rfl) (fun r M1 hr1 => ?_)
                obtain ⟨rfl, hM1⟩ := hr1
                rw [hM1]
                refine x_if_eq 183 247 rfl dX11_splits_180 (by decide) (fun c180 => ?_) (fun c180 => ?_)
                · exfalso; rw [if_pos (by omega)] at c180; omega
                · refine x_aload_n 184 rfl dX11_splits_183 0 rfl rfl ?_
                  refine x_getr 187 rfl fX11_53 dX11_splits_184 (lyl55 hL) (lys55 hL) (by decide) (65) rfl ?_
                  refine x_aload_n 188 rfl dX11_splits_187 0 rfl rfl ?_
                  refine x_geti 191 rfl fX11_149 dX11_splits_188 (lyl55 hL) (lys55 hL) (by decide) ?_
                  try simp (disch := omega) only [z_up_ne, z_up_nk, z_up_eq, z_mup_ne, z_mup_eq, Int.reduceToNat, Int.toNat_natCast, sp_18, sp_o, sp_64, sp_65, sp_66, sp_ne, sp_w18, sp_w64, sp_w65, sp_w66, ku_eq, ku_ku, Int.toNat_natCast]
                  refine x_aload_n 192 rfl dX11_splits_191 0 rfl rfl ?_
                  refine x_getr 195 rfl fX11_53 dX11_splits_192 (lyl55 hL) (lys55 hL) (by decide) (65) rfl ?_
                  refine x_aload_n 196 rfl dX11_splits_195 0 rfl rfl ?_
                  refine x_geti 199 rfl fX11_149 dX11_splits_196 (lyl55 hL) (lys55 hL) (by decide) ?_
                  try simp (disch := omega) only [z_up_ne, z_up_nk, z_up_eq, z_mup_ne, z_mup_eq, Int.reduceToNat, Int.toNat_natCast, sp_18, sp_o, sp_64, sp_65, sp_66, sp_ne, sp_w18, sp_w64, sp_w65, sp_w66, ku_eq, ku_ku, Int.toNat_natCast]
                  refine x_iald 200 rfl dX11_splits_199 (lyl65 hL) (lys65 hL) (by omega) (by omega) ?_
                  try simp (disch := omega) only [z_up_ne, z_up_nk, z_up_eq, z_mup_ne, z_mup_eq, Int.reduceToNat, Int.toNat_natCast, sp_18, sp_o, sp_64, sp_65, sp_66, sp_ne, sp_w18, sp_w64, sp_w65, sp_w66, ku_eq, ku_ku, Int.toNat_natCast]
                  refine x_ldc (x := 1000000) 202 rfl kX11_161 (by decide) dX11_splits_200 ?_
                  refine x_icmp_le 205 217 rfl dX11_splits_202 (by decide) (fun c202 => ?_) (fun c202 => ?_)
                  · rw [if_neg (by omega)] at h6
                    refine x_bipush 219 rfl dX11_splits_217 (by decide) ?_
                    refine x_aload_n 220 rfl dX11_splits_219 0 rfl rfl ?_
                    refine x_getr 223 rfl fX11_53 dX11_splits_220 (lyl55 hL) (lys55 hL) (by decide) (65) rfl ?_
                    refine x_aload_n 224 rfl dX11_splits_223 0 rfl rfl ?_
                    refine x_geti 227 rfl fX11_149 dX11_splits_224 (lyl55 hL) (lys55 hL) (by decide) ?_
                    try simp (disch := omega) only [z_up_ne, z_up_nk, z_up_eq, z_mup_ne, z_mup_eq, Int.reduceToNat, Int.toNat_natCast, sp_18, sp_o, sp_64, sp_65, sp_66, sp_ne, sp_w18, sp_w64, sp_w65, sp_w66, ku_eq, ku_ku, Int.toNat_natCast]
                    refine x_iald 228 rfl dX11_splits_227 (lyl65 hL) (lys65 hL) (by omega) (by omega) ?_
                    try simp (disch := omega) only [z_up_ne, z_up_nk, z_up_eq, z_mup_ne, z_mup_eq, Int.reduceToNat, Int.toNat_natCast, sp_18, sp_o, sp_64, sp_65, sp_66, sp_ne, sp_w18, sp_w64, sp_w65, sp_w66, ku_eq, ku_ku, Int.toNat_natCast]
                    refine y_imul 229 rfl dX11_splits_228 (by omega) ?_
                    refine x_aload_n 230 rfl dX11_splits_229 0 rfl rfl ?_
                    refine x_getr 233 rfl fX11_41 dX11_splits_230 (lyl55 hL) (lys55 hL) (by decide) (62) rfl ?_
                    refine x_iload 235 rfl dX11_splits_233 rfl ?_
                    refine x_bald 236 rfl dX11_splits_235 (lyl62 hL) (lys62 hL) (by omega) (by omega) ?_
                    try simp (disch := omega) only [z_up_ne, z_up_nk, z_up_eq, z_mup_ne, z_mup_eq, Int.reduceToNat, Int.toNat_natCast, sp_18, sp_o, sp_64, sp_65, sp_66, sp_ne, sp_w18, sp_w64, sp_w65, sp_w66, ku_eq, ku_ku, Int.toNat_natCast]
                    refine y_iadd 237 rfl dX11_splits_236 (by omega) ?_
                    refine x_bipush 239 rfl dX11_splits_237 (by decide) ?_
                    refine y_isub 240 rfl dX11_splits_239 (by omega) ?_
                    refine x_iast 241 rfl dX11_splits_240 (lyl65 hL) (lys65 hL) (by omega) (by omega) ?_
                    try simp only [sp_18, sp_o, sp_64, sp_65, sp_66, sp_ne, sp_w18, sp_w64, sp_w65, sp_w66, ku_eq, ku_ku, Int.toNat_natCast]
                    refine w_iinc 244 rfl dX11_splits_241 rfl (by decide) (by omega) rfl (ls' := [_, _, _, _, _, _]) rfl (by decide) ?_
                    refine x_goto 169 dX11_splits_244 (by decide) ?_
                    refine z_wk (ls' := [some (zn 55), some (zi (size : Int)), some (zi (k : Int)), some (zi (M 62 k)), some (zi (tt : Int)), some (zi ((i + 1 : Nat) : Int))]) ⟨rfl, rfl, rfl, rfl, rfl, z_e (by omega), trivial⟩ (z_mem (M' := sp M (s.1 : Int) (ku s.2.1 s.1 50) (ku s.2.2.1 s.1 (10 * y + tb M i - 48)) (ku s.2.2.2 s.1 (k : Int))) (by rw [show tb M i = M 62 i by omega]) (ihm (i + 1) (10 * y + tb M i - 48) (by omega) (by omega) h6 (by omega)))
                  · rw [if_pos (by omega)] at h6
                    refine x_aload_n 206 rfl dX11_splits_205 0 rfl rfl ?_
                    refine x_getr 209 rfl fX11_53 dX11_splits_206 (lyl55 hL) (lys55 hL) (by decide) (65) rfl ?_
                    refine x_aload_n 210 rfl dX11_splits_209 0 rfl rfl ?_
                    refine x_geti 213 rfl fX11_149 dX11_splits_210 (lyl55 hL) (lys55 hL) (by decide) ?_
                    try simp (disch := omega) only [z_up_ne, z_up_nk, z_up_eq, z_mup_ne, z_mup_eq, Int.reduceToNat, Int.toNat_natCast, sp_18, sp_o, sp_64, sp_65, sp_66, sp_ne, sp_w18, sp_w64, sp_w65, sp_w66, ku_eq, ku_ku, Int.toNat_natCast]
                    refine x_iald 214 rfl dX11_splits_213 (lyl65 hL) (lys65 hL) (by omega) (by omega) ?_
                    try simp (disch := omega) only [z_up_ne, z_up_nk, z_up_eq, z_mup_ne, z_mup_eq, Int.reduceToNat, Int.toNat_natCast, sp_18, sp_o, sp_64, sp_65, sp_66, sp_ne, sp_w18, sp_w64, sp_w65, sp_w66, ku_eq, ku_ku, Int.toNat_natCast]
                    refine x_goto 240 dX11_splits_214 (by decide) ?_
                    refine x_iast 241 rfl dX11_splits_240 (lyl65 hL) (lys65 hL) (by omega) (by omega) ?_
                    try simp only [sp_18, sp_o, sp_64, sp_65, sp_66, sp_ne, sp_w18, sp_w64, sp_w65, sp_w66, ku_eq, ku_ku, Int.toNat_natCast]
                    refine w_iinc 244 rfl dX11_splits_241 rfl (by decide) (by omega) rfl (ls' := [_, _, _, _, _, _]) rfl (by decide) ?_
                    refine x_goto 169 dX11_splits_244 (by decide) ?_
                    refine z_wk (ls' := [some (zn 55), some (zi (size : Int)), some (zi (k : Int)), some (zi (M 62 k)), some (zi (tt : Int)), some (zi ((i + 1 : Nat) : Int))]) ⟨rfl, rfl, rfl, rfl, rfl, z_e (by omega), trivial⟩ (ihm (i + 1) y (by omega) (by omega) h6 (by omega))
          refine x_aload_n 101 rfl dX11_splits_100 0 rfl rfl ?_
          refine x_getr 104 rfl fX11_56 dX11_splits_101 (lyl55 hL) (lys55 hL) (by decide) (66) rfl ?_
          refine x_aload_n 105 rfl dX11_splits_104 0 rfl rfl ?_
          refine x_geti 108 rfl fX11_149 dX11_splits_105 (lyl55 hL) (lys55 hL) (by decide) ?_
          try simp (disch := omega) only [z_up_ne, z_up_nk, z_up_eq, z_mup_ne, z_mup_eq, Int.reduceToNat, Int.toNat_natCast, sp_18, sp_o, sp_64, sp_65, sp_66, sp_ne, sp_w18, sp_w64, sp_w65, sp_w66, ku_eq, ku_ku, Int.toNat_natCast]
          refine x_iload_n 109 rfl dX11_splits_108 2 rfl rfl ?_
          refine x_iast 110 rfl dX11_splits_109 (lyl66 hL) (lys66 hL) (by omega) (by omega) ?_
          try simp only [sp_18, sp_o, sp_64, sp_65, sp_66, sp_ne, sp_w18, sp_w64, sp_w65, sp_w66, ku_eq, ku_ku, Int.toNat_natCast]
          refine x_aload_n 111 rfl dX11_splits_110 0 rfl rfl ?_
          refine x_getr 114 rfl fX11_53 dX11_splits_111 (lyl55 hL) (lys55 hL) (by decide) (65) rfl ?_
          refine x_aload_n 115 rfl dX11_splits_114 0 rfl rfl ?_
          refine x_geti 118 rfl fX11_149 dX11_splits_115 (lyl55 hL) (lys55 hL) (by decide) ?_
          try simp (disch := omega) only [z_up_ne, z_up_nk, z_up_eq, z_mup_ne, z_mup_eq, Int.reduceToNat, Int.toNat_natCast, sp_18, sp_o, sp_64, sp_65, sp_66, sp_ne, sp_w18, sp_w64, sp_w65, sp_w66, ku_eq, ku_ku, Int.toNat_natCast]
          refine x_iconst 119 rfl dX11_splits_118 (by decide) ?_
          refine x_iast 120 rfl dX11_splits_119 (lyl65 hL) (lys65 hL) (by omega) (by omega) ?_
          try simp only [sp_18, sp_o, sp_64, sp_65, sp_66, sp_ne, sp_w18, sp_w64, sp_w65, sp_w66, ku_eq, ku_ku, Int.toNat_natCast]
          refine x_aload_n 121 rfl dX11_splits_120 0 rfl rfl ?_
          refine x_getr 124 rfl fX11_50 dX11_splits_121 (lyl55 hL) (lys55 hL) (by decide) (64) rfl ?_
          refine x_aload_n 125 rfl dX11_splits_124 0 rfl rfl ?_
          refine x_geti 128 rfl fX11_149 dX11_splits_125 (lyl55 hL) (lys55 hL) (by decide) ?_
          try simp (disch := omega) only [z_up_ne, z_up_nk, z_up_eq, z_mup_ne, z_mup_eq, Int.reduceToNat, Int.toNat_natCast, sp_18, sp_o, sp_64, sp_65, sp_66, sp_ne, sp_w18, sp_w64, sp_w65, sp_w66, ku_eq, ku_ku, Int.toNat_natCast]
          refine x_iload_n 129 rfl dX11_splits_128 3 rfl rfl ?_
          refine x_cSi 132 rfl lX11_152 dX11_splits_129 c_X11_isSmall rfl rfl (Nat.le_of_ble_eq_true rfl) (fun r M1 hr1 => ?_)
          obtain ⟨rfl, hM1⟩ := hr1
          rw [hM1]
          refine x_if_eq 135 145 rfl dX11_splits_132 (by decide) (fun c132 => ?_) (fun c132 => ?_)
          · have h8 : ¬ (97 ≤ M 62 k ∧ M 62 k ≤ 122) := by intro hh; rw [if_pos hh] at c132; omega
            refine x_iload_n 146 rfl dX11_splits_145 3 rfl rfl ?_
            refine x_cSi 149 rfl lX11_155 dX11_splits_146 c_X11_isDigit rfl rfl (Nat.le_of_ble_eq_true rfl) (fun r M1 hr1 => ?_)
            obtain ⟨rfl, hM1⟩ := hr1
            rw [hM1]
            refine x_if_eq 152 157 rfl dX11_splits_149 (by decide) (fun c149 => ?_) (fun c149 => ?_)
            · have h9 : ¬ (48 ≤ M 62 k ∧ M 62 k ≤ 57) := by intro hh; rw [if_pos hh] at c149; omega
              refine x_bipush 159 rfl dX11_splits_157 (by decide) ?_
              refine x_iload_n 160 rfl dX11_splits_159 3 rfl rfl ?_
              refine x_sipush 163 rfl dX11_splits_160 (by decide) ?_
              refine x_iand 164 rfl dX11_splits_163 ?_
              rw [zand255 hB1]
              refine y_iadd 165 rfl dX11_splits_164 (by omega) ?_
              refine x_iast 166 rfl dX11_splits_165 (lyl64 hL) (lys64 hL) (by omega) (by omega) ?_
              try simp only [sp_18, sp_o, sp_64, sp_65, sp_66, sp_ne, sp_w18, sp_w64, sp_w65, sp_w66, ku_eq, ku_ku, Int.toNat_natCast]
              refine x_iload_n 167 rfl dX11_splits_166 2 rfl rfl ?_
              refine y_istore 169 rfl dX11_splits_167 rfl (ls' := [_, _, _, _, _, _]) rfl (by decide) ?_
              refine x_iload 171 rfl dX11_splits_169 rfl ?_
              refine x_iload 173 rfl dX11_splits_171 rfl ?_
              refine x_icmp_ge 176 247 rfl dX11_splits_173 (by decide) (fun c173 => ?_) (fun c173 => ?_)
              · exfalso; omega
              · refine x_iload_n 177 rfl dX11_splits_176 3 rfl rfl ?_
                refine x_cSi 180 rfl lX11_155 dX11_splits_177 c_X11_isDigit rfl rfl (Nat.le_of_ble_eq_true rfl) (fun r M1 hr1 => ?_)
                obtain ⟨rfl, hM1⟩ := hr1
                rw [hM1]
                refine x_if_eq 183 247 rfl dX11_splits_180 (by decide) (fun c180 => ?_) (fun c180 => ?_)
                · refine x_aload_n 248 rfl dX11_splits_247 0 rfl rfl ?_
                  refine x_dupr 249 rfl dX11_splits_248 ?_
                  refine x_geti 252 rfl fX11_149 dX11_splits_249 (lyl55 hL) (lys55 hL) (by decide) ?_
                  try simp (disch := omega) only [z_up_ne, z_up_nk, z_up_eq, z_mup_ne, z_mup_eq, Int.reduceToNat, Int.toNat_natCast, sp_18, sp_o, sp_64, sp_65, sp_66, sp_ne, sp_w18, sp_w64, sp_w65, sp_w66, ku_eq, ku_ku, Int.toNat_natCast]
                  refine x_iconst 253 rfl dX11_splits_252 (by decide) ?_
                  refine y_iadd 254 rfl dX11_splits_253 (by omega) ?_
                  refine x_puti 257 rfl fX11_149 dX11_splits_254 (lyl55 hL) (lys55 hL) (by decide) ?_
                  try simp only [sp_18, sp_o, sp_64, sp_65, sp_66, sp_ne, sp_w18, sp_w64, sp_w65, sp_w66, ku_eq, ku_ku, Int.toNat_natCast]
                  try rw [show (s.1 : Int) + 1 = ((s.1 + 1 : Nat) : Int) by omega]
                  refine x_iload 259 rfl dX11_splits_257 rfl ?_
                  refine y_istore_n 260 rfl dX11_splits_259 rfl rfl (ls' := [_, _, _, _, _, _]) rfl (by decide) ?_
                  refine x_goto 7 dX11_splits_260 (by decide) ?_
                  refine z_wk (ls' := [some (zn 55), some (zi (size : Int)), some (zi (tt : Int)), none, none, none]) ⟨rfl, rfl, rfl, trivial⟩ (z_mem (M' := sp M ((s.1 + 1 : Nat) : Int) (ku s.2.1 s.1 (mC (tb M) k tt)) (ku s.2.2.1 s.1 (mV (tb M) k tt)) (ku s.2.2.2 s.1 (k : Int))) (by rw [show mC (tb M) k tt = 100 + M 62 k % 256 by unfold mC; rw [if_neg (by omega), if_neg (by omega)]; rfl, show mV (tb M) k tt = 0 by unfold mV; rw [if_neg (by omega)]]; (first | done | rfl)) (ih tt (s.1 + 1, ku s.2.1 s.1 (mC (tb M) k tt), ku s.2.2.1 s.1 (mV (tb M) k tt), ku s.2.2.2 s.1 (k : Int)) (by omega) (by show s.1 + 1 ≤ tt; omega) (by omega) (by rw [← htt] at hT9; exact hT9)))
                · exfalso; rw [if_neg (by omega)] at c180; omega
            · have h9 : 48 ≤ M 62 k ∧ M 62 k ≤ 57 := by apply Classical.byContradiction; intro hh; rw [if_neg hh] at c149; omega
              refine x_bipush 154 rfl dX11_splits_152 (by decide) ?_
              refine x_goto 165 dX11_splits_154 (by decide) ?_
              refine x_iast 166 rfl dX11_splits_165 (lyl64 hL) (lys64 hL) (by omega) (by omega) ?_
              try simp only [sp_18, sp_o, sp_64, sp_65, sp_66, sp_ne, sp_w18, sp_w64, sp_w65, sp_w66, ku_eq, ku_ku, Int.toNat_natCast]
              refine x_iload_n 167 rfl dX11_splits_166 2 rfl rfl ?_
              refine y_istore 169 rfl dX11_splits_167 rfl (ls' := [_, _, _, _, _, _]) rfl (by decide) ?_
              exact loopV (by omega) (tt - k) k 0 (by omega) (Nat.le_refl _) rfl (by decide)
          · have h8 : 97 ≤ M 62 k ∧ M 62 k ≤ 122 := by apply Classical.byContradiction; intro hh; rw [if_neg hh] at c132; omega
            refine x_aload_n 136 rfl dX11_splits_135 0 rfl rfl ?_
            refine x_iload_n 137 rfl dX11_splits_136 2 rfl rfl ?_
            refine x_iload 139 rfl dX11_splits_137 rfl ?_
            refine x_cVi 142 rfl lX11_158 dX11_splits_139 (lyl55 hL) (lys55 hL) (c_X11_wordOf hL hto.1 (by omega) (sp_wdI hW) (sp_tbI hB)) rfl rfl (Nat.le_of_ble_eq_true rfl) (fun r M1 hr1 => ?_)
            obtain ⟨rfl, hM1⟩ := hr1
            rw [hM1, sp_tb]
            refine x_goto 165 dX11_splits_142 (by decide) ?_
            refine x_iast 166 rfl dX11_splits_165 (lyl64 hL) (lys64 hL) (by omega) (by omega) ?_
            try simp only [sp_18, sp_o, sp_64, sp_65, sp_66, sp_ne, sp_w18, sp_w64, sp_w65, sp_w66, ku_eq, ku_ku, Int.toNat_natCast]
            refine x_iload_n 167 rfl dX11_splits_166 2 rfl rfl ?_
            refine y_istore 169 rfl dX11_splits_167 rfl (ls' := [_, _, _, _, _, _]) rfl (by decide) ?_
            refine x_iload 171 rfl dX11_splits_169 rfl ?_
            refine x_iload 173 rfl dX11_splits_171 rfl ?_
            refine x_icmp_ge 176 247 rfl dX11_splits_173 (by decide) (fun c173 => ?_) (fun c173 => ?_)
            · exfalso; omega
            · refine x_iload_n 177 rfl dX11_splits_176 3 rfl rfl ?_
              refine x_cSi 180 rfl lX11_155 dX11_splits_177 c_X11_isDigit rfl rfl (Nat.le_of_ble_eq_true rfl) (fun r M1 hr1 => ?_)
              obtain ⟨rfl, hM1⟩ := hr1
              rw [hM1]
              refine x_if_eq 183 247 rfl dX11_splits_180 (by decide) (fun c180 => ?_) (fun c180 => ?_)
              · refine x_aload_n 248 rfl dX11_splits_247 0 rfl rfl ?_
                refine x_dupr 249 rfl dX11_splits_248 ?_
                refine x_geti 252 rfl fX11_149 dX11_splits_249 (lyl55 hL) (lys55 hL) (by decide) ?_
                try simp (disch := omega) only [z_up_ne, z_up_nk, z_up_eq, z_mup_ne, z_mup_eq, Int.reduceToNat, Int.toNat_natCast, sp_18, sp_o, sp_64, sp_65, sp_66, sp_ne, sp_w18, sp_w64, sp_w65, sp_w66, ku_eq, ku_ku, Int.toNat_natCast]
                refine x_iconst 253 rfl dX11_splits_252 (by decide) ?_
                refine y_iadd 254 rfl dX11_splits_253 (by omega) ?_
                refine x_puti 257 rfl fX11_149 dX11_splits_254 (lyl55 hL) (lys55 hL) (by decide) ?_
                try simp only [sp_18, sp_o, sp_64, sp_65, sp_66, sp_ne, sp_w18, sp_w64, sp_w65, sp_w66, ku_eq, ku_ku, Int.toNat_natCast]
                try rw [show (s.1 : Int) + 1 = ((s.1 + 1 : Nat) : Int) by omega]
                refine x_iload 259 rfl dX11_splits_257 rfl ?_
                refine y_istore_n 260 rfl dX11_splits_259 rfl rfl (ls' := [_, _, _, _, _, _]) rfl (by decide) ?_
                refine x_goto 7 dX11_splits_260 (by decide) ?_
                refine z_wk (ls' := [some (zn 55), some (zi (size : Int)), some (zi (tt : Int)), none, none, none]) ⟨rfl, rfl, rfl, trivial⟩ (z_mem (M' := sp M ((s.1 + 1 : Nat) : Int) (ku s.2.1 s.1 (mC (tb M) k tt)) (ku s.2.2.1 s.1 (mV (tb M) k tt)) (ku s.2.2.2 s.1 (k : Int))) (by rw [show mC (tb M) k tt = wlN 0 WM 1 (wsg (tb M) k (tt - k)) by unfold mC; rw [if_pos (by omega)], show mV (tb M) k tt = 0 by unfold mV; rw [if_neg (by omega)]]; (first | done | rfl)) (ih tt (s.1 + 1, ku s.2.1 s.1 (mC (tb M) k tt), ku s.2.2.1 s.1 (mV (tb M) k tt), ku s.2.2.2 s.1 (k : Int)) (by omega) (by show s.1 + 1 ≤ tt; omega) (by omega) (by rw [← htt] at hT9; exact hT9)))
              · exfalso; rw [if_neg (by omega)] at c180; omega
        have loopL : 97 ≤ tb M k ∧ tb M k ≤ 122 → ∀ (g to : Nat), to ≤ size → size < g + to → rnL (tb M) size g to = tkTo (tb M) size k → zW mX11_splits (d + 1) 0 0 [] (zU sz S (fun M' => M' = sp M (T.1 : Int) (ku T.2.1 T.1 0) (ku T.2.2.1 T.1 0) (ku T.2.2.2 T.1 (size : Int)))) 43 [some (zn 55), some (zi (size : Int)), some (zi (k : Int)), some (zi (M 62 k)), some (zi (to : Int)), none] [] sz S (sp M (s.1 : Int) s.2.1 s.2.2.1 s.2.2.2) := by
          intro hlt g
          induction g with
          | zero => intro to h4 h5; omega
          | succ g ihg =>
            intro to h4 h5 h6
            simp only [rnL] at h6
            refine x_iload 45 rfl dX11_splits_43 rfl ?_
            refine x_iload_n 46 rfl dX11_splits_45 1 rfl rfl ?_
            refine x_icmp_ge 49 68 rfl dX11_splits_46 (by decide) (fun c46 => ?_) (fun c46 => ?_)
            · rw [if_neg (by omega)] at h6
              refine x_iload_n 69 rfl dX11_splits_68 3 rfl rfl ?_
              refine x_cSi 72 rfl lX11_155 dX11_splits_69 c_X11_isDigit rfl rfl (Nat.le_of_ble_eq_true rfl) (fun r M1 hr1 => ?_)
              obtain ⟨rfl, hM1⟩ := hr1
              rw [hM1]
              refine x_if_eq 75 100 rfl dX11_splits_72 (by decide) (fun c72 => ?_) (fun c72 => ?_)
              · exact fin100 (by omega) to h6
              · exfalso; rw [if_neg (by omega)] at c72; omega
            · have hBt := hB to (by omega)
              have htbt : tb M to = M 62 to % 256 := rfl
              refine x_aload_n 50 rfl dX11_splits_49 0 rfl rfl ?_
              refine x_getr 53 rfl fX11_41 dX11_splits_50 (lyl55 hL) (lys55 hL) (by decide) (62) rfl ?_
              refine x_iload 55 rfl dX11_splits_53 rfl ?_
              refine x_bald 56 rfl dX11_splits_55 (lyl62 hL) (lys62 hL) (by omega) (by omega) ?_
              try simp (disch := omega) only [z_up_ne, z_up_nk, z_up_eq, z_mup_ne, z_mup_eq, Int.reduceToNat, Int.toNat_natCast, sp_18, sp_o, sp_64, sp_65, sp_66, sp_ne, sp_w18, sp_w64, sp_w65, sp_w66, ku_eq, ku_ku, Int.toNat_natCast]
              refine x_cSi 59 rfl lX11_152 dX11_splits_56 c_X11_isSmall rfl rfl (Nat.le_of_ble_eq_true rfl) (fun r M1 hr1 => ?_)
              obtain ⟨rfl, hM1⟩ := hr1
              rw [hM1]
              refine x_if_eq 62 68 rfl dX11_splits_59 (by decide) (fun c59 => ?_) (fun c59 => ?_)
              · have h8 : ¬ (97 ≤ M 62 to ∧ M 62 to ≤ 122) := by intro hh; rw [if_pos hh] at c59; omega
                rw [if_neg (by omega)] at h6
                refine x_iload_n 69 rfl dX11_splits_68 3 rfl rfl ?_
                refine x_cSi 72 rfl lX11_155 dX11_splits_69 c_X11_isDigit rfl rfl (Nat.le_of_ble_eq_true rfl) (fun r M1 hr1 => ?_)
                obtain ⟨rfl, hM1⟩ := hr1
                rw [hM1]
                refine x_if_eq 75 100 rfl dX11_splits_72 (by decide) (fun c72 => ?_) (fun c72 => ?_)
                · exact fin100 (by omega) to h6
                · exfalso; rw [if_neg (by omega)] at c72; omega
              · have h8 : 97 ≤ M 62 to ∧ M 62 to ≤ 122 := by apply Classical.byContradiction; intro hh; rw [if_neg hh] at c59; omega
                rw [if_pos (by omega)] at h6
                refine w_iinc 65 rfl dX11_splits_62 rfl (by decide) (by omega) rfl (ls' := [_, _, _, _, _, _]) rfl (by decide) ?_
                refine x_goto 43 dX11_splits_65 (by decide) ?_
                refine z_wk (ls' := [some (zn 55), some (zi (size : Int)), some (zi (k : Int)), some (zi (M 62 k)), some (zi ((to + 1 : Nat) : Int)), none]) ⟨rfl, rfl, rfl, rfl, z_e (by omega), trivial⟩ (ihg (to + 1) (by omega) (by omega) h6)
        have loopD : 48 ≤ tb M k ∧ tb M k ≤ 57 → ∀ (g to : Nat), to ≤ size → size < g + to → rnD (tb M) size g to = tkTo (tb M) size k → zW mX11_splits (d + 1) 0 0 [] (zU sz S (fun M' => M' = sp M (T.1 : Int) (ku T.2.1 T.1 0) (ku T.2.2.1 T.1 0) (ku T.2.2.2 T.1 (size : Int)))) 75 [some (zn 55), some (zi (size : Int)), some (zi (k : Int)), some (zi (M 62 k)), some (zi (to : Int)), none] [] sz S (sp M (s.1 : Int) s.2.1 s.2.2.1 s.2.2.2) := by
          intro hlt g
          induction g with
          | zero => intro to h4 h5; omega
          | succ g ihg =>
            intro to h4 h5 h6
            simp only [rnD] at h6
            refine x_iload 77 rfl dX11_splits_75 rfl ?_
            refine x_iload_n 78 rfl dX11_splits_77 1 rfl rfl ?_
            refine x_icmp_ge 81 100 rfl dX11_splits_78 (by decide) (fun c78 => ?_) (fun c78 => ?_)
            · rw [if_neg (by omega)] at h6
              exact fin100 (by omega) to h6
            · have hBt := hB to (by omega)
              have htbt : tb M to = M 62 to % 256 := rfl
              refine x_aload_n 82 rfl dX11_splits_81 0 rfl rfl ?_
              refine x_getr 85 rfl fX11_41 dX11_splits_82 (lyl55 hL) (lys55 hL) (by decide) (62) rfl ?_
              refine x_iload 87 rfl dX11_splits_85 rfl ?_
              refine x_bald 88 rfl dX11_splits_87 (lyl62 hL) (lys62 hL) (by omega) (by omega) ?_
              try simp (disch := omega) only [z_up_ne, z_up_nk, z_up_eq, z_mup_ne, z_mup_eq, Int.reduceToNat, Int.toNat_natCast, sp_18, sp_o, sp_64, sp_65, sp_66, sp_ne, sp_w18, sp_w64, sp_w65, sp_w66, ku_eq, ku_ku, Int.toNat_natCast]
              refine x_cSi 91 rfl lX11_155 dX11_splits_88 c_X11_isDigit rfl rfl (Nat.le_of_ble_eq_true rfl) (fun r M1 hr1 => ?_)
              obtain ⟨rfl, hM1⟩ := hr1
              rw [hM1]
              refine x_if_eq 94 100 rfl dX11_splits_91 (by decide) (fun c91 => ?_) (fun c91 => ?_)
              · have h8 : ¬ (48 ≤ M 62 to ∧ M 62 to ≤ 57) := by intro hh; rw [if_pos hh] at c91; omega
                rw [if_neg (by omega)] at h6
                exact fin100 (by omega) to h6
              · have h8 : 48 ≤ M 62 to ∧ M 62 to ≤ 57 := by apply Classical.byContradiction; intro hh; rw [if_neg hh] at c91; omega
                rw [if_pos (by omega)] at h6
                refine w_iinc 97 rfl dX11_splits_94 rfl (by decide) (by omega) rfl (ls' := [_, _, _, _, _, _]) rfl (by decide) ?_
                refine x_goto 75 dX11_splits_97 (by decide) ?_
                refine z_wk (ls' := [some (zn 55), some (zi (size : Int)), some (zi (k : Int)), some (zi (M 62 k)), some (zi ((to + 1 : Nat) : Int)), none]) ⟨rfl, rfl, rfl, rfl, z_e (by omega), trivial⟩ (ihg (to + 1) (by omega) (by omega) h6)
        refine x_iload_n 8 rfl dX11_splits_7 2 rfl rfl ?_
        refine x_iload_n 9 rfl dX11_splits_8 1 rfl rfl ?_
        refine x_icmp_ge 12 263 rfl dX11_splits_9 (by decide) (fun c9 => ?_) (fun c9 => ?_)
        · exfalso; omega
        · refine x_aload_n 13 rfl dX11_splits_12 0 rfl rfl ?_
          refine x_getr 16 rfl fX11_41 dX11_splits_13 (lyl55 hL) (lys55 hL) (by decide) (62) rfl ?_
          refine x_iload_n 17 rfl dX11_splits_16 2 rfl rfl ?_
          refine x_bald 18 rfl dX11_splits_17 (lyl62 hL) (lys62 hL) (by omega) (by omega) ?_
          try simp (disch := omega) only [z_up_ne, z_up_nk, z_up_eq, z_mup_ne, z_mup_eq, Int.reduceToNat, Int.toNat_natCast, sp_18, sp_o, sp_64, sp_65, sp_66, sp_ne, sp_w18, sp_w64, sp_w65, sp_w66, ku_eq, ku_ku, Int.toNat_natCast]
          refine y_istore_n 19 rfl dX11_splits_18 rfl rfl (ls' := [_, _, _, _, _, _]) rfl (by decide) ?_
          refine x_iload_n 20 rfl dX11_splits_19 3 rfl rfl ?_
          refine x_bipush 22 rfl dX11_splits_20 (by decide) ?_
          refine x_icmp_ne 25 31 rfl dX11_splits_22 (by decide) (fun c22 => ?_) (fun c22 => ?_)
          · refine x_iload_n 32 rfl dX11_splits_31 2 rfl rfl ?_
            refine x_iconst 33 rfl dX11_splits_32 (by decide) ?_
            refine y_iadd 34 rfl dX11_splits_33 (by omega) ?_
            refine y_istore 36 rfl dX11_splits_34 rfl (ls' := [_, _, _, _, _, _]) rfl (by decide) ?_
            refine x_iload_n 37 rfl dX11_splits_36 3 rfl rfl ?_
            refine x_cSi 40 rfl lX11_152 dX11_splits_37 c_X11_isSmall rfl rfl (Nat.le_of_ble_eq_true rfl) (fun r M1 hr1 => ?_)
            obtain ⟨rfl, hM1⟩ := hr1
            rw [hM1]
            refine x_if_eq 43 68 rfl dX11_splits_40 (by decide) (fun c40 => ?_) (fun c40 => ?_)
            · have h8 : ¬ (97 ≤ M 62 k ∧ M 62 k ≤ 122) := by intro hh; rw [if_pos hh] at c40; omega
              refine x_iload_n 69 rfl dX11_splits_68 3 rfl rfl ?_
              refine x_cSi 72 rfl lX11_155 dX11_splits_69 c_X11_isDigit rfl rfl (Nat.le_of_ble_eq_true rfl) (fun r M1 hr1 => ?_)
              obtain ⟨rfl, hM1⟩ := hr1
              rw [hM1]
              refine x_if_eq 75 100 rfl dX11_splits_72 (by decide) (fun c72 => ?_) (fun c72 => ?_)
              · have h9 : ¬ (48 ≤ M 62 k ∧ M 62 k ≤ 57) := by intro hh; rw [if_pos hh] at c72; omega
                refine z_wk (ls' := [some (zn 55), some (zi (size : Int)), some (zi (k : Int)), some (zi (M 62 k)), some (zi ((k + 1 : Nat) : Int)), none]) ⟨rfl, rfl, rfl, rfl, z_e (by omega), trivial⟩ (fin100 (by omega) (k + 1) (by unfold tkTo; rw [if_neg (by omega), if_neg (by omega)]))
              · have h9 : 48 ≤ M 62 k ∧ M 62 k ≤ 57 := by apply Classical.byContradiction; intro hh; rw [if_neg hh] at c72; omega
                refine z_wk (ls' := [some (zn 55), some (zi (size : Int)), some (zi (k : Int)), some (zi (M 62 k)), some (zi ((k + 1 : Nat) : Int)), none]) ⟨rfl, rfl, rfl, rfl, z_e (by omega), trivial⟩ (loopD (by omega) 401 (k + 1) (by omega) (by omega) (by unfold tkTo; rw [if_neg (by omega), if_pos (by omega)]))
            · have h8 : 97 ≤ M 62 k ∧ M 62 k ≤ 122 := by apply Classical.byContradiction; intro hh; rw [if_neg hh] at c40; omega
              refine z_wk (ls' := [some (zn 55), some (zi (size : Int)), some (zi (k : Int)), some (zi (M 62 k)), some (zi ((k + 1 : Nat) : Int)), none]) ⟨rfl, rfl, rfl, rfl, z_e (by omega), trivial⟩ (loopL (by omega) 401 (k + 1) (by omega) (by omega) (by unfold tkTo; rw [if_pos (by omega)]))
          · rw [if_pos (by omega)] at hT9
            refine w_iinc 28 rfl dX11_splits_25 rfl (by decide) (by omega) rfl (ls' := [_, _, _, _, _, _]) rfl (by decide) ?_
            refine x_goto 7 dX11_splits_28 (by decide) ?_
            refine z_wk (ls' := [some (zn 55), some (zi (size : Int)), some (zi ((k + 1 : Nat) : Int)), none, none, none]) ⟨rfl, rfl, z_e (by omega), trivial⟩ (ih (k + 1) s (by omega) (by omega) (by omega) hT9)
      · rw [if_pos (by omega)] at hT9
        refine x_iload_n 8 rfl dX11_splits_7 2 rfl rfl ?_
        refine x_iload_n 9 rfl dX11_splits_8 1 rfl rfl ?_
        refine x_icmp_ge 12 263 rfl dX11_splits_9 (by decide) (fun c9 => ?_) (fun c9 => ?_)
        · refine x_aload_n 264 rfl dX11_splits_263 0 rfl rfl ?_
          refine x_getr 267 rfl fX11_56 dX11_splits_264 (lyl55 hL) (lys55 hL) (by decide) (66) rfl ?_
          refine x_aload_n 268 rfl dX11_splits_267 0 rfl rfl ?_
          refine x_geti 271 rfl fX11_149 dX11_splits_268 (lyl55 hL) (lys55 hL) (by decide) ?_
          try simp (disch := omega) only [z_up_ne, z_up_nk, z_up_eq, z_mup_ne, z_mup_eq, Int.reduceToNat, Int.toNat_natCast, sp_18, sp_o, sp_64, sp_65, sp_66, sp_ne, sp_w18, sp_w64, sp_w65, sp_w66, ku_eq, ku_ku, Int.toNat_natCast]
          refine x_iload_n 272 rfl dX11_splits_271 1 rfl rfl ?_
          refine x_iast 273 rfl dX11_splits_272 (lyl66 hL) (lys66 hL) (by omega) (by omega) ?_
          try simp only [sp_18, sp_o, sp_64, sp_65, sp_66, sp_ne, sp_w18, sp_w64, sp_w65, sp_w66, ku_eq, ku_ku, Int.toNat_natCast]
          refine x_aload_n 274 rfl dX11_splits_273 0 rfl rfl ?_
          refine x_getr 277 rfl fX11_50 dX11_splits_274 (lyl55 hL) (lys55 hL) (by decide) (64) rfl ?_
          refine x_aload_n 278 rfl dX11_splits_277 0 rfl rfl ?_
          refine x_geti 281 rfl fX11_149 dX11_splits_278 (lyl55 hL) (lys55 hL) (by decide) ?_
          try simp (disch := omega) only [z_up_ne, z_up_nk, z_up_eq, z_mup_ne, z_mup_eq, Int.reduceToNat, Int.toNat_natCast, sp_18, sp_o, sp_64, sp_65, sp_66, sp_ne, sp_w18, sp_w64, sp_w65, sp_w66, ku_eq, ku_ku, Int.toNat_natCast]
          refine x_iconst 282 rfl dX11_splits_281 (by decide) ?_
          refine x_iast 283 rfl dX11_splits_282 (lyl64 hL) (lys64 hL) (by omega) (by omega) ?_
          try simp only [sp_18, sp_o, sp_64, sp_65, sp_66, sp_ne, sp_w18, sp_w64, sp_w65, sp_w66, ku_eq, ku_ku, Int.toNat_natCast]
          refine x_aload_n 284 rfl dX11_splits_283 0 rfl rfl ?_
          refine x_getr 287 rfl fX11_53 dX11_splits_284 (lyl55 hL) (lys55 hL) (by decide) (65) rfl ?_
          refine x_aload_n 288 rfl dX11_splits_287 0 rfl rfl ?_
          refine x_geti 291 rfl fX11_149 dX11_splits_288 (lyl55 hL) (lys55 hL) (by decide) ?_
          try simp (disch := omega) only [z_up_ne, z_up_nk, z_up_eq, z_mup_ne, z_mup_eq, Int.reduceToNat, Int.toNat_natCast, sp_18, sp_o, sp_64, sp_65, sp_66, sp_ne, sp_w18, sp_w64, sp_w65, sp_w66, ku_eq, ku_ku, Int.toNat_natCast]
          refine x_iconst 292 rfl dX11_splits_291 (by decide) ?_
          refine x_iast 293 rfl dX11_splits_292 (lyl65 hL) (lys65 hL) (by omega) (by omega) ?_
          try simp only [sp_18, sp_o, sp_64, sp_65, sp_66, sp_ne, sp_w18, sp_w64, sp_w65, sp_w66, ku_eq, ku_ku, Int.toNat_natCast]
          refine x_retu dX11_splits_293 rfl ?_
          rw [← hT9]
        · exfalso; omega
  refine zX_of pl_RX11 [some (zn 55), some (zi (size : Int)), none, none, none, none] 4 rfl rfl ?_
  refine x_aload_n 1 rfl dX11_splits_0 0 rfl rfl ?_
  refine x_iconst 2 rfl dX11_splits_1 (by decide) ?_
  refine x_puti 5 rfl fX11_149 dX11_splits_2 (lyl55 hL) (lys55 hL) (by decide) ?_
  try simp only [sp_18, sp_o, sp_64, sp_65, sp_66, sp_ne, sp_w18, sp_w64, sp_w65, sp_w66, ku_eq, ku_ku, Int.toNat_natCast]
  rw [sp_init]
  refine x_iconst 6 rfl dX11_splits_5 (by decide) ?_
  refine y_istore_n 7 rfl dX11_splits_6 rfl rfl (ls' := [_, _, _, _, _, _]) rfl (by decide) ?_
  exact loop 401 0 (0, M 64, M 65, M 66) (by omega) (by show 0 ≤ 0; omega) (by omega) hT
