/-! count -/
def zcount (k : Nat → Int) (u t : Int) (f : Nat → Int) (w : Int) : Int :=
  if w = 0 then k 75 else if w = 1 then zcrew k else if w = 2 then k 76 else if w = 3 then k 77 else if w = 4 then k 78 else if w = 5 then u else if w = 6 then t
  else if w = 7 then f 1 else if w = 8 then f 2 else if w = 9 then f 3 else if w = 10 then f 5 else if w = 11 then f 6 else if w = 12 then k 79 else if w = 13 then k 0
  else if w = 14 then k 1 else if w = 15 then k 2 else if w = 16 then k 73 else if w = 17 then k 74 else if 18 ≤ w ∧ w ≤ 23 then k (51 + (w.toNat - 18)) else -1
theorem zcount_p {k : Nat → Int} {u t : Int} {f : Nat → Int} {w : Int} (h : 18 ≤ w ∧ w ≤ 23) : zcount k u t f w = k (51 + (w.toNat - 18)) := by
  unfold zcount
  repeat rw [if_neg (by omega)]
  rw [if_pos h]
theorem zcount_n {k : Nat → Int} {u t : Int} {f : Nat → Int} {w : Int} (h : w < 0 ∨ 23 < w) : zcount k u t f w = -1 := by
  unfold zcount
  repeat rw [if_neg (by omega)]

set_option maxRecDepth 100000 in
set_option maxHeartbeats 4000000 in
theorem c_X11_count {d sz : Nat} {S : zSh} {M : zMem} (hL : LY S sz) (hi : KI (M 57)) {x : Int} : zX (d + 1) 0 0 mX11_count [zn 55, zi x] sz S M (zI sz S (fun r M' => r = zcount (M 57) (M 55 32) (M 55 13) (M 56) x ∧ M' = M)) := by
  refine zX_of pl_RX11 [some (zn 55), some (zi x)] 0 rfl rfl ?_
  refine x_iload_n 1 rfl dX11_count_0 1 rfl rfl ?_
  refine x_tsC (0) 88 0 dX11_count_1 (by decide) (by decide) (by decide) rfl (by decide) (fun c1 => ?_) (fun c1_0 => ?_)
  · refine x_aload_n 89 rfl dX11_count_88 0 rfl rfl ?_
    refine x_getr 92 rfl fX11_24 dX11_count_89 (lyl55 hL) (lys55 hL) (by decide) (57) rfl ?_
    refine x_bipush 94 rfl dX11_count_92 (by decide) ?_
    refine x_ialk 95 rfl dX11_count_94 (lyl57 hL) (lys57 hL) 75 rfl (by decide) ?_
    refine x_reti dX11_count_95 rfl ?_
    subst c1
    exact ⟨rfl, rfl⟩
  refine x_tsC (1) 96 1 dX11_count_1 (by decide) (by decide) (by decide) rfl (by decide) (fun c1 => ?_) (fun c1_1 => ?_)
  · refine x_aload_n 97 rfl dX11_count_96 0 rfl rfl ?_
    refine x_cVi 100 rfl lX11_108 dX11_count_97 (lyl55 hL) (lys55 hL) (c_X11_crewNow hL hi) rfl rfl (Nat.le_of_ble_eq_true rfl) (fun r M1 hr1 => ?_)
    obtain ⟨hr2, hM1⟩ := hr1
    refine x_reti dX11_count_100 rfl ?_
    subst c1
    exact ⟨hr2, hM1⟩
  refine x_tsC (2) 101 2 dX11_count_1 (by decide) (by decide) (by decide) rfl (by decide) (fun c1 => ?_) (fun c1_2 => ?_)
  · refine x_aload_n 102 rfl dX11_count_101 0 rfl rfl ?_
    refine x_getr 105 rfl fX11_24 dX11_count_102 (lyl55 hL) (lys55 hL) (by decide) (57) rfl ?_
    refine x_bipush 107 rfl dX11_count_105 (by decide) ?_
    refine x_ialk 108 rfl dX11_count_107 (lyl57 hL) (lys57 hL) 76 rfl (by decide) ?_
    refine x_reti dX11_count_108 rfl ?_
    subst c1
    exact ⟨rfl, rfl⟩
  refine x_tsC (3) 109 3 dX11_count_1 (by decide) (by decide) (by decide) rfl (by decide) (fun c1 => ?_) (fun c1_3 => ?_)
  · refine x_aload_n 110 rfl dX11_count_109 0 rfl rfl ?_
    refine x_getr 113 rfl fX11_24 dX11_count_110 (lyl55 hL) (lys55 hL) (by decide) (57) rfl ?_
    refine x_bipush 115 rfl dX11_count_113 (by decide) ?_
    refine x_ialk 116 rfl dX11_count_115 (lyl57 hL) (lys57 hL) 77 rfl (by decide) ?_
    refine x_reti dX11_count_116 rfl ?_
    subst c1
    exact ⟨rfl, rfl⟩
  refine x_tsC (4) 117 4 dX11_count_1 (by decide) (by decide) (by decide) rfl (by decide) (fun c1 => ?_) (fun c1_4 => ?_)
  · refine x_aload_n 118 rfl dX11_count_117 0 rfl rfl ?_
    refine x_getr 121 rfl fX11_24 dX11_count_118 (lyl55 hL) (lys55 hL) (by decide) (57) rfl ?_
    refine x_bipush 123 rfl dX11_count_121 (by decide) ?_
    refine x_ialk 124 rfl dX11_count_123 (lyl57 hL) (lys57 hL) 78 rfl (by decide) ?_
    refine x_reti dX11_count_124 rfl ?_
    subst c1
    exact ⟨rfl, rfl⟩
  refine x_tsC (5) 125 5 dX11_count_1 (by decide) (by decide) (by decide) rfl (by decide) (fun c1 => ?_) (fun c1_5 => ?_)
  · refine x_aload_n 126 rfl dX11_count_125 0 rfl rfl ?_
    refine x_geti 129 rfl fX11_11 dX11_count_126 (lyl55 hL) (lys55 hL) (by decide) ?_
    refine x_reti dX11_count_129 rfl ?_
    subst c1
    exact ⟨rfl, rfl⟩
  refine x_tsC (6) 130 6 dX11_count_1 (by decide) (by decide) (by decide) rfl (by decide) (fun c1 => ?_) (fun c1_6 => ?_)
  · refine x_aload_n 131 rfl dX11_count_130 0 rfl rfl ?_
    refine x_geti 134 rfl fX11_143 dX11_count_131 (lyl55 hL) (lys55 hL) (by decide) ?_
    refine x_reti dX11_count_134 rfl ?_
    subst c1
    exact ⟨rfl, rfl⟩
  refine x_tsC (7) 135 7 dX11_count_1 (by decide) (by decide) (by decide) rfl (by decide) (fun c1 => ?_) (fun c1_7 => ?_)
  · refine x_aload_n 136 rfl dX11_count_135 0 rfl rfl ?_
    refine x_getr 139 rfl fX11_7 dX11_count_136 (lyl55 hL) (lys55 hL) (by decide) (56) rfl ?_
    refine x_iload_n 140 rfl dX11_count_139 1 rfl rfl ?_
    refine x_bipush 142 rfl dX11_count_140 (by decide) ?_
    refine y_isub 143 rfl dX11_count_142 (by omega) ?_
    refine x_iald 144 rfl dX11_count_143 (lyl56 hL) (lys56 hL) (by omega) (by omega) ?_
    refine x_reti dX11_count_144 rfl ?_
    subst c1
    exact ⟨rfl, rfl⟩
  refine x_tsC (8) 135 8 dX11_count_1 (by decide) (by decide) (by decide) rfl (by decide) (fun c1 => ?_) (fun c1_8 => ?_)
  · refine x_aload_n 136 rfl dX11_count_135 0 rfl rfl ?_
    refine x_getr 139 rfl fX11_7 dX11_count_136 (lyl55 hL) (lys55 hL) (by decide) (56) rfl ?_
    refine x_iload_n 140 rfl dX11_count_139 1 rfl rfl ?_
    refine x_bipush 142 rfl dX11_count_140 (by decide) ?_
    refine y_isub 143 rfl dX11_count_142 (by omega) ?_
    refine x_iald 144 rfl dX11_count_143 (lyl56 hL) (lys56 hL) (by omega) (by omega) ?_
    refine x_reti dX11_count_144 rfl ?_
    subst c1
    exact ⟨rfl, rfl⟩
  refine x_tsC (9) 135 9 dX11_count_1 (by decide) (by decide) (by decide) rfl (by decide) (fun c1 => ?_) (fun c1_9 => ?_)
  · refine x_aload_n 136 rfl dX11_count_135 0 rfl rfl ?_
    refine x_getr 139 rfl fX11_7 dX11_count_136 (lyl55 hL) (lys55 hL) (by decide) (56) rfl ?_
    refine x_iload_n 140 rfl dX11_count_139 1 rfl rfl ?_
    refine x_bipush 142 rfl dX11_count_140 (by decide) ?_
    refine y_isub 143 rfl dX11_count_142 (by omega) ?_
    refine x_iald 144 rfl dX11_count_143 (lyl56 hL) (lys56 hL) (by omega) (by omega) ?_
    refine x_reti dX11_count_144 rfl ?_
    subst c1
    exact ⟨rfl, rfl⟩
  refine x_tsC (10) 145 10 dX11_count_1 (by decide) (by decide) (by decide) rfl (by decide) (fun c1 => ?_) (fun c1_10 => ?_)
  · refine x_aload_n 146 rfl dX11_count_145 0 rfl rfl ?_
    refine x_getr 149 rfl fX11_7 dX11_count_146 (lyl55 hL) (lys55 hL) (by decide) (56) rfl ?_
    refine x_iconst 150 rfl dX11_count_149 (by decide) ?_
    refine x_ialk 151 rfl dX11_count_150 (lyl56 hL) (lys56 hL) 5 rfl (by decide) ?_
    refine x_reti dX11_count_151 rfl ?_
    subst c1
    exact ⟨rfl, rfl⟩
  refine x_tsC (11) 152 11 dX11_count_1 (by decide) (by decide) (by decide) rfl (by decide) (fun c1 => ?_) (fun c1_11 => ?_)
  · refine x_aload_n 153 rfl dX11_count_152 0 rfl rfl ?_
    refine x_getr 156 rfl fX11_7 dX11_count_153 (lyl55 hL) (lys55 hL) (by decide) (56) rfl ?_
    refine x_bipush 158 rfl dX11_count_156 (by decide) ?_
    refine x_ialk 159 rfl dX11_count_158 (lyl56 hL) (lys56 hL) 6 rfl (by decide) ?_
    refine x_reti dX11_count_159 rfl ?_
    subst c1
    exact ⟨rfl, rfl⟩
  refine x_tsC (12) 160 12 dX11_count_1 (by decide) (by decide) (by decide) rfl (by decide) (fun c1 => ?_) (fun c1_12 => ?_)
  · refine x_aload_n 161 rfl dX11_count_160 0 rfl rfl ?_
    refine x_getr 164 rfl fX11_24 dX11_count_161 (lyl55 hL) (lys55 hL) (by decide) (57) rfl ?_
    refine x_bipush 166 rfl dX11_count_164 (by decide) ?_
    refine x_ialk 167 rfl dX11_count_166 (lyl57 hL) (lys57 hL) 79 rfl (by decide) ?_
    refine x_reti dX11_count_167 rfl ?_
    subst c1
    exact ⟨rfl, rfl⟩
  refine x_tsC (13) 168 13 dX11_count_1 (by decide) (by decide) (by decide) rfl (by decide) (fun c1 => ?_) (fun c1_13 => ?_)
  · refine x_aload_n 169 rfl dX11_count_168 0 rfl rfl ?_
    refine x_getr 172 rfl fX11_24 dX11_count_169 (lyl55 hL) (lys55 hL) (by decide) (57) rfl ?_
    refine x_iconst 173 rfl dX11_count_172 (by decide) ?_
    refine x_ialk 174 rfl dX11_count_173 (lyl57 hL) (lys57 hL) 0 rfl (by decide) ?_
    refine x_reti dX11_count_174 rfl ?_
    subst c1
    exact ⟨rfl, rfl⟩
  refine x_tsC (14) 175 14 dX11_count_1 (by decide) (by decide) (by decide) rfl (by decide) (fun c1 => ?_) (fun c1_14 => ?_)
  · refine x_aload_n 176 rfl dX11_count_175 0 rfl rfl ?_
    refine x_getr 179 rfl fX11_24 dX11_count_176 (lyl55 hL) (lys55 hL) (by decide) (57) rfl ?_
    refine x_iconst 180 rfl dX11_count_179 (by decide) ?_
    refine x_ialk 181 rfl dX11_count_180 (lyl57 hL) (lys57 hL) 1 rfl (by decide) ?_
    refine x_reti dX11_count_181 rfl ?_
    subst c1
    exact ⟨rfl, rfl⟩
  refine x_tsC (15) 182 15 dX11_count_1 (by decide) (by decide) (by decide) rfl (by decide) (fun c1 => ?_) (fun c1_15 => ?_)
  · refine x_aload_n 183 rfl dX11_count_182 0 rfl rfl ?_
    refine x_getr 186 rfl fX11_24 dX11_count_183 (lyl55 hL) (lys55 hL) (by decide) (57) rfl ?_
    refine x_iconst 187 rfl dX11_count_186 (by decide) ?_
    refine x_ialk 188 rfl dX11_count_187 (lyl57 hL) (lys57 hL) 2 rfl (by decide) ?_
    refine x_reti dX11_count_188 rfl ?_
    subst c1
    exact ⟨rfl, rfl⟩
  refine x_tsC (16) 189 16 dX11_count_1 (by decide) (by decide) (by decide) rfl (by decide) (fun c1 => ?_) (fun c1_16 => ?_)
  · refine x_aload_n 190 rfl dX11_count_189 0 rfl rfl ?_
    refine x_getr 193 rfl fX11_24 dX11_count_190 (lyl55 hL) (lys55 hL) (by decide) (57) rfl ?_
    refine x_bipush 195 rfl dX11_count_193 (by decide) ?_
    refine x_iload_n 196 rfl dX11_count_195 1 rfl rfl ?_
    refine y_iadd 197 rfl dX11_count_196 (by omega) ?_
    refine x_bipush 199 rfl dX11_count_197 (by decide) ?_
    refine y_isub 200 rfl dX11_count_199 (by omega) ?_
    refine x_iald 201 rfl dX11_count_200 (lyl57 hL) (lys57 hL) (by omega) (by omega) ?_
    refine x_reti dX11_count_201 rfl ?_
    subst c1
    exact ⟨rfl, rfl⟩
  refine x_tsC (17) 189 17 dX11_count_1 (by decide) (by decide) (by decide) rfl (by decide) (fun c1 => ?_) (fun c1_17 => ?_)
  · refine x_aload_n 190 rfl dX11_count_189 0 rfl rfl ?_
    refine x_getr 193 rfl fX11_24 dX11_count_190 (lyl55 hL) (lys55 hL) (by decide) (57) rfl ?_
    refine x_bipush 195 rfl dX11_count_193 (by decide) ?_
    refine x_iload_n 196 rfl dX11_count_195 1 rfl rfl ?_
    refine y_iadd 197 rfl dX11_count_196 (by omega) ?_
    refine x_bipush 199 rfl dX11_count_197 (by decide) ?_
    refine y_isub 200 rfl dX11_count_199 (by omega) ?_
    refine x_iald 201 rfl dX11_count_200 (lyl57 hL) (lys57 hL) (by omega) (by omega) ?_
    refine x_reti dX11_count_201 rfl ?_
    subst c1
    exact ⟨rfl, rfl⟩
  refine x_tsOut 202 dX11_count_1 (by omega) (by decide) ?_
  refine x_iload_n 203 rfl dX11_count_202 1 rfl rfl ?_
  refine x_bipush 205 rfl dX11_count_203 (by decide) ?_
  refine x_bipush 207 rfl dX11_count_205 (by decide) ?_
  refine x_cSi 210 rfl lX11_90 dX11_count_207 c_X11_lies rfl rfl (Nat.le_of_ble_eq_true rfl) (fun r M1 hr1 => ?_)
  obtain ⟨hr2, hM1⟩ := hr1
  rw [hM1]
  refine x_if_eq 213 228 rfl dX11_count_210 (by decide) (fun c210 => ?_) (fun c210 => ?_)
  · refine x_iconst 229 rfl dX11_count_228 (by decide) ?_
    refine x_reti dX11_count_229 rfl ?_
    refine ⟨?_, rfl⟩
    rw [zcount_n]
    have h9 : ¬ (18 ≤ x ∧ x ≤ 23) := fun h8 => by rw [if_pos h8] at hr2; omega
    omega
  · have h9 : 18 ≤ x ∧ x ≤ 23 := Decidable.byContradiction (fun h8 => by rw [if_neg h8] at hr2; omega)
    refine x_aload_n 214 rfl dX11_count_213 0 rfl rfl ?_
    refine x_getr 217 rfl fX11_24 dX11_count_214 (lyl55 hL) (lys55 hL) (by decide) (57) rfl ?_
    refine x_bipush 219 rfl dX11_count_217 (by decide) ?_
    refine x_iload_n 220 rfl dX11_count_219 1 rfl rfl ?_
    refine y_iadd 221 rfl dX11_count_220 (by omega) ?_
    refine x_bipush 223 rfl dX11_count_221 (by decide) ?_
    refine y_isub 224 rfl dX11_count_223 (by omega) ?_
    refine x_iald 225 rfl dX11_count_224 (lyl57 hL) (lys57 hL) (by omega) (by omega) ?_
    refine x_goto 229 dX11_count_225 (by decide) ?_
    refine x_reti dX11_count_229 rfl ?_
    refine ⟨?_, rfl⟩
    rw [zcount_p h9, show ((51 : Int) + x - 18).toNat = 51 + (x.toNat - 18) by omega]

set_option maxRecDepth 100000 in
set_option maxHeartbeats 4000000 in
theorem c_X10_count {d sz : Nat} {S : zSh} {M : zMem} (hL : LY S sz) {k : Nat → Int} (hs : SR M 1 k) (hi : KI k) {x : Int} : zX (d + 2) 0 0 mX10_count [zn 0, zi x] sz S M (zI sz S (fun r M' => r = zcount k (M 24 3) (M 30 1) (M 54) x ∧ M' = M)) := by
  obtain ⟨⟨s1, s2, s3, s4, s5, s6, s7, s8⟩, ⟨s9, s10, s11⟩, q1, q2, q3, q4, q5, q6, q7, q8⟩ := id hs
  refine zX_of pl_RX10 [some (zn 0), some (zi x)] 0 rfl rfl ?_
  refine x_iload_n 1 rfl dX10_count_0 1 rfl rfl ?_
  refine x_bipush 3 rfl dX10_count_1 (by decide) ?_
  refine x_icmp_lt 6 25 rfl dX10_count_3 (by decide) (fun c3 => ?_) (fun c3 => ?_)
  · refine x_iload_n 26 rfl dX10_count_25 1 rfl rfl ?_
    refine x_bipush 28 rfl dX10_count_26 (by decide) ?_
    refine x_icmp_lt 31 50 rfl dX10_count_28 (by decide) (fun c28 => ?_) (fun c28 => ?_)
    · refine x_iload_n 51 rfl dX10_count_50 1 rfl rfl ?_
      refine x_tsC (0) 124 0 dX10_count_51 (by decide) (by decide) (by decide) rfl (by decide) (fun c51 => ?_) (fun c51_0 => ?_)
      · refine x_aload_n 125 rfl dX10_count_124 0 rfl rfl ?_
        refine x_getr 128 rfl fX10_10 dX10_count_125 (lyl0 hL) (lys0 hL) (by decide) (1) rfl ?_
        refine x_geti 131 rfl fX10_94 dX10_count_128 (lyl1 hL) (lys1 hL) (by decide) ?_
        refine x_reti dX10_count_131 rfl ?_
        subst c51
        first
          | exact ⟨s1, rfl⟩
          | exact ⟨s3, rfl⟩
          | exact ⟨s4, rfl⟩
          | exact ⟨s5, rfl⟩
          | exact ⟨s6, rfl⟩
          | exact ⟨s7, rfl⟩
          | exact ⟨s8, rfl⟩
          | exact ⟨rfl, rfl⟩
      refine x_tsC (1) 132 1 dX10_count_51 (by decide) (by decide) (by decide) rfl (by decide) (fun c51 => ?_) (fun c51_1 => ?_)
      · refine x_aload_n 133 rfl dX10_count_132 0 rfl rfl ?_
        refine x_getr 136 rfl fX10_10 dX10_count_133 (lyl0 hL) (lys0 hL) (by decide) (1) rfl ?_
        refine x_cVi 139 rfl lX10_128 dX10_count_136 (lyl1 hL) (lys1 hL) (c_X7_crewSize (ly_sh1 hL) hs hi) rfl rfl (Nat.le_of_ble_eq_true rfl) (fun r M1 hr1 => ?_)
        obtain ⟨hr2, hM1⟩ := hr1
        refine x_reti dX10_count_139 rfl ?_
        subst c51
        exact ⟨hr2, hM1⟩
      refine x_tsC (2) 140 2 dX10_count_51 (by decide) (by decide) (by decide) rfl (by decide) (fun c51 => ?_) (fun c51_2 => ?_)
      · refine x_aload_n 141 rfl dX10_count_140 0 rfl rfl ?_
        refine x_getr 144 rfl fX10_10 dX10_count_141 (lyl0 hL) (lys0 hL) (by decide) (1) rfl ?_
        refine x_geti 147 rfl fX10_143 dX10_count_144 (lyl1 hL) (lys1 hL) (by decide) ?_
        refine x_reti dX10_count_147 rfl ?_
        subst c51
        first
          | exact ⟨s1, rfl⟩
          | exact ⟨s3, rfl⟩
          | exact ⟨s4, rfl⟩
          | exact ⟨s5, rfl⟩
          | exact ⟨s6, rfl⟩
          | exact ⟨s7, rfl⟩
          | exact ⟨s8, rfl⟩
          | exact ⟨rfl, rfl⟩
      refine x_tsC (3) 148 3 dX10_count_51 (by decide) (by decide) (by decide) rfl (by decide) (fun c51 => ?_) (fun c51_3 => ?_)
      · refine x_aload_n 149 rfl dX10_count_148 0 rfl rfl ?_
        refine x_getr 152 rfl fX10_10 dX10_count_149 (lyl0 hL) (lys0 hL) (by decide) (1) rfl ?_
        refine x_geti 155 rfl fX10_268 dX10_count_152 (lyl1 hL) (lys1 hL) (by decide) ?_
        refine x_reti dX10_count_155 rfl ?_
        subst c51
        first
          | exact ⟨s1, rfl⟩
          | exact ⟨s3, rfl⟩
          | exact ⟨s4, rfl⟩
          | exact ⟨s5, rfl⟩
          | exact ⟨s6, rfl⟩
          | exact ⟨s7, rfl⟩
          | exact ⟨s8, rfl⟩
          | exact ⟨rfl, rfl⟩
      refine x_tsC (4) 156 4 dX10_count_51 (by decide) (by decide) (by decide) rfl (by decide) (fun c51 => ?_) (fun c51_4 => ?_)
      · refine x_aload_n 157 rfl dX10_count_156 0 rfl rfl ?_
        refine x_getr 160 rfl fX10_10 dX10_count_157 (lyl0 hL) (lys0 hL) (by decide) (1) rfl ?_
        refine x_geti 163 rfl fX10_189 dX10_count_160 (lyl1 hL) (lys1 hL) (by decide) ?_
        refine x_reti dX10_count_163 rfl ?_
        subst c51
        first
          | exact ⟨s1, rfl⟩
          | exact ⟨s3, rfl⟩
          | exact ⟨s4, rfl⟩
          | exact ⟨s5, rfl⟩
          | exact ⟨s6, rfl⟩
          | exact ⟨s7, rfl⟩
          | exact ⟨s8, rfl⟩
          | exact ⟨rfl, rfl⟩
      refine x_tsC (5) 164 5 dX10_count_51 (by decide) (by decide) (by decide) rfl (by decide) (fun c51 => ?_) (fun c51_5 => ?_)
      · refine x_aload_n 165 rfl dX10_count_164 0 rfl rfl ?_
        refine x_getr 168 rfl fX10_26 dX10_count_165 (lyl0 hL) (lys0 hL) (by decide) (24) rfl ?_
        refine x_geti 171 rfl fX10_296 dX10_count_168 (lyl24 hL) (lys24 hL) (by decide) ?_
        refine x_reti dX10_count_171 rfl ?_
        subst c51
        first
          | exact ⟨s1, rfl⟩
          | exact ⟨s3, rfl⟩
          | exact ⟨s4, rfl⟩
          | exact ⟨s5, rfl⟩
          | exact ⟨s6, rfl⟩
          | exact ⟨s7, rfl⟩
          | exact ⟨s8, rfl⟩
          | exact ⟨rfl, rfl⟩
      refine x_tsC (6) 172 6 dX10_count_51 (by decide) (by decide) (by decide) rfl (by decide) (fun c51 => ?_) (fun c51_6 => ?_)
      · refine x_aload_n 173 rfl dX10_count_172 0 rfl rfl ?_
        refine x_getr 176 rfl fX10_36 dX10_count_173 (lyl0 hL) (lys0 hL) (by decide) (30) rfl ?_
        refine x_geti 179 rfl fX10_173 dX10_count_176 (lyl30 hL) (lys30 hL) (by decide) ?_
        refine x_reti dX10_count_179 rfl ?_
        subst c51
        first
          | exact ⟨s1, rfl⟩
          | exact ⟨s3, rfl⟩
          | exact ⟨s4, rfl⟩
          | exact ⟨s5, rfl⟩
          | exact ⟨s6, rfl⟩
          | exact ⟨s7, rfl⟩
          | exact ⟨s8, rfl⟩
          | exact ⟨rfl, rfl⟩
      refine x_tsC (7) 180 7 dX10_count_51 (by decide) (by decide) (by decide) rfl (by decide) (fun c51 => ?_) (fun c51_7 => ?_)
      · refine x_aload_n 181 rfl dX10_count_180 0 rfl rfl ?_
        refine x_getr 184 rfl fX10_86 dX10_count_181 (lyl0 hL) (lys0 hL) (by decide) (54) rfl ?_
        refine x_iconst 185 rfl dX10_count_184 (by decide) ?_
        refine x_ialk 186 rfl dX10_count_185 (lyl54 hL) (lys54 hL) 1 rfl (by decide) ?_
        refine x_reti dX10_count_186 rfl ?_
        subst c51
        first
          | exact ⟨s1, rfl⟩
          | exact ⟨s3, rfl⟩
          | exact ⟨s4, rfl⟩
          | exact ⟨s5, rfl⟩
          | exact ⟨s6, rfl⟩
          | exact ⟨s7, rfl⟩
          | exact ⟨s8, rfl⟩
          | exact ⟨rfl, rfl⟩
      refine x_tsC (8) 187 8 dX10_count_51 (by decide) (by decide) (by decide) rfl (by decide) (fun c51 => ?_) (fun c51_8 => ?_)
      · refine x_aload_n 188 rfl dX10_count_187 0 rfl rfl ?_
        refine x_getr 191 rfl fX10_86 dX10_count_188 (lyl0 hL) (lys0 hL) (by decide) (54) rfl ?_
        refine x_iconst 192 rfl dX10_count_191 (by decide) ?_
        refine x_ialk 193 rfl dX10_count_192 (lyl54 hL) (lys54 hL) 2 rfl (by decide) ?_
        refine x_reti dX10_count_193 rfl ?_
        subst c51
        first
          | exact ⟨s1, rfl⟩
          | exact ⟨s3, rfl⟩
          | exact ⟨s4, rfl⟩
          | exact ⟨s5, rfl⟩
          | exact ⟨s6, rfl⟩
          | exact ⟨s7, rfl⟩
          | exact ⟨s8, rfl⟩
          | exact ⟨rfl, rfl⟩
      refine x_tsC (9) 194 9 dX10_count_51 (by decide) (by decide) (by decide) rfl (by decide) (fun c51 => ?_) (fun c51_9 => ?_)
      · refine x_aload_n 195 rfl dX10_count_194 0 rfl rfl ?_
        refine x_getr 198 rfl fX10_86 dX10_count_195 (lyl0 hL) (lys0 hL) (by decide) (54) rfl ?_
        refine x_iconst 199 rfl dX10_count_198 (by decide) ?_
        refine x_ialk 200 rfl dX10_count_199 (lyl54 hL) (lys54 hL) 3 rfl (by decide) ?_
        refine x_reti dX10_count_200 rfl ?_
        subst c51
        first
          | exact ⟨s1, rfl⟩
          | exact ⟨s3, rfl⟩
          | exact ⟨s4, rfl⟩
          | exact ⟨s5, rfl⟩
          | exact ⟨s6, rfl⟩
          | exact ⟨s7, rfl⟩
          | exact ⟨s8, rfl⟩
          | exact ⟨rfl, rfl⟩
      refine x_tsC (10) 201 10 dX10_count_51 (by decide) (by decide) (by decide) rfl (by decide) (fun c51 => ?_) (fun c51_10 => ?_)
      · refine x_aload_n 202 rfl dX10_count_201 0 rfl rfl ?_
        refine x_getr 205 rfl fX10_86 dX10_count_202 (lyl0 hL) (lys0 hL) (by decide) (54) rfl ?_
        refine x_iconst 206 rfl dX10_count_205 (by decide) ?_
        refine x_ialk 207 rfl dX10_count_206 (lyl54 hL) (lys54 hL) 5 rfl (by decide) ?_
        refine x_reti dX10_count_207 rfl ?_
        subst c51
        first
          | exact ⟨s1, rfl⟩
          | exact ⟨s3, rfl⟩
          | exact ⟨s4, rfl⟩
          | exact ⟨s5, rfl⟩
          | exact ⟨s6, rfl⟩
          | exact ⟨s7, rfl⟩
          | exact ⟨s8, rfl⟩
          | exact ⟨rfl, rfl⟩
      refine x_tsC (11) 208 11 dX10_count_51 (by decide) (by decide) (by decide) rfl (by decide) (fun c51 => ?_) (fun c51_11 => ?_)
      · refine x_aload_n 209 rfl dX10_count_208 0 rfl rfl ?_
        refine x_getr 212 rfl fX10_86 dX10_count_209 (lyl0 hL) (lys0 hL) (by decide) (54) rfl ?_
        refine x_bipush 214 rfl dX10_count_212 (by decide) ?_
        refine x_ialk 215 rfl dX10_count_214 (lyl54 hL) (lys54 hL) 6 rfl (by decide) ?_
        refine x_reti dX10_count_215 rfl ?_
        subst c51
        first
          | exact ⟨s1, rfl⟩
          | exact ⟨s3, rfl⟩
          | exact ⟨s4, rfl⟩
          | exact ⟨s5, rfl⟩
          | exact ⟨s6, rfl⟩
          | exact ⟨s7, rfl⟩
          | exact ⟨s8, rfl⟩
          | exact ⟨rfl, rfl⟩
      refine x_tsC (12) 216 12 dX10_count_51 (by decide) (by decide) (by decide) rfl (by decide) (fun c51 => ?_) (fun c51_12 => ?_)
      · refine x_aload_n 217 rfl dX10_count_216 0 rfl rfl ?_
        refine x_getr 220 rfl fX10_10 dX10_count_217 (lyl0 hL) (lys0 hL) (by decide) (1) rfl ?_
        refine x_geti 223 rfl fX10_222 dX10_count_220 (lyl1 hL) (lys1 hL) (by decide) ?_
        refine x_reti dX10_count_223 rfl ?_
        subst c51
        first
          | exact ⟨s1, rfl⟩
          | exact ⟨s3, rfl⟩
          | exact ⟨s4, rfl⟩
          | exact ⟨s5, rfl⟩
          | exact ⟨s6, rfl⟩
          | exact ⟨s7, rfl⟩
          | exact ⟨s8, rfl⟩
          | exact ⟨rfl, rfl⟩
      refine x_tsC (13) 224 13 dX10_count_51 (by decide) (by decide) (by decide) rfl (by decide) (fun c51 => ?_) (fun c51_13 => ?_)
      · refine x_aload_n 225 rfl dX10_count_224 0 rfl rfl ?_
        refine x_getr 228 rfl fX10_10 dX10_count_225 (lyl0 hL) (lys0 hL) (by decide) (1) rfl ?_
        refine x_geti 231 rfl fX10_293 dX10_count_228 (lyl1 hL) (lys1 hL) (by decide) ?_
        refine x_reti dX10_count_231 rfl ?_
        subst c51
        first
          | exact ⟨s1, rfl⟩
          | exact ⟨s3, rfl⟩
          | exact ⟨s4, rfl⟩
          | exact ⟨s5, rfl⟩
          | exact ⟨s6, rfl⟩
          | exact ⟨s7, rfl⟩
          | exact ⟨s8, rfl⟩
          | exact ⟨rfl, rfl⟩
      refine x_tsC (14) 232 14 dX10_count_51 (by decide) (by decide) (by decide) rfl (by decide) (fun c51 => ?_) (fun c51_14 => ?_)
      · refine x_aload_n 233 rfl dX10_count_232 0 rfl rfl ?_
        refine x_getr 236 rfl fX10_10 dX10_count_233 (lyl0 hL) (lys0 hL) (by decide) (1) rfl ?_
        refine x_geti 239 rfl fX10_297 dX10_count_236 (lyl1 hL) (lys1 hL) (by decide) ?_
        refine x_reti dX10_count_239 rfl ?_
        subst c51
        first
          | exact ⟨s1, rfl⟩
          | exact ⟨s3, rfl⟩
          | exact ⟨s4, rfl⟩
          | exact ⟨s5, rfl⟩
          | exact ⟨s6, rfl⟩
          | exact ⟨s7, rfl⟩
          | exact ⟨s8, rfl⟩
          | exact ⟨rfl, rfl⟩
      refine x_tsOut 240 dX10_count_51 (by omega) (by decide) ?_
      refine x_iconst 241 rfl dX10_count_240 (by decide) ?_
      refine x_reti dX10_count_241 rfl ?_
      exact ⟨by rw [zcount_n (by omega)], rfl⟩
    · refine x_iload_n 32 rfl dX10_count_31 1 rfl rfl ?_
      refine x_bipush 34 rfl dX10_count_32 (by decide) ?_
      refine x_icmp_ge 37 50 rfl dX10_count_34 (by decide) (fun c34 => ?_) (fun c34 => ?_)
      · refine x_iload_n 51 rfl dX10_count_50 1 rfl rfl ?_
        refine x_tsC (0) 124 0 dX10_count_51 (by decide) (by decide) (by decide) rfl (by decide) (fun c51 => ?_) (fun c51_0 => ?_)
        · refine x_aload_n 125 rfl dX10_count_124 0 rfl rfl ?_
          refine x_getr 128 rfl fX10_10 dX10_count_125 (lyl0 hL) (lys0 hL) (by decide) (1) rfl ?_
          refine x_geti 131 rfl fX10_94 dX10_count_128 (lyl1 hL) (lys1 hL) (by decide) ?_
          refine x_reti dX10_count_131 rfl ?_
          subst c51
          first
            | exact ⟨s1, rfl⟩
            | exact ⟨s3, rfl⟩
            | exact ⟨s4, rfl⟩
            | exact ⟨s5, rfl⟩
            | exact ⟨s6, rfl⟩
            | exact ⟨s7, rfl⟩
            | exact ⟨s8, rfl⟩
            | exact ⟨rfl, rfl⟩
        refine x_tsC (1) 132 1 dX10_count_51 (by decide) (by decide) (by decide) rfl (by decide) (fun c51 => ?_) (fun c51_1 => ?_)
        · refine x_aload_n 133 rfl dX10_count_132 0 rfl rfl ?_
          refine x_getr 136 rfl fX10_10 dX10_count_133 (lyl0 hL) (lys0 hL) (by decide) (1) rfl ?_
          refine x_cVi 139 rfl lX10_128 dX10_count_136 (lyl1 hL) (lys1 hL) (c_X7_crewSize (ly_sh1 hL) hs hi) rfl rfl (Nat.le_of_ble_eq_true rfl) (fun r M1 hr1 => ?_)
          obtain ⟨hr2, hM1⟩ := hr1
          refine x_reti dX10_count_139 rfl ?_
          subst c51
          exact ⟨hr2, hM1⟩
        refine x_tsC (2) 140 2 dX10_count_51 (by decide) (by decide) (by decide) rfl (by decide) (fun c51 => ?_) (fun c51_2 => ?_)
        · refine x_aload_n 141 rfl dX10_count_140 0 rfl rfl ?_
          refine x_getr 144 rfl fX10_10 dX10_count_141 (lyl0 hL) (lys0 hL) (by decide) (1) rfl ?_
          refine x_geti 147 rfl fX10_143 dX10_count_144 (lyl1 hL) (lys1 hL) (by decide) ?_
          refine x_reti dX10_count_147 rfl ?_
          subst c51
          first
            | exact ⟨s1, rfl⟩
            | exact ⟨s3, rfl⟩
            | exact ⟨s4, rfl⟩
            | exact ⟨s5, rfl⟩
            | exact ⟨s6, rfl⟩
            | exact ⟨s7, rfl⟩
            | exact ⟨s8, rfl⟩
            | exact ⟨rfl, rfl⟩
        refine x_tsC (3) 148 3 dX10_count_51 (by decide) (by decide) (by decide) rfl (by decide) (fun c51 => ?_) (fun c51_3 => ?_)
        · refine x_aload_n 149 rfl dX10_count_148 0 rfl rfl ?_
          refine x_getr 152 rfl fX10_10 dX10_count_149 (lyl0 hL) (lys0 hL) (by decide) (1) rfl ?_
          refine x_geti 155 rfl fX10_268 dX10_count_152 (lyl1 hL) (lys1 hL) (by decide) ?_
          refine x_reti dX10_count_155 rfl ?_
          subst c51
          first
            | exact ⟨s1, rfl⟩
            | exact ⟨s3, rfl⟩
            | exact ⟨s4, rfl⟩
            | exact ⟨s5, rfl⟩
            | exact ⟨s6, rfl⟩
            | exact ⟨s7, rfl⟩
            | exact ⟨s8, rfl⟩
            | exact ⟨rfl, rfl⟩
        refine x_tsC (4) 156 4 dX10_count_51 (by decide) (by decide) (by decide) rfl (by decide) (fun c51 => ?_) (fun c51_4 => ?_)
        · refine x_aload_n 157 rfl dX10_count_156 0 rfl rfl ?_
          refine x_getr 160 rfl fX10_10 dX10_count_157 (lyl0 hL) (lys0 hL) (by decide) (1) rfl ?_
          refine x_geti 163 rfl fX10_189 dX10_count_160 (lyl1 hL) (lys1 hL) (by decide) ?_
          refine x_reti dX10_count_163 rfl ?_
          subst c51
          first
            | exact ⟨s1, rfl⟩
            | exact ⟨s3, rfl⟩
            | exact ⟨s4, rfl⟩
            | exact ⟨s5, rfl⟩
            | exact ⟨s6, rfl⟩
            | exact ⟨s7, rfl⟩
            | exact ⟨s8, rfl⟩
            | exact ⟨rfl, rfl⟩
        refine x_tsC (5) 164 5 dX10_count_51 (by decide) (by decide) (by decide) rfl (by decide) (fun c51 => ?_) (fun c51_5 => ?_)
        · refine x_aload_n 165 rfl dX10_count_164 0 rfl rfl ?_
          refine x_getr 168 rfl fX10_26 dX10_count_165 (lyl0 hL) (lys0 hL) (by decide) (24) rfl ?_
          refine x_geti 171 rfl fX10_296 dX10_count_168 (lyl24 hL) (lys24 hL) (by decide) ?_
          refine x_reti dX10_count_171 rfl ?_
          subst c51
          first
            | exact ⟨s1, rfl⟩
            | exact ⟨s3, rfl⟩
            | exact ⟨s4, rfl⟩
            | exact ⟨s5, rfl⟩
            | exact ⟨s6, rfl⟩
            | exact ⟨s7, rfl⟩
            | exact ⟨s8, rfl⟩
            | exact ⟨rfl, rfl⟩
        refine x_tsC (6) 172 6 dX10_count_51 (by decide) (by decide) (by decide) rfl (by decide) (fun c51 => ?_) (fun c51_6 => ?_)
        · refine x_aload_n 173 rfl dX10_count_172 0 rfl rfl ?_
          refine x_getr 176 rfl fX10_36 dX10_count_173 (lyl0 hL) (lys0 hL) (by decide) (30) rfl ?_
          refine x_geti 179 rfl fX10_173 dX10_count_176 (lyl30 hL) (lys30 hL) (by decide) ?_
          refine x_reti dX10_count_179 rfl ?_
          subst c51
          first
            | exact ⟨s1, rfl⟩
            | exact ⟨s3, rfl⟩
            | exact ⟨s4, rfl⟩
            | exact ⟨s5, rfl⟩
            | exact ⟨s6, rfl⟩
            | exact ⟨s7, rfl⟩
            | exact ⟨s8, rfl⟩
            | exact ⟨rfl, rfl⟩
        refine x_tsC (7) 180 7 dX10_count_51 (by decide) (by decide) (by decide) rfl (by decide) (fun c51 => ?_) (fun c51_7 => ?_)
        · refine x_aload_n 181 rfl dX10_count_180 0 rfl rfl ?_
          refine x_getr 184 rfl fX10_86 dX10_count_181 (lyl0 hL) (lys0 hL) (by decide) (54) rfl ?_
          refine x_iconst 185 rfl dX10_count_184 (by decide) ?_
          refine x_ialk 186 rfl dX10_count_185 (lyl54 hL) (lys54 hL) 1 rfl (by decide) ?_
          refine x_reti dX10_count_186 rfl ?_
          subst c51
          first
            | exact ⟨s1, rfl⟩
            | exact ⟨s3, rfl⟩
            | exact ⟨s4, rfl⟩
            | exact ⟨s5, rfl⟩
            | exact ⟨s6, rfl⟩
            | exact ⟨s7, rfl⟩
            | exact ⟨s8, rfl⟩
            | exact ⟨rfl, rfl⟩
        refine x_tsC (8) 187 8 dX10_count_51 (by decide) (by decide) (by decide) rfl (by decide) (fun c51 => ?_) (fun c51_8 => ?_)
        · refine x_aload_n 188 rfl dX10_count_187 0 rfl rfl ?_
          refine x_getr 191 rfl fX10_86 dX10_count_188 (lyl0 hL) (lys0 hL) (by decide) (54) rfl ?_
          refine x_iconst 192 rfl dX10_count_191 (by decide) ?_
          refine x_ialk 193 rfl dX10_count_192 (lyl54 hL) (lys54 hL) 2 rfl (by decide) ?_
          refine x_reti dX10_count_193 rfl ?_
          subst c51
          first
            | exact ⟨s1, rfl⟩
            | exact ⟨s3, rfl⟩
            | exact ⟨s4, rfl⟩
            | exact ⟨s5, rfl⟩
            | exact ⟨s6, rfl⟩
            | exact ⟨s7, rfl⟩
            | exact ⟨s8, rfl⟩
            | exact ⟨rfl, rfl⟩
        refine x_tsC (9) 194 9 dX10_count_51 (by decide) (by decide) (by decide) rfl (by decide) (fun c51 => ?_) (fun c51_9 => ?_)
        · refine x_aload_n 195 rfl dX10_count_194 0 rfl rfl ?_
          refine x_getr 198 rfl fX10_86 dX10_count_195 (lyl0 hL) (lys0 hL) (by decide) (54) rfl ?_
          refine x_iconst 199 rfl dX10_count_198 (by decide) ?_
          refine x_ialk 200 rfl dX10_count_199 (lyl54 hL) (lys54 hL) 3 rfl (by decide) ?_
          refine x_reti dX10_count_200 rfl ?_
          subst c51
          first
            | exact ⟨s1, rfl⟩
            | exact ⟨s3, rfl⟩
            | exact ⟨s4, rfl⟩
            | exact ⟨s5, rfl⟩
            | exact ⟨s6, rfl⟩
            | exact ⟨s7, rfl⟩
            | exact ⟨s8, rfl⟩
            | exact ⟨rfl, rfl⟩
        refine x_tsC (10) 201 10 dX10_count_51 (by decide) (by decide) (by decide) rfl (by decide) (fun c51 => ?_) (fun c51_10 => ?_)
        · refine x_aload_n 202 rfl dX10_count_201 0 rfl rfl ?_
          refine x_getr 205 rfl fX10_86 dX10_count_202 (lyl0 hL) (lys0 hL) (by decide) (54) rfl ?_
          refine x_iconst 206 rfl dX10_count_205 (by decide) ?_
          refine x_ialk 207 rfl dX10_count_206 (lyl54 hL) (lys54 hL) 5 rfl (by decide) ?_
          refine x_reti dX10_count_207 rfl ?_
          subst c51
          first
            | exact ⟨s1, rfl⟩
            | exact ⟨s3, rfl⟩
            | exact ⟨s4, rfl⟩
            | exact ⟨s5, rfl⟩
            | exact ⟨s6, rfl⟩
            | exact ⟨s7, rfl⟩
            | exact ⟨s8, rfl⟩
            | exact ⟨rfl, rfl⟩
        refine x_tsC (11) 208 11 dX10_count_51 (by decide) (by decide) (by decide) rfl (by decide) (fun c51 => ?_) (fun c51_11 => ?_)
        · refine x_aload_n 209 rfl dX10_count_208 0 rfl rfl ?_
          refine x_getr 212 rfl fX10_86 dX10_count_209 (lyl0 hL) (lys0 hL) (by decide) (54) rfl ?_
          refine x_bipush 214 rfl dX10_count_212 (by decide) ?_
          refine x_ialk 215 rfl dX10_count_214 (lyl54 hL) (lys54 hL) 6 rfl (by decide) ?_
          refine x_reti dX10_count_215 rfl ?_
          subst c51
          first
            | exact ⟨s1, rfl⟩
            | exact ⟨s3, rfl⟩
            | exact ⟨s4, rfl⟩
            | exact ⟨s5, rfl⟩
            | exact ⟨s6, rfl⟩
            | exact ⟨s7, rfl⟩
            | exact ⟨s8, rfl⟩
            | exact ⟨rfl, rfl⟩
        refine x_tsC (12) 216 12 dX10_count_51 (by decide) (by decide) (by decide) rfl (by decide) (fun c51 => ?_) (fun c51_12 => ?_)
        · refine x_aload_n 217 rfl dX10_count_216 0 rfl rfl ?_
          refine x_getr 220 rfl fX10_10 dX10_count_217 (lyl0 hL) (lys0 hL) (by decide) (1) rfl ?_
          refine x_geti 223 rfl fX10_222 dX10_count_220 (lyl1 hL) (lys1 hL) (by decide) ?_
          refine x_reti dX10_count_223 rfl ?_
          subst c51
          first
            | exact ⟨s1, rfl⟩
            | exact ⟨s3, rfl⟩
            | exact ⟨s4, rfl⟩
            | exact ⟨s5, rfl⟩
            | exact ⟨s6, rfl⟩
            | exact ⟨s7, rfl⟩
            | exact ⟨s8, rfl⟩
            | exact ⟨rfl, rfl⟩
        refine x_tsC (13) 224 13 dX10_count_51 (by decide) (by decide) (by decide) rfl (by decide) (fun c51 => ?_) (fun c51_13 => ?_)
        · refine x_aload_n 225 rfl dX10_count_224 0 rfl rfl ?_
          refine x_getr 228 rfl fX10_10 dX10_count_225 (lyl0 hL) (lys0 hL) (by decide) (1) rfl ?_
          refine x_geti 231 rfl fX10_293 dX10_count_228 (lyl1 hL) (lys1 hL) (by decide) ?_
          refine x_reti dX10_count_231 rfl ?_
          subst c51
          first
            | exact ⟨s1, rfl⟩
            | exact ⟨s3, rfl⟩
            | exact ⟨s4, rfl⟩
            | exact ⟨s5, rfl⟩
            | exact ⟨s6, rfl⟩
            | exact ⟨s7, rfl⟩
            | exact ⟨s8, rfl⟩
            | exact ⟨rfl, rfl⟩
        refine x_tsC (14) 232 14 dX10_count_51 (by decide) (by decide) (by decide) rfl (by decide) (fun c51 => ?_) (fun c51_14 => ?_)
        · refine x_aload_n 233 rfl dX10_count_232 0 rfl rfl ?_
          refine x_getr 236 rfl fX10_10 dX10_count_233 (lyl0 hL) (lys0 hL) (by decide) (1) rfl ?_
          refine x_geti 239 rfl fX10_297 dX10_count_236 (lyl1 hL) (lys1 hL) (by decide) ?_
          refine x_reti dX10_count_239 rfl ?_
          subst c51
          first
            | exact ⟨s1, rfl⟩
            | exact ⟨s3, rfl⟩
            | exact ⟨s4, rfl⟩
            | exact ⟨s5, rfl⟩
            | exact ⟨s6, rfl⟩
            | exact ⟨s7, rfl⟩
            | exact ⟨s8, rfl⟩
            | exact ⟨rfl, rfl⟩
        refine x_tsOut 240 dX10_count_51 (by omega) (by decide) ?_
        refine x_iconst 241 rfl dX10_count_240 (by decide) ?_
        refine x_reti dX10_count_241 rfl ?_
        exact ⟨by rw [zcount_n (by omega)], rfl⟩
      · refine x_aload_n 38 rfl dX10_count_37 0 rfl rfl ?_
        refine x_getr 41 rfl fX10_10 dX10_count_38 (lyl0 hL) (lys0 hL) (by decide) (1) rfl ?_
        refine x_getr 44 rfl fX10_163 dX10_count_41 (lyl1 hL) (lys1 hL) (by decide) (7) rfl ?_
        refine x_iload_n 45 rfl dX10_count_44 1 rfl rfl ?_
        refine x_bipush 47 rfl dX10_count_45 (by decide) ?_
        refine y_isub 48 rfl dX10_count_47 (by omega) ?_
        refine x_iald 49 rfl dX10_count_48 (lyl7 hL) (lys7 hL) (by omega) (by omega) ?_
        refine x_reti dX10_count_49 rfl ?_
        refine ⟨?_, rfl⟩
        rw [zcount_p (by omega), show (x - 18).toNat = x.toNat - 18 by omega]
        exact q6 _ (by omega)
  · refine x_iload_n 7 rfl dX10_count_6 1 rfl rfl ?_
    refine x_bipush 9 rfl dX10_count_7 (by decide) ?_
    refine x_icmp_gt 12 25 rfl dX10_count_9 (by decide) (fun c9 => ?_) (fun c9 => ?_)
    · refine x_iload_n 26 rfl dX10_count_25 1 rfl rfl ?_
      refine x_bipush 28 rfl dX10_count_26 (by decide) ?_
      refine x_icmp_lt 31 50 rfl dX10_count_28 (by decide) (fun c28 => ?_) (fun c28 => ?_)
      · refine x_iload_n 51 rfl dX10_count_50 1 rfl rfl ?_
        refine x_tsC (0) 124 0 dX10_count_51 (by decide) (by decide) (by decide) rfl (by decide) (fun c51 => ?_) (fun c51_0 => ?_)
        · refine x_aload_n 125 rfl dX10_count_124 0 rfl rfl ?_
          refine x_getr 128 rfl fX10_10 dX10_count_125 (lyl0 hL) (lys0 hL) (by decide) (1) rfl ?_
          refine x_geti 131 rfl fX10_94 dX10_count_128 (lyl1 hL) (lys1 hL) (by decide) ?_
          refine x_reti dX10_count_131 rfl ?_
          subst c51
          first
            | exact ⟨s1, rfl⟩
            | exact ⟨s3, rfl⟩
            | exact ⟨s4, rfl⟩
            | exact ⟨s5, rfl⟩
            | exact ⟨s6, rfl⟩
            | exact ⟨s7, rfl⟩
            | exact ⟨s8, rfl⟩
            | exact ⟨rfl, rfl⟩
        refine x_tsC (1) 132 1 dX10_count_51 (by decide) (by decide) (by decide) rfl (by decide) (fun c51 => ?_) (fun c51_1 => ?_)
        · refine x_aload_n 133 rfl dX10_count_132 0 rfl rfl ?_
          refine x_getr 136 rfl fX10_10 dX10_count_133 (lyl0 hL) (lys0 hL) (by decide) (1) rfl ?_
          refine x_cVi 139 rfl lX10_128 dX10_count_136 (lyl1 hL) (lys1 hL) (c_X7_crewSize (ly_sh1 hL) hs hi) rfl rfl (Nat.le_of_ble_eq_true rfl) (fun r M1 hr1 => ?_)
          obtain ⟨hr2, hM1⟩ := hr1
          refine x_reti dX10_count_139 rfl ?_
          subst c51
          exact ⟨hr2, hM1⟩
        refine x_tsC (2) 140 2 dX10_count_51 (by decide) (by decide) (by decide) rfl (by decide) (fun c51 => ?_) (fun c51_2 => ?_)
        · refine x_aload_n 141 rfl dX10_count_140 0 rfl rfl ?_
          refine x_getr 144 rfl fX10_10 dX10_count_141 (lyl0 hL) (lys0 hL) (by decide) (1) rfl ?_
          refine x_geti 147 rfl fX10_143 dX10_count_144 (lyl1 hL) (lys1 hL) (by decide) ?_
          refine x_reti dX10_count_147 rfl ?_
          subst c51
          first
            | exact ⟨s1, rfl⟩
            | exact ⟨s3, rfl⟩
            | exact ⟨s4, rfl⟩
            | exact ⟨s5, rfl⟩
            | exact ⟨s6, rfl⟩
            | exact ⟨s7, rfl⟩
            | exact ⟨s8, rfl⟩
            | exact ⟨rfl, rfl⟩
        refine x_tsC (3) 148 3 dX10_count_51 (by decide) (by decide) (by decide) rfl (by decide) (fun c51 => ?_) (fun c51_3 => ?_)
        · refine x_aload_n 149 rfl dX10_count_148 0 rfl rfl ?_
          refine x_getr 152 rfl fX10_10 dX10_count_149 (lyl0 hL) (lys0 hL) (by decide) (1) rfl ?_
          refine x_geti 155 rfl fX10_268 dX10_count_152 (lyl1 hL) (lys1 hL) (by decide) ?_
          refine x_reti dX10_count_155 rfl ?_
          subst c51
          first
            | exact ⟨s1, rfl⟩
            | exact ⟨s3, rfl⟩
            | exact ⟨s4, rfl⟩
            | exact ⟨s5, rfl⟩
            | exact ⟨s6, rfl⟩
            | exact ⟨s7, rfl⟩
            | exact ⟨s8, rfl⟩
            | exact ⟨rfl, rfl⟩
        refine x_tsC (4) 156 4 dX10_count_51 (by decide) (by decide) (by decide) rfl (by decide) (fun c51 => ?_) (fun c51_4 => ?_)
        · refine x_aload_n 157 rfl dX10_count_156 0 rfl rfl ?_
          refine x_getr 160 rfl fX10_10 dX10_count_157 (lyl0 hL) (lys0 hL) (by decide) (1) rfl ?_
          refine x_geti 163 rfl fX10_189 dX10_count_160 (lyl1 hL) (lys1 hL) (by decide) ?_
          refine x_reti dX10_count_163 rfl ?_
          subst c51
          first
            | exact ⟨s1, rfl⟩
            | exact ⟨s3, rfl⟩
            | exact ⟨s4, rfl⟩
            | exact ⟨s5, rfl⟩
            | exact ⟨s6, rfl⟩
            | exact ⟨s7, rfl⟩
            | exact ⟨s8, rfl⟩
            | exact ⟨rfl, rfl⟩
        refine x_tsC (5) 164 5 dX10_count_51 (by decide) (by decide) (by decide) rfl (by decide) (fun c51 => ?_) (fun c51_5 => ?_)
        · refine x_aload_n 165 rfl dX10_count_164 0 rfl rfl ?_
          refine x_getr 168 rfl fX10_26 dX10_count_165 (lyl0 hL) (lys0 hL) (by decide) (24) rfl ?_
          refine x_geti 171 rfl fX10_296 dX10_count_168 (lyl24 hL) (lys24 hL) (by decide) ?_
          refine x_reti dX10_count_171 rfl ?_
          subst c51
          first
            | exact ⟨s1, rfl⟩
            | exact ⟨s3, rfl⟩
            | exact ⟨s4, rfl⟩
            | exact ⟨s5, rfl⟩
            | exact ⟨s6, rfl⟩
            | exact ⟨s7, rfl⟩
            | exact ⟨s8, rfl⟩
            | exact ⟨rfl, rfl⟩
        refine x_tsC (6) 172 6 dX10_count_51 (by decide) (by decide) (by decide) rfl (by decide) (fun c51 => ?_) (fun c51_6 => ?_)
        · refine x_aload_n 173 rfl dX10_count_172 0 rfl rfl ?_
          refine x_getr 176 rfl fX10_36 dX10_count_173 (lyl0 hL) (lys0 hL) (by decide) (30) rfl ?_
          refine x_geti 179 rfl fX10_173 dX10_count_176 (lyl30 hL) (lys30 hL) (by decide) ?_
          refine x_reti dX10_count_179 rfl ?_
          subst c51
          first
            | exact ⟨s1, rfl⟩
            | exact ⟨s3, rfl⟩
            | exact ⟨s4, rfl⟩
            | exact ⟨s5, rfl⟩
            | exact ⟨s6, rfl⟩
            | exact ⟨s7, rfl⟩
            | exact ⟨s8, rfl⟩
            | exact ⟨rfl, rfl⟩
        refine x_tsC (7) 180 7 dX10_count_51 (by decide) (by decide) (by decide) rfl (by decide) (fun c51 => ?_) (fun c51_7 => ?_)
        · refine x_aload_n 181 rfl dX10_count_180 0 rfl rfl ?_
          refine x_getr 184 rfl fX10_86 dX10_count_181 (lyl0 hL) (lys0 hL) (by decide) (54) rfl ?_
          refine x_iconst 185 rfl dX10_count_184 (by decide) ?_
          refine x_ialk 186 rfl dX10_count_185 (lyl54 hL) (lys54 hL) 1 rfl (by decide) ?_
          refine x_reti dX10_count_186 rfl ?_
          subst c51
          first
            | exact ⟨s1, rfl⟩
            | exact ⟨s3, rfl⟩
            | exact ⟨s4, rfl⟩
            | exact ⟨s5, rfl⟩
            | exact ⟨s6, rfl⟩
            | exact ⟨s7, rfl⟩
            | exact ⟨s8, rfl⟩
            | exact ⟨rfl, rfl⟩
        refine x_tsC (8) 187 8 dX10_count_51 (by decide) (by decide) (by decide) rfl (by decide) (fun c51 => ?_) (fun c51_8 => ?_)
        · refine x_aload_n 188 rfl dX10_count_187 0 rfl rfl ?_
          refine x_getr 191 rfl fX10_86 dX10_count_188 (lyl0 hL) (lys0 hL) (by decide) (54) rfl ?_
          refine x_iconst 192 rfl dX10_count_191 (by decide) ?_
          refine x_ialk 193 rfl dX10_count_192 (lyl54 hL) (lys54 hL) 2 rfl (by decide) ?_
          refine x_reti dX10_count_193 rfl ?_
          subst c51
          first
            | exact ⟨s1, rfl⟩
            | exact ⟨s3, rfl⟩
            | exact ⟨s4, rfl⟩
            | exact ⟨s5, rfl⟩
            | exact ⟨s6, rfl⟩
            | exact ⟨s7, rfl⟩
            | exact ⟨s8, rfl⟩
            | exact ⟨rfl, rfl⟩
        refine x_tsC (9) 194 9 dX10_count_51 (by decide) (by decide) (by decide) rfl (by decide) (fun c51 => ?_) (fun c51_9 => ?_)
        · refine x_aload_n 195 rfl dX10_count_194 0 rfl rfl ?_
          refine x_getr 198 rfl fX10_86 dX10_count_195 (lyl0 hL) (lys0 hL) (by decide) (54) rfl ?_
          refine x_iconst 199 rfl dX10_count_198 (by decide) ?_
          refine x_ialk 200 rfl dX10_count_199 (lyl54 hL) (lys54 hL) 3 rfl (by decide) ?_
          refine x_reti dX10_count_200 rfl ?_
          subst c51
          first
            | exact ⟨s1, rfl⟩
            | exact ⟨s3, rfl⟩
            | exact ⟨s4, rfl⟩
            | exact ⟨s5, rfl⟩
            | exact ⟨s6, rfl⟩
            | exact ⟨s7, rfl⟩
            | exact ⟨s8, rfl⟩
            | exact ⟨rfl, rfl⟩
        refine x_tsC (10) 201 10 dX10_count_51 (by decide) (by decide) (by decide) rfl (by decide) (fun c51 => ?_) (fun c51_10 => ?_)
        · refine x_aload_n 202 rfl dX10_count_201 0 rfl rfl ?_
          refine x_getr 205 rfl fX10_86 dX10_count_202 (lyl0 hL) (lys0 hL) (by decide) (54) rfl ?_
          refine x_iconst 206 rfl dX10_count_205 (by decide) ?_
          refine x_ialk 207 rfl dX10_count_206 (lyl54 hL) (lys54 hL) 5 rfl (by decide) ?_
          refine x_reti dX10_count_207 rfl ?_
          subst c51
          first
            | exact ⟨s1, rfl⟩
            | exact ⟨s3, rfl⟩
            | exact ⟨s4, rfl⟩
            | exact ⟨s5, rfl⟩
            | exact ⟨s6, rfl⟩
            | exact ⟨s7, rfl⟩
            | exact ⟨s8, rfl⟩
            | exact ⟨rfl, rfl⟩
        refine x_tsC (11) 208 11 dX10_count_51 (by decide) (by decide) (by decide) rfl (by decide) (fun c51 => ?_) (fun c51_11 => ?_)
        · refine x_aload_n 209 rfl dX10_count_208 0 rfl rfl ?_
          refine x_getr 212 rfl fX10_86 dX10_count_209 (lyl0 hL) (lys0 hL) (by decide) (54) rfl ?_
          refine x_bipush 214 rfl dX10_count_212 (by decide) ?_
          refine x_ialk 215 rfl dX10_count_214 (lyl54 hL) (lys54 hL) 6 rfl (by decide) ?_
          refine x_reti dX10_count_215 rfl ?_
          subst c51
          first
            | exact ⟨s1, rfl⟩
            | exact ⟨s3, rfl⟩
            | exact ⟨s4, rfl⟩
            | exact ⟨s5, rfl⟩
            | exact ⟨s6, rfl⟩
            | exact ⟨s7, rfl⟩
            | exact ⟨s8, rfl⟩
            | exact ⟨rfl, rfl⟩
        refine x_tsC (12) 216 12 dX10_count_51 (by decide) (by decide) (by decide) rfl (by decide) (fun c51 => ?_) (fun c51_12 => ?_)
        · refine x_aload_n 217 rfl dX10_count_216 0 rfl rfl ?_
          refine x_getr 220 rfl fX10_10 dX10_count_217 (lyl0 hL) (lys0 hL) (by decide) (1) rfl ?_
          refine x_geti 223 rfl fX10_222 dX10_count_220 (lyl1 hL) (lys1 hL) (by decide) ?_
          refine x_reti dX10_count_223 rfl ?_
          subst c51
          first
            | exact ⟨s1, rfl⟩
            | exact ⟨s3, rfl⟩
            | exact ⟨s4, rfl⟩
            | exact ⟨s5, rfl⟩
            | exact ⟨s6, rfl⟩
            | exact ⟨s7, rfl⟩
            | exact ⟨s8, rfl⟩
            | exact ⟨rfl, rfl⟩
        refine x_tsC (13) 224 13 dX10_count_51 (by decide) (by decide) (by decide) rfl (by decide) (fun c51 => ?_) (fun c51_13 => ?_)
        · refine x_aload_n 225 rfl dX10_count_224 0 rfl rfl ?_
          refine x_getr 228 rfl fX10_10 dX10_count_225 (lyl0 hL) (lys0 hL) (by decide) (1) rfl ?_
          refine x_geti 231 rfl fX10_293 dX10_count_228 (lyl1 hL) (lys1 hL) (by decide) ?_
          refine x_reti dX10_count_231 rfl ?_
          subst c51
          first
            | exact ⟨s1, rfl⟩
            | exact ⟨s3, rfl⟩
            | exact ⟨s4, rfl⟩
            | exact ⟨s5, rfl⟩
            | exact ⟨s6, rfl⟩
            | exact ⟨s7, rfl⟩
            | exact ⟨s8, rfl⟩
            | exact ⟨rfl, rfl⟩
        refine x_tsC (14) 232 14 dX10_count_51 (by decide) (by decide) (by decide) rfl (by decide) (fun c51 => ?_) (fun c51_14 => ?_)
        · refine x_aload_n 233 rfl dX10_count_232 0 rfl rfl ?_
          refine x_getr 236 rfl fX10_10 dX10_count_233 (lyl0 hL) (lys0 hL) (by decide) (1) rfl ?_
          refine x_geti 239 rfl fX10_297 dX10_count_236 (lyl1 hL) (lys1 hL) (by decide) ?_
          refine x_reti dX10_count_239 rfl ?_
          subst c51
          first
            | exact ⟨s1, rfl⟩
            | exact ⟨s3, rfl⟩
            | exact ⟨s4, rfl⟩
            | exact ⟨s5, rfl⟩
            | exact ⟨s6, rfl⟩
            | exact ⟨s7, rfl⟩
            | exact ⟨s8, rfl⟩
            | exact ⟨rfl, rfl⟩
        refine x_tsOut 240 dX10_count_51 (by omega) (by decide) ?_
        refine x_iconst 241 rfl dX10_count_240 (by decide) ?_
        refine x_reti dX10_count_241 rfl ?_
        exact ⟨by rw [zcount_n (by omega)], rfl⟩
      · refine x_iload_n 32 rfl dX10_count_31 1 rfl rfl ?_
        refine x_bipush 34 rfl dX10_count_32 (by decide) ?_
        refine x_icmp_ge 37 50 rfl dX10_count_34 (by decide) (fun c34 => ?_) (fun c34 => ?_)
        · refine x_iload_n 51 rfl dX10_count_50 1 rfl rfl ?_
          refine x_tsC (0) 124 0 dX10_count_51 (by decide) (by decide) (by decide) rfl (by decide) (fun c51 => ?_) (fun c51_0 => ?_)
          · refine x_aload_n 125 rfl dX10_count_124 0 rfl rfl ?_
            refine x_getr 128 rfl fX10_10 dX10_count_125 (lyl0 hL) (lys0 hL) (by decide) (1) rfl ?_
            refine x_geti 131 rfl fX10_94 dX10_count_128 (lyl1 hL) (lys1 hL) (by decide) ?_
            refine x_reti dX10_count_131 rfl ?_
            subst c51
            first
              | exact ⟨s1, rfl⟩
              | exact ⟨s3, rfl⟩
              | exact ⟨s4, rfl⟩
              | exact ⟨s5, rfl⟩
              | exact ⟨s6, rfl⟩
              | exact ⟨s7, rfl⟩
              | exact ⟨s8, rfl⟩
              | exact ⟨rfl, rfl⟩
          refine x_tsC (1) 132 1 dX10_count_51 (by decide) (by decide) (by decide) rfl (by decide) (fun c51 => ?_) (fun c51_1 => ?_)
          · refine x_aload_n 133 rfl dX10_count_132 0 rfl rfl ?_
            refine x_getr 136 rfl fX10_10 dX10_count_133 (lyl0 hL) (lys0 hL) (by decide) (1) rfl ?_
            refine x_cVi 139 rfl lX10_128 dX10_count_136 (lyl1 hL) (lys1 hL) (c_X7_crewSize (ly_sh1 hL) hs hi) rfl rfl (Nat.le_of_ble_eq_true rfl) (fun r M1 hr1 => ?_)
            obtain ⟨hr2, hM1⟩ := hr1
            refine x_reti dX10_count_139 rfl ?_
            subst c51
            exact ⟨hr2, hM1⟩
          refine x_tsC (2) 140 2 dX10_count_51 (by decide) (by decide) (by decide) rfl (by decide) (fun c51 => ?_) (fun c51_2 => ?_)
          · refine x_aload_n 141 rfl dX10_count_140 0 rfl rfl ?_
            refine x_getr 144 rfl fX10_10 dX10_count_141 (lyl0 hL) (lys0 hL) (by decide) (1) rfl ?_
            refine x_geti 147 rfl fX10_143 dX10_count_144 (lyl1 hL) (lys1 hL) (by decide) ?_
            refine x_reti dX10_count_147 rfl ?_
            subst c51
            first
              | exact ⟨s1, rfl⟩
              | exact ⟨s3, rfl⟩
              | exact ⟨s4, rfl⟩
              | exact ⟨s5, rfl⟩
              | exact ⟨s6, rfl⟩
              | exact ⟨s7, rfl⟩
              | exact ⟨s8, rfl⟩
              | exact ⟨rfl, rfl⟩
          refine x_tsC (3) 148 3 dX10_count_51 (by decide) (by decide) (by decide) rfl (by decide) (fun c51 => ?_) (fun c51_3 => ?_)
          · refine x_aload_n 149 rfl dX10_count_148 0 rfl rfl ?_
            refine x_getr 152 rfl fX10_10 dX10_count_149 (lyl0 hL) (lys0 hL) (by decide) (1) rfl ?_
            refine x_geti 155 rfl fX10_268 dX10_count_152 (lyl1 hL) (lys1 hL) (by decide) ?_
            refine x_reti dX10_count_155 rfl ?_
            subst c51
            first
              | exact ⟨s1, rfl⟩
              | exact ⟨s3, rfl⟩
              | exact ⟨s4, rfl⟩
              | exact ⟨s5, rfl⟩
              | exact ⟨s6, rfl⟩
              | exact ⟨s7, rfl⟩
              | exact ⟨s8, rfl⟩
              | exact ⟨rfl, rfl⟩
          refine x_tsC (4) 156 4 dX10_count_51 (by decide) (by decide) (by decide) rfl (by decide) (fun c51 => ?_) (fun c51_4 => ?_)
          · refine x_aload_n 157 rfl dX10_count_156 0 rfl rfl ?_
            refine x_getr 160 rfl fX10_10 dX10_count_157 (lyl0 hL) (lys0 hL) (by decide) (1) rfl ?_
            refine x_geti 163 rfl fX10_189 dX10_count_160 (lyl1 hL) (lys1 hL) (by decide) ?_
            refine x_reti dX10_count_163 rfl ?_
            subst c51
            first
              | exact ⟨s1, rfl⟩
              | exact ⟨s3, rfl⟩
              | exact ⟨s4, rfl⟩
              | exact ⟨s5, rfl⟩
              | exact ⟨s6, rfl⟩
              | exact ⟨s7, rfl⟩
              | exact ⟨s8, rfl⟩
              | exact ⟨rfl, rfl⟩
          refine x_tsC (5) 164 5 dX10_count_51 (by decide) (by decide) (by decide) rfl (by decide) (fun c51 => ?_) (fun c51_5 => ?_)
          · refine x_aload_n 165 rfl dX10_count_164 0 rfl rfl ?_
            refine x_getr 168 rfl fX10_26 dX10_count_165 (lyl0 hL) (lys0 hL) (by decide) (24) rfl ?_
            refine x_geti 171 rfl fX10_296 dX10_count_168 (lyl24 hL) (lys24 hL) (by decide) ?_
            refine x_reti dX10_count_171 rfl ?_
            subst c51
            first
              | exact ⟨s1, rfl⟩
              | exact ⟨s3, rfl⟩
              | exact ⟨s4, rfl⟩
              | exact ⟨s5, rfl⟩
              | exact ⟨s6, rfl⟩
              | exact ⟨s7, rfl⟩
              | exact ⟨s8, rfl⟩
              | exact ⟨rfl, rfl⟩
          refine x_tsC (6) 172 6 dX10_count_51 (by decide) (by decide) (by decide) rfl (by decide) (fun c51 => ?_) (fun c51_6 => ?_)
          · refine x_aload_n 173 rfl dX10_count_172 0 rfl rfl ?_
            refine x_getr 176 rfl fX10_36 dX10_count_173 (lyl0 hL) (lys0 hL) (by decide) (30) rfl ?_
            refine x_geti 179 rfl fX10_173 dX10_count_176 (lyl30 hL) (lys30 hL) (by decide) ?_
            refine x_reti dX10_count_179 rfl ?_
            subst c51
            first
              | exact ⟨s1, rfl⟩
              | exact ⟨s3, rfl⟩
              | exact ⟨s4, rfl⟩
              | exact ⟨s5, rfl⟩
              | exact ⟨s6, rfl⟩
              | exact ⟨s7, rfl⟩
              | exact ⟨s8, rfl⟩
              | exact ⟨rfl, rfl⟩
          refine x_tsC (7) 180 7 dX10_count_51 (by decide) (by decide) (by decide) rfl (by decide) (fun c51 => ?_) (fun c51_7 => ?_)
          · refine x_aload_n 181 rfl dX10_count_180 0 rfl rfl ?_
            refine x_getr 184 rfl fX10_86 dX10_count_181 (lyl0 hL) (lys0 hL) (by decide) (54) rfl ?_
            refine x_iconst 185 rfl dX10_count_184 (by decide) ?_
            refine x_ialk 186 rfl dX10_count_185 (lyl54 hL) (lys54 hL) 1 rfl (by decide) ?_
            refine x_reti dX10_count_186 rfl ?_
            subst c51
            first
              | exact ⟨s1, rfl⟩
              | exact ⟨s3, rfl⟩
              | exact ⟨s4, rfl⟩
              | exact ⟨s5, rfl⟩
              | exact ⟨s6, rfl⟩
              | exact ⟨s7, rfl⟩
              | exact ⟨s8, rfl⟩
              | exact ⟨rfl, rfl⟩
          refine x_tsC (8) 187 8 dX10_count_51 (by decide) (by decide) (by decide) rfl (by decide) (fun c51 => ?_) (fun c51_8 => ?_)
          · refine x_aload_n 188 rfl dX10_count_187 0 rfl rfl ?_
            refine x_getr 191 rfl fX10_86 dX10_count_188 (lyl0 hL) (lys0 hL) (by decide) (54) rfl ?_
            refine x_iconst 192 rfl dX10_count_191 (by decide) ?_
            refine x_ialk 193 rfl dX10_count_192 (lyl54 hL) (lys54 hL) 2 rfl (by decide) ?_
            refine x_reti dX10_count_193 rfl ?_
            subst c51
            first
              | exact ⟨s1, rfl⟩
              | exact ⟨s3, rfl⟩
              | exact ⟨s4, rfl⟩
              | exact ⟨s5, rfl⟩
              | exact ⟨s6, rfl⟩
              | exact ⟨s7, rfl⟩
              | exact ⟨s8, rfl⟩
              | exact ⟨rfl, rfl⟩
          refine x_tsC (9) 194 9 dX10_count_51 (by decide) (by decide) (by decide) rfl (by decide) (fun c51 => ?_) (fun c51_9 => ?_)
          · refine x_aload_n 195 rfl dX10_count_194 0 rfl rfl ?_
            refine x_getr 198 rfl fX10_86 dX10_count_195 (lyl0 hL) (lys0 hL) (by decide) (54) rfl ?_
            refine x_iconst 199 rfl dX10_count_198 (by decide) ?_
            refine x_ialk 200 rfl dX10_count_199 (lyl54 hL) (lys54 hL) 3 rfl (by decide) ?_
            refine x_reti dX10_count_200 rfl ?_
            subst c51
            first
              | exact ⟨s1, rfl⟩
              | exact ⟨s3, rfl⟩
              | exact ⟨s4, rfl⟩
              | exact ⟨s5, rfl⟩
              | exact ⟨s6, rfl⟩
              | exact ⟨s7, rfl⟩
              | exact ⟨s8, rfl⟩
              | exact ⟨rfl, rfl⟩
          refine x_tsC (10) 201 10 dX10_count_51 (by decide) (by decide) (by decide) rfl (by decide) (fun c51 => ?_) (fun c51_10 => ?_)
          · refine x_aload_n 202 rfl dX10_count_201 0 rfl rfl ?_
            refine x_getr 205 rfl fX10_86 dX10_count_202 (lyl0 hL) (lys0 hL) (by decide) (54) rfl ?_
            refine x_iconst 206 rfl dX10_count_205 (by decide) ?_
            refine x_ialk 207 rfl dX10_count_206 (lyl54 hL) (lys54 hL) 5 rfl (by decide) ?_
            refine x_reti dX10_count_207 rfl ?_
            subst c51
            first
              | exact ⟨s1, rfl⟩
              | exact ⟨s3, rfl⟩
              | exact ⟨s4, rfl⟩
              | exact ⟨s5, rfl⟩
              | exact ⟨s6, rfl⟩
              | exact ⟨s7, rfl⟩
              | exact ⟨s8, rfl⟩
              | exact ⟨rfl, rfl⟩
          refine x_tsC (11) 208 11 dX10_count_51 (by decide) (by decide) (by decide) rfl (by decide) (fun c51 => ?_) (fun c51_11 => ?_)
          · refine x_aload_n 209 rfl dX10_count_208 0 rfl rfl ?_
            refine x_getr 212 rfl fX10_86 dX10_count_209 (lyl0 hL) (lys0 hL) (by decide) (54) rfl ?_
            refine x_bipush 214 rfl dX10_count_212 (by decide) ?_
            refine x_ialk 215 rfl dX10_count_214 (lyl54 hL) (lys54 hL) 6 rfl (by decide) ?_
            refine x_reti dX10_count_215 rfl ?_
            subst c51
            first
              | exact ⟨s1, rfl⟩
              | exact ⟨s3, rfl⟩
              | exact ⟨s4, rfl⟩
              | exact ⟨s5, rfl⟩
              | exact ⟨s6, rfl⟩
              | exact ⟨s7, rfl⟩
              | exact ⟨s8, rfl⟩
              | exact ⟨rfl, rfl⟩
          refine x_tsC (12) 216 12 dX10_count_51 (by decide) (by decide) (by decide) rfl (by decide) (fun c51 => ?_) (fun c51_12 => ?_)
          · refine x_aload_n 217 rfl dX10_count_216 0 rfl rfl ?_
            refine x_getr 220 rfl fX10_10 dX10_count_217 (lyl0 hL) (lys0 hL) (by decide) (1) rfl ?_
            refine x_geti 223 rfl fX10_222 dX10_count_220 (lyl1 hL) (lys1 hL) (by decide) ?_
            refine x_reti dX10_count_223 rfl ?_
            subst c51
            first
              | exact ⟨s1, rfl⟩
              | exact ⟨s3, rfl⟩
              | exact ⟨s4, rfl⟩
              | exact ⟨s5, rfl⟩
              | exact ⟨s6, rfl⟩
              | exact ⟨s7, rfl⟩
              | exact ⟨s8, rfl⟩
              | exact ⟨rfl, rfl⟩
          refine x_tsC (13) 224 13 dX10_count_51 (by decide) (by decide) (by decide) rfl (by decide) (fun c51 => ?_) (fun c51_13 => ?_)
          · refine x_aload_n 225 rfl dX10_count_224 0 rfl rfl ?_
            refine x_getr 228 rfl fX10_10 dX10_count_225 (lyl0 hL) (lys0 hL) (by decide) (1) rfl ?_
            refine x_geti 231 rfl fX10_293 dX10_count_228 (lyl1 hL) (lys1 hL) (by decide) ?_
            refine x_reti dX10_count_231 rfl ?_
            subst c51
            first
              | exact ⟨s1, rfl⟩
              | exact ⟨s3, rfl⟩
              | exact ⟨s4, rfl⟩
              | exact ⟨s5, rfl⟩
              | exact ⟨s6, rfl⟩
              | exact ⟨s7, rfl⟩
              | exact ⟨s8, rfl⟩
              | exact ⟨rfl, rfl⟩
          refine x_tsC (14) 232 14 dX10_count_51 (by decide) (by decide) (by decide) rfl (by decide) (fun c51 => ?_) (fun c51_14 => ?_)
          · refine x_aload_n 233 rfl dX10_count_232 0 rfl rfl ?_
            refine x_getr 236 rfl fX10_10 dX10_count_233 (lyl0 hL) (lys0 hL) (by decide) (1) rfl ?_
            refine x_geti 239 rfl fX10_297 dX10_count_236 (lyl1 hL) (lys1 hL) (by decide) ?_
            refine x_reti dX10_count_239 rfl ?_
            subst c51
            first
              | exact ⟨s1, rfl⟩
              | exact ⟨s3, rfl⟩
              | exact ⟨s4, rfl⟩
              | exact ⟨s5, rfl⟩
              | exact ⟨s6, rfl⟩
              | exact ⟨s7, rfl⟩
              | exact ⟨s8, rfl⟩
              | exact ⟨rfl, rfl⟩
          refine x_tsOut 240 dX10_count_51 (by omega) (by decide) ?_
          refine x_iconst 241 rfl dX10_count_240 (by decide) ?_
          refine x_reti dX10_count_241 rfl ?_
          exact ⟨by rw [zcount_n (by omega)], rfl⟩
        · refine x_aload_n 38 rfl dX10_count_37 0 rfl rfl ?_
          refine x_getr 41 rfl fX10_10 dX10_count_38 (lyl0 hL) (lys0 hL) (by decide) (1) rfl ?_
          refine x_getr 44 rfl fX10_163 dX10_count_41 (lyl1 hL) (lys1 hL) (by decide) (7) rfl ?_
          refine x_iload_n 45 rfl dX10_count_44 1 rfl rfl ?_
          refine x_bipush 47 rfl dX10_count_45 (by decide) ?_
          refine y_isub 48 rfl dX10_count_47 (by omega) ?_
          refine x_iald 49 rfl dX10_count_48 (lyl7 hL) (lys7 hL) (by omega) (by omega) ?_
          refine x_reti dX10_count_49 rfl ?_
          refine ⟨?_, rfl⟩
          rw [zcount_p (by omega), show (x - 18).toNat = x.toNat - 18 by omega]
          exact q6 _ (by omega)
    · refine x_aload_n 13 rfl dX10_count_12 0 rfl rfl ?_
      refine x_getr 16 rfl fX10_10 dX10_count_13 (lyl0 hL) (lys0 hL) (by decide) (1) rfl ?_
      refine x_getr 19 rfl fX10_170 dX10_count_16 (lyl1 hL) (lys1 hL) (by decide) (8) rfl ?_
      refine x_iload_n 20 rfl dX10_count_19 1 rfl rfl ?_
      refine x_bipush 22 rfl dX10_count_20 (by decide) ?_
      refine y_isub 23 rfl dX10_count_22 (by omega) ?_
      refine x_iald 24 rfl dX10_count_23 (lyl8 hL) (lys8 hL) (by omega) (by omega) ?_
      refine x_reti dX10_count_24 rfl ?_
      refine ⟨?_, rfl⟩
      have : x = 15 ∨ x = 16 ∨ x = 17 := by omega
      rcases this with rfl | rfl | rfl
      · exact s9
      · exact s10
      · exact s11
