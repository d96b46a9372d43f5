/-! THE LAW'S LOOP: its cases -/
def mL_law : zMt := (yL_law, cL_law, 4, some .boolean)
def lwQ : zQ := fun v _ _ _ => v = some (zi 1)
theorem zcount_congr {k f g : Nat → Int} {a b x : Int} (h : ∀ i, i < 7 → f i = g i) : zcount k a b f x = zcount k a b g x := by
  unfold zcount
  simp only [h 1 (by decide), h 2 (by decide), h 3 (by decide), h 5 (by decide), h 6 (by decide)]
theorem zdrawn_congr {a b x w : Int} {f g : Nat → Int} (ha : a ≤ 8) (hb : b ≤ 4) (h : ∀ j, j < 23 → g j = f j) : zdrawn a b f x w = zdrawn a b g x w := by
  unfold zdrawn
  rw [h 0 (by decide), h 2 (by decide)]
  by_cases h1 : 0 ≤ x ∧ x < b
  · rw [h (19 + x.toNat) (by omega)]
    by_cases h2 : 0 ≤ x ∧ x < a
    · rw [h (3 + x.toNat) (by omega)]
    · simp only [if_neg h2]
  · simp only [if_neg h1]
    by_cases h2 : 0 ≤ x ∧ x < a
    · rw [h (3 + x.toNat) (by omega)]
    · simp only [if_neg h2]

set_option maxRecDepth 100000 in
set_option maxHeartbeats 4000000 in
theorem lw_c_sign {sc : List Int} (hsc : sc ≠ []) (hlen : sc.length ≤ 3073) {i : Int} (hi0 : 0 ≤ i) (hi6 : i + 6 ≤ ((sc.length - 1 : Nat) : Int)) {c : Int} (hc : c ≤ 1000) {kc ks : Nat} {S : zSh} {sz : Nat} {M : zMem} (h : IV c S sz M) (K : ∀ (S' : zSh) (sz' : Nat) (M' : zMem), IV (c + 1) S' sz' M' → zW mL_law 61 kc ks sc lwQ 1171 [some (zr (-2)), some (zn 0), some (zn 55), some (zi i)] [] sz' S' M') : zW mL_law 61 (kc + 11) (ks + 464) sc lwQ 196 [some (zr (-2)), some (zn 0), some (zn 55), some (zi i)] [] sz S M := by
  have hL := h.1
  have hs := h.2.1
  have hk := h.2.2.1
  have h54 := IV_54 h hc
  have ba1 : -2147483648 ≤ i + 1 ∧ i + 1 ≤ 2147483647 := by omega
  have ba2 : -2147483648 ≤ i + 2 ∧ i + 2 ≤ 2147483647 := by omega
  have ba3 : -2147483648 ≤ i + 3 ∧ i + 3 ≤ 2147483647 := by omega
  have ba4 : -2147483648 ≤ i + 4 ∧ i + 4 ≤ 2147483647 := by omega
  have ba5 : -2147483648 ≤ i + 5 ∧ i + 5 ≤ 2147483647 := by omega
  have bb1 : 0 ≤ i + 1 ∧ i + 1 < ((sc.length - 1 : Nat) : Int) := by omega
  have bb2 : 0 ≤ i + 2 ∧ i + 2 < ((sc.length - 1 : Nat) : Int) := by omega
  have bb3 : 0 ≤ i + 3 ∧ i + 3 < ((sc.length - 1 : Nat) : Int) := by omega
  have bb4 : 0 ≤ i + 4 ∧ i + 4 < ((sc.length - 1 : Nat) : Int) := by omega
  have bb5 : 0 ≤ i + 5 ∧ i + 5 < ((sc.length - 1 : Nat) : Int) := by omega
  have hx := h.2.2.2.2.2.2.2.2.2.2
  refine zW_room (kc' := kc) (ks' := ks) (by omega) (by omega) ?_
  refine x_aload_n 197 rfl dL_law_196 1 rfl rfl ?_
  refine x_aload_n 198 rfl dL_law_197 0 rfl rfl ?_
  refine x_iload_n 199 rfl dL_law_198 3 rfl rfl ?_
  refine x_iconst 200 rfl dL_law_199 (by decide) ?_
  refine y_iadd 201 rfl dL_law_200 ba1 ?_
  refine x_sld 202 rfl dL_law_201 hsc bb1.1 bb1.2 ?_
  refine x_aload_n 203 rfl dL_law_202 0 rfl rfl ?_
  refine x_iload_n 204 rfl dL_law_203 3 rfl rfl ?_
  refine x_iconst 205 rfl dL_law_204 (by decide) ?_
  refine y_iadd 206 rfl dL_law_205 ba2 ?_
  refine x_sld 207 rfl dL_law_206 hsc bb2.1 bb2.2 ?_
  refine x_cVi 210 rfl lL_13 dL_law_207 (lyl0 hL) (lys0 hL) (c_X10_sign hL h54 hs hk) rfl rfl (Nat.le_of_ble_eq_true rfl) (fun r1 M1 h1 => ?_)
  have e1 : rS M M1 := by
    rcases h1 with ⟨-, -, e⟩ | ⟨-, -, -, e⟩ | ⟨-, -, -, e⟩
    · exact rS_ref e
    · exact rS_ref e
    · exact rS_ok e
  obtain ⟨q1, q2, q3, q4, q5, q6, q7, q8⟩ := IV_rd h hc e1
  refine x_aload_n 211 rfl dL_law_210 2 rfl rfl ?_
  refine x_aload_n 212 rfl dL_law_211 0 rfl rfl ?_
  refine x_iload_n 213 rfl dL_law_212 3 rfl rfl ?_
  refine x_iconst 214 rfl dL_law_213 (by decide) ?_
  refine y_iadd 215 rfl dL_law_214 ba1 ?_
  refine x_sld 216 rfl dL_law_215 hsc bb1.1 bb1.2 ?_
  refine x_aload_n 217 rfl dL_law_216 0 rfl rfl ?_
  refine x_iload_n 218 rfl dL_law_217 3 rfl rfl ?_
  refine x_iconst 219 rfl dL_law_218 (by decide) ?_
  refine y_iadd 220 rfl dL_law_219 ba2 ?_
  refine x_sld 221 rfl dL_law_220 hsc bb2.1 bb2.2 ?_
  refine x_cVi 224 rfl lL_17 dL_law_221 (lyl55 hL) (lys55 hL) (c_X11_sign hL q1 q2) rfl rfl (Nat.le_of_ble_eq_true rfl) (fun r2 M2 h2 => ?_)
  obtain ⟨hr, hI⟩ := iv_sign h h1 (e1 57 (by decide) (by decide)) h2
  refine x_icmp_eq 227 1171 rfl dL_law_224 (by decide) (fun c224 => ?_) (fun c224 => ?_)
  · exact K _ _ _ hI
  · first | exact absurd hr c224 | exact absurd hr.symm c224

set_option maxRecDepth 100000 in
set_option maxHeartbeats 4000000 in
theorem lw_c_of {sc : List Int} (hsc : sc ≠ []) (hlen : sc.length ≤ 3073) {i : Int} (hi0 : 0 ≤ i) (hi6 : i + 6 ≤ ((sc.length - 1 : Nat) : Int)) {c : Int} (hc : c ≤ 1000) {kc ks : Nat} {S : zSh} {sz : Nat} {M : zMem} (h : IV c S sz M) (K : ∀ (S' : zSh) (sz' : Nat) (M' : zMem), IV (c + 1) S' sz' M' → zW mL_law 61 kc ks sc lwQ 1171 [some (zr (-2)), some (zn 0), some (zn 55), some (zi i)] [] sz' S' M') : zW mL_law 61 (kc + 11) (ks + 464) sc lwQ 229 [some (zr (-2)), some (zn 0), some (zn 55), some (zi i)] [] sz S M := by
  have hL := h.1
  have hs := h.2.1
  have hk := h.2.2.1
  have h54 := IV_54 h hc
  have ba1 : -2147483648 ≤ i + 1 ∧ i + 1 ≤ 2147483647 := by omega
  have ba2 : -2147483648 ≤ i + 2 ∧ i + 2 ≤ 2147483647 := by omega
  have ba3 : -2147483648 ≤ i + 3 ∧ i + 3 ≤ 2147483647 := by omega
  have ba4 : -2147483648 ≤ i + 4 ∧ i + 4 ≤ 2147483647 := by omega
  have ba5 : -2147483648 ≤ i + 5 ∧ i + 5 ≤ 2147483647 := by omega
  have bb1 : 0 ≤ i + 1 ∧ i + 1 < ((sc.length - 1 : Nat) : Int) := by omega
  have bb2 : 0 ≤ i + 2 ∧ i + 2 < ((sc.length - 1 : Nat) : Int) := by omega
  have bb3 : 0 ≤ i + 3 ∧ i + 3 < ((sc.length - 1 : Nat) : Int) := by omega
  have bb4 : 0 ≤ i + 4 ∧ i + 4 < ((sc.length - 1 : Nat) : Int) := by omega
  have bb5 : 0 ≤ i + 5 ∧ i + 5 < ((sc.length - 1 : Nat) : Int) := by omega
  have hx := h.2.2.2.2.2.2.2.2.2.2
  obtain ⟨Lw, hLc, hLi⟩ := LA_Lw hk h.2.2.2.2.2.2.2.1
  refine zW_room (kc' := kc) (ks' := ks) (by omega) (by omega) ?_
  refine x_aload_n 230 rfl dL_law_229 1 rfl rfl ?_
  refine x_aload_n 231 rfl dL_law_230 0 rfl rfl ?_
  refine x_iload_n 232 rfl dL_law_231 3 rfl rfl ?_
  refine x_iconst 233 rfl dL_law_232 (by decide) ?_
  refine y_iadd 234 rfl dL_law_233 ba1 ?_
  refine x_sld 235 rfl dL_law_234 hsc bb1.1 bb1.2 ?_
  refine x_aload_n 236 rfl dL_law_235 0 rfl rfl ?_
  refine x_iload_n 237 rfl dL_law_236 3 rfl rfl ?_
  refine x_iconst 238 rfl dL_law_237 (by decide) ?_
  refine y_iadd 239 rfl dL_law_238 ba2 ?_
  refine x_sld 240 rfl dL_law_239 hsc bb2.1 bb2.2 ?_
  refine x_cVi 243 rfl lL_18 dL_law_240 (lyl0 hL) (lys0 hL) (c_X10_of hL hs hk hLc hx.1) rfl rfl (Nat.le_of_ble_eq_true rfl) (fun r1 M1 h1 => ?_)
  have e1 := rS_jF h1.2
  obtain ⟨q1, q2, q3, q4, q5, q6, q7, q8⟩ := IV_rd h hc e1
  refine x_aload_n 244 rfl dL_law_243 2 rfl rfl ?_
  refine x_aload_n 245 rfl dL_law_244 0 rfl rfl ?_
  refine x_iload_n 246 rfl dL_law_245 3 rfl rfl ?_
  refine x_iconst 247 rfl dL_law_246 (by decide) ?_
  refine y_iadd 248 rfl dL_law_247 ba1 ?_
  refine x_sld 249 rfl dL_law_248 hsc bb1.1 bb1.2 ?_
  refine x_aload_n 250 rfl dL_law_249 0 rfl rfl ?_
  refine x_iload_n 251 rfl dL_law_250 3 rfl rfl ?_
  refine x_iconst 252 rfl dL_law_251 (by decide) ?_
  refine y_iadd 253 rfl dL_law_252 ba2 ?_
  refine x_sld 254 rfl dL_law_253 hsc bb2.1 bb2.2 ?_
  refine x_cVi 257 rfl lL_21 dL_law_254 (lyl55 hL) (lys55 hL) (c_X11_of hL q1 (by rw [e1 57 (by decide) (by decide)]; exact hLi)) rfl rfl (Nat.le_of_ble_eq_true rfl) (fun r2 M2 h2 => ?_)
  have hr : r1 = r2 := by rw [h1.1, h2.1, e1 57 (by decide) (by decide)]
  have hI := iv_pure h (cK_jF h h1.2) (rK_mF q5 h2.2)
  refine x_icmp_eq 260 1171 rfl dL_law_257 (by decide) (fun c257 => ?_) (fun c257 => ?_)
  · exact K _ _ _ hI
  · first | exact absurd hr c257 | exact absurd hr.symm c257

set_option maxRecDepth 100000 in
set_option maxHeartbeats 4000000 in
theorem lw_c_ground {sc : List Int} (hsc : sc ≠ []) (hlen : sc.length ≤ 3073) {i : Int} (hi0 : 0 ≤ i) (hi6 : i + 6 ≤ ((sc.length - 1 : Nat) : Int)) {c : Int} (hc : c ≤ 1000) {kc ks : Nat} {S : zSh} {sz : Nat} {M : zMem} (h : IV c S sz M) (K : ∀ (S' : zSh) (sz' : Nat) (M' : zMem), IV (c + 1) S' sz' M' → zW mL_law 61 kc ks sc lwQ 1171 [some (zr (-2)), some (zn 0), some (zn 55), some (zi i)] [] sz' S' M') : zW mL_law 61 (kc + 11) (ks + 464) sc lwQ 262 [some (zr (-2)), some (zn 0), some (zn 55), some (zi i)] [] sz S M := by
  have hL := h.1
  have hs := h.2.1
  have hk := h.2.2.1
  have h54 := IV_54 h hc
  have ba1 : -2147483648 ≤ i + 1 ∧ i + 1 ≤ 2147483647 := by omega
  have ba2 : -2147483648 ≤ i + 2 ∧ i + 2 ≤ 2147483647 := by omega
  have ba3 : -2147483648 ≤ i + 3 ∧ i + 3 ≤ 2147483647 := by omega
  have ba4 : -2147483648 ≤ i + 4 ∧ i + 4 ≤ 2147483647 := by omega
  have ba5 : -2147483648 ≤ i + 5 ∧ i + 5 ≤ 2147483647 := by omega
  have bb1 : 0 ≤ i + 1 ∧ i + 1 < ((sc.length - 1 : Nat) : Int) := by omega
  have bb2 : 0 ≤ i + 2 ∧ i + 2 < ((sc.length - 1 : Nat) : Int) := by omega
  have bb3 : 0 ≤ i + 3 ∧ i + 3 < ((sc.length - 1 : Nat) : Int) := by omega
  have bb4 : 0 ≤ i + 4 ∧ i + 4 < ((sc.length - 1 : Nat) : Int) := by omega
  have bb5 : 0 ≤ i + 5 ∧ i + 5 < ((sc.length - 1 : Nat) : Int) := by omega
  have hx := h.2.2.2.2.2.2.2.2.2.2
  refine zW_room (kc' := kc) (ks' := ks) (by omega) (by omega) ?_
  refine x_aload_n 263 rfl dL_law_262 1 rfl rfl ?_
  refine x_aload_n 264 rfl dL_law_263 0 rfl rfl ?_
  refine x_iload_n 265 rfl dL_law_264 3 rfl rfl ?_
  refine x_iconst 266 rfl dL_law_265 (by decide) ?_
  refine y_iadd 267 rfl dL_law_266 ba1 ?_
  refine x_sld 268 rfl dL_law_267 hsc bb1.1 bb1.2 ?_
  refine x_aload_n 269 rfl dL_law_268 0 rfl rfl ?_
  refine x_iload_n 270 rfl dL_law_269 3 rfl rfl ?_
  refine x_iconst 271 rfl dL_law_270 (by decide) ?_
  refine y_iadd 272 rfl dL_law_271 ba2 ?_
  refine x_sld 273 rfl dL_law_272 hsc bb2.1 bb2.2 ?_
  refine x_aload_n 274 rfl dL_law_273 0 rfl rfl ?_
  refine x_iload_n 275 rfl dL_law_274 3 rfl rfl ?_
  refine x_iconst 276 rfl dL_law_275 (by decide) ?_
  refine y_iadd 277 rfl dL_law_276 ba3 ?_
  refine x_sld 278 rfl dL_law_277 hsc bb3.1 bb3.2 ?_
  refine x_aload_n 279 rfl dL_law_278 0 rfl rfl ?_
  refine x_iload_n 280 rfl dL_law_279 3 rfl rfl ?_
  refine x_iconst 281 rfl dL_law_280 (by decide) ?_
  refine y_iadd 282 rfl dL_law_281 ba4 ?_
  refine x_sld 283 rfl dL_law_282 hsc bb4.1 bb4.2 ?_
  refine x_cVi 286 rfl lL_22 dL_law_283 (lyl0 hL) (lys0 hL) (c_X10_ground hL h54 hs hk) rfl rfl (Nat.le_of_ble_eq_true rfl) (fun r1 M1 h1 => ?_)
  have e1 : rS M M1 := by
    rcases h1 with ⟨-, -, e⟩ | ⟨-, -, -, e⟩ | ⟨-, -, -, e⟩
    · exact rS_ref e
    · exact rS_ref e
    · exact rS_ok e
  obtain ⟨q1, q2, q3, q4, q5, q6, q7, q8⟩ := IV_rd h hc e1
  refine x_aload_n 287 rfl dL_law_286 2 rfl rfl ?_
  refine x_aload_n 288 rfl dL_law_287 0 rfl rfl ?_
  refine x_iload_n 289 rfl dL_law_288 3 rfl rfl ?_
  refine x_iconst 290 rfl dL_law_289 (by decide) ?_
  refine y_iadd 291 rfl dL_law_290 ba1 ?_
  refine x_sld 292 rfl dL_law_291 hsc bb1.1 bb1.2 ?_
  refine x_aload_n 293 rfl dL_law_292 0 rfl rfl ?_
  refine x_iload_n 294 rfl dL_law_293 3 rfl rfl ?_
  refine x_iconst 295 rfl dL_law_294 (by decide) ?_
  refine y_iadd 296 rfl dL_law_295 ba2 ?_
  refine x_sld 297 rfl dL_law_296 hsc bb2.1 bb2.2 ?_
  refine x_aload_n 298 rfl dL_law_297 0 rfl rfl ?_
  refine x_iload_n 299 rfl dL_law_298 3 rfl rfl ?_
  refine x_iconst 300 rfl dL_law_299 (by decide) ?_
  refine y_iadd 301 rfl dL_law_300 ba3 ?_
  refine x_sld 302 rfl dL_law_301 hsc bb3.1 bb3.2 ?_
  refine x_aload_n 303 rfl dL_law_302 0 rfl rfl ?_
  refine x_iload_n 304 rfl dL_law_303 3 rfl rfl ?_
  refine x_iconst 305 rfl dL_law_304 (by decide) ?_
  refine y_iadd 306 rfl dL_law_305 ba4 ?_
  refine x_sld 307 rfl dL_law_306 hsc bb4.1 bb4.2 ?_
  refine x_cVi 310 rfl lL_26 dL_law_307 (lyl55 hL) (lys55 hL) (c_X11_ground hL q1 q2) rfl rfl (Nat.le_of_ble_eq_true rfl) (fun r2 M2 h2 => ?_)
  obtain ⟨hr, hI⟩ := iv_ground h h1 (e1 57 (by decide) (by decide)) h2
  refine x_icmp_eq 313 1171 rfl dL_law_310 (by decide) (fun c310 => ?_) (fun c310 => ?_)
  · exact K _ _ _ hI
  · first | exact absurd hr c310 | exact absurd hr.symm c310

set_option maxRecDepth 100000 in
set_option maxHeartbeats 4000000 in
theorem lw_c_at {sc : List Int} (hsc : sc ≠ []) (hlen : sc.length ≤ 3073) {i : Int} (hi0 : 0 ≤ i) (hi6 : i + 6 ≤ ((sc.length - 1 : Nat) : Int)) {c : Int} (hc : c ≤ 1000) {kc ks : Nat} {S : zSh} {sz : Nat} {M : zMem} (h : IV c S sz M) (K : ∀ (S' : zSh) (sz' : Nat) (M' : zMem), IV (c + 1) S' sz' M' → zW mL_law 61 kc ks sc lwQ 1171 [some (zr (-2)), some (zn 0), some (zn 55), some (zi i)] [] sz' S' M') : zW mL_law 61 (kc + 11) (ks + 464) sc lwQ 315 [some (zr (-2)), some (zn 0), some (zn 55), some (zi i)] [] sz S M := by
  have hL := h.1
  have hs := h.2.1
  have hk := h.2.2.1
  have h54 := IV_54 h hc
  have ba1 : -2147483648 ≤ i + 1 ∧ i + 1 ≤ 2147483647 := by omega
  have ba2 : -2147483648 ≤ i + 2 ∧ i + 2 ≤ 2147483647 := by omega
  have ba3 : -2147483648 ≤ i + 3 ∧ i + 3 ≤ 2147483647 := by omega
  have ba4 : -2147483648 ≤ i + 4 ∧ i + 4 ≤ 2147483647 := by omega
  have ba5 : -2147483648 ≤ i + 5 ∧ i + 5 ≤ 2147483647 := by omega
  have bb1 : 0 ≤ i + 1 ∧ i + 1 < ((sc.length - 1 : Nat) : Int) := by omega
  have bb2 : 0 ≤ i + 2 ∧ i + 2 < ((sc.length - 1 : Nat) : Int) := by omega
  have bb3 : 0 ≤ i + 3 ∧ i + 3 < ((sc.length - 1 : Nat) : Int) := by omega
  have bb4 : 0 ≤ i + 4 ∧ i + 4 < ((sc.length - 1 : Nat) : Int) := by omega
  have bb5 : 0 ≤ i + 5 ∧ i + 5 < ((sc.length - 1 : Nat) : Int) := by omega
  have hx := h.2.2.2.2.2.2.2.2.2.2
  obtain ⟨Lw, hLc, hLi⟩ := LA_Lw hk h.2.2.2.2.2.2.2.1
  refine zW_room (kc' := kc) (ks' := ks) (by omega) (by omega) ?_
  refine x_aload_n 316 rfl dL_law_315 1 rfl rfl ?_
  refine x_aload_n 317 rfl dL_law_316 0 rfl rfl ?_
  refine x_iload_n 318 rfl dL_law_317 3 rfl rfl ?_
  refine x_iconst 319 rfl dL_law_318 (by decide) ?_
  refine y_iadd 320 rfl dL_law_319 ba1 ?_
  refine x_sld 321 rfl dL_law_320 hsc bb1.1 bb1.2 ?_
  refine x_aload_n 322 rfl dL_law_321 0 rfl rfl ?_
  refine x_iload_n 323 rfl dL_law_322 3 rfl rfl ?_
  refine x_iconst 324 rfl dL_law_323 (by decide) ?_
  refine y_iadd 325 rfl dL_law_324 ba2 ?_
  refine x_sld 326 rfl dL_law_325 hsc bb2.1 bb2.2 ?_
  refine x_cVi 329 rfl lL_27 dL_law_326 (lyl0 hL) (lys0 hL) (c_X10_at hL hs hk hLc hx.1) rfl rfl (Nat.le_of_ble_eq_true rfl) (fun r1 M1 h1 => ?_)
  have e1 := rS_jF h1.2
  obtain ⟨q1, q2, q3, q4, q5, q6, q7, q8⟩ := IV_rd h hc e1
  refine x_aload_n 330 rfl dL_law_329 2 rfl rfl ?_
  refine x_aload_n 331 rfl dL_law_330 0 rfl rfl ?_
  refine x_iload_n 332 rfl dL_law_331 3 rfl rfl ?_
  refine x_iconst 333 rfl dL_law_332 (by decide) ?_
  refine y_iadd 334 rfl dL_law_333 ba1 ?_
  refine x_sld 335 rfl dL_law_334 hsc bb1.1 bb1.2 ?_
  refine x_aload_n 336 rfl dL_law_335 0 rfl rfl ?_
  refine x_iload_n 337 rfl dL_law_336 3 rfl rfl ?_
  refine x_iconst 338 rfl dL_law_337 (by decide) ?_
  refine y_iadd 339 rfl dL_law_338 ba2 ?_
  refine x_sld 340 rfl dL_law_339 hsc bb2.1 bb2.2 ?_
  refine x_cVi 343 rfl lL_30 dL_law_340 (lyl55 hL) (lys55 hL) (c_X11_at hL q1 (by rw [e1 57 (by decide) (by decide)]; exact hLi)) rfl rfl (Nat.le_of_ble_eq_true rfl) (fun r2 M2 h2 => ?_)
  have hr : r1 = r2 := by rw [h1.1, h2.1, e1 57 (by decide) (by decide)]
  have hI := iv_pure h (cK_jF h h1.2) (rK_mF q5 h2.2)
  refine x_icmp_eq 346 1171 rfl dL_law_343 (by decide) (fun c343 => ?_) (fun c343 => ?_)
  · exact K _ _ _ hI
  · first | exact absurd hr c343 | exact absurd hr.symm c343

set_option maxRecDepth 100000 in
set_option maxHeartbeats 4000000 in
theorem lw_c_price {sc : List Int} (hsc : sc ≠ []) (hlen : sc.length ≤ 3073) {i : Int} (hi0 : 0 ≤ i) (hi6 : i + 6 ≤ ((sc.length - 1 : Nat) : Int)) {c : Int} (hc : c ≤ 1000) {kc ks : Nat} {S : zSh} {sz : Nat} {M : zMem} (h : IV c S sz M) (K : ∀ (S' : zSh) (sz' : Nat) (M' : zMem), IV (c + 1) S' sz' M' → zW mL_law 61 kc ks sc lwQ 1171 [some (zr (-2)), some (zn 0), some (zn 55), some (zi i)] [] sz' S' M') : zW mL_law 61 (kc + 11) (ks + 464) sc lwQ 348 [some (zr (-2)), some (zn 0), some (zn 55), some (zi i)] [] sz S M := by
  have hL := h.1
  have hs := h.2.1
  have hk := h.2.2.1
  have h54 := IV_54 h hc
  have ba1 : -2147483648 ≤ i + 1 ∧ i + 1 ≤ 2147483647 := by omega
  have ba2 : -2147483648 ≤ i + 2 ∧ i + 2 ≤ 2147483647 := by omega
  have ba3 : -2147483648 ≤ i + 3 ∧ i + 3 ≤ 2147483647 := by omega
  have ba4 : -2147483648 ≤ i + 4 ∧ i + 4 ≤ 2147483647 := by omega
  have ba5 : -2147483648 ≤ i + 5 ∧ i + 5 ≤ 2147483647 := by omega
  have bb1 : 0 ≤ i + 1 ∧ i + 1 < ((sc.length - 1 : Nat) : Int) := by omega
  have bb2 : 0 ≤ i + 2 ∧ i + 2 < ((sc.length - 1 : Nat) : Int) := by omega
  have bb3 : 0 ≤ i + 3 ∧ i + 3 < ((sc.length - 1 : Nat) : Int) := by omega
  have bb4 : 0 ≤ i + 4 ∧ i + 4 < ((sc.length - 1 : Nat) : Int) := by omega
  have bb5 : 0 ≤ i + 5 ∧ i + 5 < ((sc.length - 1 : Nat) : Int) := by omega
  have hx := h.2.2.2.2.2.2.2.2.2.2
  refine zW_room (kc' := kc) (ks' := ks) (by omega) (by omega) ?_
  refine x_aload_n 349 rfl dL_law_348 1 rfl rfl ?_
  refine x_aload_n 350 rfl dL_law_349 0 rfl rfl ?_
  refine x_iload_n 351 rfl dL_law_350 3 rfl rfl ?_
  refine x_iconst 352 rfl dL_law_351 (by decide) ?_
  refine y_iadd 353 rfl dL_law_352 ba1 ?_
  refine x_sld 354 rfl dL_law_353 hsc bb1.1 bb1.2 ?_
  refine x_aload_n 355 rfl dL_law_354 0 rfl rfl ?_
  refine x_iload_n 356 rfl dL_law_355 3 rfl rfl ?_
  refine x_iconst 357 rfl dL_law_356 (by decide) ?_
  refine y_iadd 358 rfl dL_law_357 ba2 ?_
  refine x_sld 359 rfl dL_law_358 hsc bb2.1 bb2.2 ?_
  refine x_cVi 362 rfl lL_31 dL_law_359 (lyl0 hL) (lys0 hL) (c_X10_price hL h54 hs hk) rfl rfl (Nat.le_of_ble_eq_true rfl) (fun r1 M1 h1 => ?_)
  have e1 : rS M M1 := by
    rcases h1 with ⟨-, -, e⟩ | ⟨-, -, e⟩
    · exact rS_ref e
    · exact rS_ok e
  obtain ⟨q1, q2, q3, q4, q5, q6, q7, q8⟩ := IV_rd h hc e1
  refine x_aload_n 363 rfl dL_law_362 2 rfl rfl ?_
  refine x_aload_n 364 rfl dL_law_363 0 rfl rfl ?_
  refine x_iload_n 365 rfl dL_law_364 3 rfl rfl ?_
  refine x_iconst 366 rfl dL_law_365 (by decide) ?_
  refine y_iadd 367 rfl dL_law_366 ba1 ?_
  refine x_sld 368 rfl dL_law_367 hsc bb1.1 bb1.2 ?_
  refine x_aload_n 369 rfl dL_law_368 0 rfl rfl ?_
  refine x_iload_n 370 rfl dL_law_369 3 rfl rfl ?_
  refine x_iconst 371 rfl dL_law_370 (by decide) ?_
  refine y_iadd 372 rfl dL_law_371 ba2 ?_
  refine x_sld 373 rfl dL_law_372 hsc bb2.1 bb2.2 ?_
  refine x_cVi 376 rfl lL_34 dL_law_373 (lyl55 hL) (lys55 hL) (c_X11_price hL q1 q2) rfl rfl (Nat.le_of_ble_eq_true rfl) (fun r2 M2 h2 => ?_)
  obtain ⟨hr, hI⟩ := iv_price h h1 (e1 57 (by decide) (by decide)) h2
  refine x_icmp_eq 379 1171 rfl dL_law_376 (by decide) (fun c376 => ?_) (fun c376 => ?_)
  · exact K _ _ _ hI
  · first | exact absurd hr c376 | exact absurd hr.symm c376

set_option maxRecDepth 100000 in
set_option maxHeartbeats 4000000 in
theorem lw_c_terms {sc : List Int} (hsc : sc ≠ []) (hlen : sc.length ≤ 3073) {i : Int} (hi0 : 0 ≤ i) (hi6 : i + 6 ≤ ((sc.length - 1 : Nat) : Int)) {c : Int} (hc : c ≤ 1000) {kc ks : Nat} {S : zSh} {sz : Nat} {M : zMem} (h : IV c S sz M) (K : ∀ (S' : zSh) (sz' : Nat) (M' : zMem), IV (c + 1) S' sz' M' → zW mL_law 61 kc ks sc lwQ 1171 [some (zr (-2)), some (zn 0), some (zn 55), some (zi i)] [] sz' S' M') : zW mL_law 61 (kc + 11) (ks + 464) sc lwQ 381 [some (zr (-2)), some (zn 0), some (zn 55), some (zi i)] [] sz S M := by
  have hL := h.1
  have hs := h.2.1
  have hk := h.2.2.1
  have h54 := IV_54 h hc
  have ba1 : -2147483648 ≤ i + 1 ∧ i + 1 ≤ 2147483647 := by omega
  have ba2 : -2147483648 ≤ i + 2 ∧ i + 2 ≤ 2147483647 := by omega
  have ba3 : -2147483648 ≤ i + 3 ∧ i + 3 ≤ 2147483647 := by omega
  have ba4 : -2147483648 ≤ i + 4 ∧ i + 4 ≤ 2147483647 := by omega
  have ba5 : -2147483648 ≤ i + 5 ∧ i + 5 ≤ 2147483647 := by omega
  have bb1 : 0 ≤ i + 1 ∧ i + 1 < ((sc.length - 1 : Nat) : Int) := by omega
  have bb2 : 0 ≤ i + 2 ∧ i + 2 < ((sc.length - 1 : Nat) : Int) := by omega
  have bb3 : 0 ≤ i + 3 ∧ i + 3 < ((sc.length - 1 : Nat) : Int) := by omega
  have bb4 : 0 ≤ i + 4 ∧ i + 4 < ((sc.length - 1 : Nat) : Int) := by omega
  have bb5 : 0 ≤ i + 5 ∧ i + 5 < ((sc.length - 1 : Nat) : Int) := by omega
  have hx := h.2.2.2.2.2.2.2.2.2.2
  refine zW_room (kc' := kc) (ks' := ks) (by omega) (by omega) ?_
  refine x_aload_n 382 rfl dL_law_381 1 rfl rfl ?_
  refine x_aload_n 383 rfl dL_law_382 0 rfl rfl ?_
  refine x_iload_n 384 rfl dL_law_383 3 rfl rfl ?_
  refine x_iconst 385 rfl dL_law_384 (by decide) ?_
  refine y_iadd 386 rfl dL_law_385 ba1 ?_
  refine x_sld 387 rfl dL_law_386 hsc bb1.1 bb1.2 ?_
  refine x_aload_n 388 rfl dL_law_387 0 rfl rfl ?_
  refine x_iload_n 389 rfl dL_law_388 3 rfl rfl ?_
  refine x_iconst 390 rfl dL_law_389 (by decide) ?_
  refine y_iadd 391 rfl dL_law_390 ba2 ?_
  refine x_sld 392 rfl dL_law_391 hsc bb2.1 bb2.2 ?_
  refine x_cVi 395 rfl lL_35 dL_law_392 (lyl0 hL) (lys0 hL) (c_X10_terms hL h54 hs hk) rfl rfl (Nat.le_of_ble_eq_true rfl) (fun r1 M1 h1 => ?_)
  have e1 : rS M M1 := by
    rcases h1 with ⟨-, -, e⟩ | ⟨-, -, e⟩
    · exact rS_ref e
    · exact rS_ok e
  obtain ⟨q1, q2, q3, q4, q5, q6, q7, q8⟩ := IV_rd h hc e1
  refine x_aload_n 396 rfl dL_law_395 2 rfl rfl ?_
  refine x_aload_n 397 rfl dL_law_396 0 rfl rfl ?_
  refine x_iload_n 398 rfl dL_law_397 3 rfl rfl ?_
  refine x_iconst 399 rfl dL_law_398 (by decide) ?_
  refine y_iadd 400 rfl dL_law_399 ba1 ?_
  refine x_sld 401 rfl dL_law_400 hsc bb1.1 bb1.2 ?_
  refine x_aload_n 402 rfl dL_law_401 0 rfl rfl ?_
  refine x_iload_n 403 rfl dL_law_402 3 rfl rfl ?_
  refine x_iconst 404 rfl dL_law_403 (by decide) ?_
  refine y_iadd 405 rfl dL_law_404 ba2 ?_
  refine x_sld 406 rfl dL_law_405 hsc bb2.1 bb2.2 ?_
  refine x_cVi 409 rfl lL_38 dL_law_406 (lyl55 hL) (lys55 hL) (c_X11_terms hL q1 q2) rfl rfl (Nat.le_of_ble_eq_true rfl) (fun r2 M2 h2 => ?_)
  obtain ⟨hr, hI⟩ := iv_terms h h1 (e1 57 (by decide) (by decide)) h2
  refine x_icmp_eq 412 1171 rfl dL_law_409 (by decide) (fun c409 => ?_) (fun c409 => ?_)
  · exact K _ _ _ hI
  · first | exact absurd hr c409 | exact absurd hr.symm c409

set_option maxRecDepth 100000 in
set_option maxHeartbeats 4000000 in
theorem lw_c_feed {sc : List Int} (hsc : sc ≠ []) (hlen : sc.length ≤ 3073) {i : Int} (hi0 : 0 ≤ i) (hi6 : i + 6 ≤ ((sc.length - 1 : Nat) : Int)) {c : Int} (hc : c ≤ 1000) {kc ks : Nat} {S : zSh} {sz : Nat} {M : zMem} (h : IV c S sz M) (K : ∀ (S' : zSh) (sz' : Nat) (M' : zMem), IV (c + 1) S' sz' M' → zW mL_law 61 kc ks sc lwQ 1171 [some (zr (-2)), some (zn 0), some (zn 55), some (zi i)] [] sz' S' M') : zW mL_law 61 (kc + 11) (ks + 464) sc lwQ 414 [some (zr (-2)), some (zn 0), some (zn 55), some (zi i)] [] sz S M := by
  have hL := h.1
  have hs := h.2.1
  have hk := h.2.2.1
  have h54 := IV_54 h hc
  have ba1 : -2147483648 ≤ i + 1 ∧ i + 1 ≤ 2147483647 := by omega
  have ba2 : -2147483648 ≤ i + 2 ∧ i + 2 ≤ 2147483647 := by omega
  have ba3 : -2147483648 ≤ i + 3 ∧ i + 3 ≤ 2147483647 := by omega
  have ba4 : -2147483648 ≤ i + 4 ∧ i + 4 ≤ 2147483647 := by omega
  have ba5 : -2147483648 ≤ i + 5 ∧ i + 5 ≤ 2147483647 := by omega
  have bb1 : 0 ≤ i + 1 ∧ i + 1 < ((sc.length - 1 : Nat) : Int) := by omega
  have bb2 : 0 ≤ i + 2 ∧ i + 2 < ((sc.length - 1 : Nat) : Int) := by omega
  have bb3 : 0 ≤ i + 3 ∧ i + 3 < ((sc.length - 1 : Nat) : Int) := by omega
  have bb4 : 0 ≤ i + 4 ∧ i + 4 < ((sc.length - 1 : Nat) : Int) := by omega
  have bb5 : 0 ≤ i + 5 ∧ i + 5 < ((sc.length - 1 : Nat) : Int) := by omega
  have hx := h.2.2.2.2.2.2.2.2.2.2
  refine zW_room (kc' := kc) (ks' := ks) (by omega) (by omega) ?_
  refine x_aload_n 415 rfl dL_law_414 1 rfl rfl ?_
  refine x_aload_n 416 rfl dL_law_415 0 rfl rfl ?_
  refine x_iload_n 417 rfl dL_law_416 3 rfl rfl ?_
  refine x_iconst 418 rfl dL_law_417 (by decide) ?_
  refine y_iadd 419 rfl dL_law_418 ba1 ?_
  refine x_sld 420 rfl dL_law_419 hsc bb1.1 bb1.2 ?_
  refine x_aload_n 421 rfl dL_law_420 0 rfl rfl ?_
  refine x_iload_n 422 rfl dL_law_421 3 rfl rfl ?_
  refine x_iconst 423 rfl dL_law_422 (by decide) ?_
  refine y_iadd 424 rfl dL_law_423 ba2 ?_
  refine x_sld 425 rfl dL_law_424 hsc bb2.1 bb2.2 ?_
  refine x_aload_n 426 rfl dL_law_425 0 rfl rfl ?_
  refine x_iload_n 427 rfl dL_law_426 3 rfl rfl ?_
  refine x_iconst 428 rfl dL_law_427 (by decide) ?_
  refine y_iadd 429 rfl dL_law_428 ba3 ?_
  refine x_sld 430 rfl dL_law_429 hsc bb3.1 bb3.2 ?_
  refine x_aload_n 431 rfl dL_law_430 0 rfl rfl ?_
  refine x_iload_n 432 rfl dL_law_431 3 rfl rfl ?_
  refine x_iconst 433 rfl dL_law_432 (by decide) ?_
  refine y_iadd 434 rfl dL_law_433 ba4 ?_
  refine x_sld 435 rfl dL_law_434 hsc bb4.1 bb4.2 ?_
  refine x_aload_n 436 rfl dL_law_435 0 rfl rfl ?_
  refine x_iload_n 437 rfl dL_law_436 3 rfl rfl ?_
  refine x_iconst 438 rfl dL_law_437 (by decide) ?_
  refine y_iadd 439 rfl dL_law_438 ba5 ?_
  refine x_sld 440 rfl dL_law_439 hsc bb5.1 bb5.2 ?_
  refine x_cVi 443 rfl lL_39 dL_law_440 (lyl0 hL) (lys0 hL) (c_X10_feed hL (by rw [h.2.2.2.2.2.1.1]; exact h.2.2.2.2.2.1.2.1)) rfl rfl (Nat.le_of_ble_eq_true rfl) (fun r1 M1 h1 => ?_)
  have e1 : rS M M1 := by
    intro j a b
    rcases h1 with ⟨-, -, e⟩ | ⟨-, -, e⟩
    · rw [e]
    · rw [e, z_up_ne (by omega), z_mup_ne (by omega)]
  obtain ⟨q1, q2, q3, q4, q5, q6, q7, q8⟩ := IV_rd h hc e1
  refine x_aload_n 444 rfl dL_law_443 2 rfl rfl ?_
  refine x_aload_n 445 rfl dL_law_444 0 rfl rfl ?_
  refine x_iload_n 446 rfl dL_law_445 3 rfl rfl ?_
  refine x_iconst 447 rfl dL_law_446 (by decide) ?_
  refine y_iadd 448 rfl dL_law_447 ba1 ?_
  refine x_sld 449 rfl dL_law_448 hsc bb1.1 bb1.2 ?_
  refine x_aload_n 450 rfl dL_law_449 0 rfl rfl ?_
  refine x_iload_n 451 rfl dL_law_450 3 rfl rfl ?_
  refine x_iconst 452 rfl dL_law_451 (by decide) ?_
  refine y_iadd 453 rfl dL_law_452 ba2 ?_
  refine x_sld 454 rfl dL_law_453 hsc bb2.1 bb2.2 ?_
  refine x_aload_n 455 rfl dL_law_454 0 rfl rfl ?_
  refine x_iload_n 456 rfl dL_law_455 3 rfl rfl ?_
  refine x_iconst 457 rfl dL_law_456 (by decide) ?_
  refine y_iadd 458 rfl dL_law_457 ba3 ?_
  refine x_sld 459 rfl dL_law_458 hsc bb3.1 bb3.2 ?_
  refine x_aload_n 460 rfl dL_law_459 0 rfl rfl ?_
  refine x_iload_n 461 rfl dL_law_460 3 rfl rfl ?_
  refine x_iconst 462 rfl dL_law_461 (by decide) ?_
  refine y_iadd 463 rfl dL_law_462 ba4 ?_
  refine x_sld 464 rfl dL_law_463 hsc bb4.1 bb4.2 ?_
  refine x_aload_n 465 rfl dL_law_464 0 rfl rfl ?_
  refine x_iload_n 466 rfl dL_law_465 3 rfl rfl ?_
  refine x_iconst 467 rfl dL_law_466 (by decide) ?_
  refine y_iadd 468 rfl dL_law_467 ba5 ?_
  refine x_sld 469 rfl dL_law_468 hsc bb5.1 bb5.2 ?_
  refine x_cVi 472 rfl lL_43 dL_law_469 (lyl55 hL) (lys55 hL) (c_X11_feed hL q4) rfl rfl (Nat.le_of_ble_eq_true rfl) (fun r2 M2 h2 => ?_)
  obtain ⟨hr, hI⟩ := iv_feed h h1 h2
  have hI := IV_mono hI (show c ≤ c + 1 by omega)
  refine x_icmp_eq 475 1171 rfl dL_law_472 (by decide) (fun c472 => ?_) (fun c472 => ?_)
  · exact K _ _ _ hI
  · first | exact absurd hr c472 | exact absurd hr.symm c472

set_option maxRecDepth 100000 in
set_option maxHeartbeats 4000000 in
theorem lw_c_end {sc : List Int} (hsc : sc ≠ []) (hlen : sc.length ≤ 3073) {i : Int} (hi0 : 0 ≤ i) (hi6 : i + 6 ≤ ((sc.length - 1 : Nat) : Int)) {c : Int} (hc : c ≤ 1000) {kc ks : Nat} {S : zSh} {sz : Nat} {M : zMem} (h : IV c S sz M) (K : ∀ (S' : zSh) (sz' : Nat) (M' : zMem), IV (c + 1) S' sz' M' → zW mL_law 61 kc ks sc lwQ 1171 [some (zr (-2)), some (zn 0), some (zn 55), some (zi i)] [] sz' S' M') : zW mL_law 61 (kc + 11) (ks + 464) sc lwQ 477 [some (zr (-2)), some (zn 0), some (zn 55), some (zi i)] [] sz S M := by
  have hL := h.1
  have hs := h.2.1
  have hk := h.2.2.1
  have h54 := IV_54 h hc
  have ba1 : -2147483648 ≤ i + 1 ∧ i + 1 ≤ 2147483647 := by omega
  have ba2 : -2147483648 ≤ i + 2 ∧ i + 2 ≤ 2147483647 := by omega
  have ba3 : -2147483648 ≤ i + 3 ∧ i + 3 ≤ 2147483647 := by omega
  have ba4 : -2147483648 ≤ i + 4 ∧ i + 4 ≤ 2147483647 := by omega
  have ba5 : -2147483648 ≤ i + 5 ∧ i + 5 ≤ 2147483647 := by omega
  have bb1 : 0 ≤ i + 1 ∧ i + 1 < ((sc.length - 1 : Nat) : Int) := by omega
  have bb2 : 0 ≤ i + 2 ∧ i + 2 < ((sc.length - 1 : Nat) : Int) := by omega
  have bb3 : 0 ≤ i + 3 ∧ i + 3 < ((sc.length - 1 : Nat) : Int) := by omega
  have bb4 : 0 ≤ i + 4 ∧ i + 4 < ((sc.length - 1 : Nat) : Int) := by omega
  have bb5 : 0 ≤ i + 5 ∧ i + 5 < ((sc.length - 1 : Nat) : Int) := by omega
  have hx := h.2.2.2.2.2.2.2.2.2.2
  refine zW_room (kc' := kc) (ks' := ks) (by omega) (by omega) ?_
  refine x_aload_n 478 rfl dL_law_477 1 rfl rfl ?_
  refine x_aload_n 479 rfl dL_law_478 0 rfl rfl ?_
  refine x_iload_n 480 rfl dL_law_479 3 rfl rfl ?_
  refine x_iconst 481 rfl dL_law_480 (by decide) ?_
  refine y_iadd 482 rfl dL_law_481 ba1 ?_
  refine x_sld 483 rfl dL_law_482 hsc bb1.1 bb1.2 ?_
  refine x_cVi 486 rfl lL_44 dL_law_483 (lyl0 hL) (lys0 hL) (c_X10_end hL) rfl rfl (Nat.le_of_ble_eq_true rfl) (fun r1 M1 h1 => ?_)
  have e1 : rS M M1 := by
    intro j a b
    rcases h1 with ⟨-, -, e⟩ | ⟨-, -, e⟩
    · rw [e]
    · rw [e, z_up_ne (by omega)]
  obtain ⟨q1, q2, q3, q4, q5, q6, q7, q8⟩ := IV_rd h hc e1
  refine x_aload_n 487 rfl dL_law_486 2 rfl rfl ?_
  refine x_aload_n 488 rfl dL_law_487 0 rfl rfl ?_
  refine x_iload_n 489 rfl dL_law_488 3 rfl rfl ?_
  refine x_iconst 490 rfl dL_law_489 (by decide) ?_
  refine y_iadd 491 rfl dL_law_490 ba1 ?_
  refine x_sld 492 rfl dL_law_491 hsc bb1.1 bb1.2 ?_
  refine x_cVi 495 rfl lL_48 dL_law_492 (lyl55 hL) (lys55 hL) (c_X11_end hL) rfl rfl (Nat.le_of_ble_eq_true rfl) (fun r2 M2 h2 => ?_)
  obtain ⟨hr, hI⟩ := iv_end h h1 h2
  have hI := IV_mono hI (show c ≤ c + 1 by omega)
  refine x_icmp_eq 498 1171 rfl dL_law_495 (by decide) (fun c495 => ?_) (fun c495 => ?_)
  · exact K _ _ _ hI
  · first | exact absurd hr c495 | exact absurd hr.symm c495

set_option maxRecDepth 100000 in
set_option maxHeartbeats 4000000 in
theorem lw_c_row {sc : List Int} (hsc : sc ≠ []) (hlen : sc.length ≤ 3073) {i : Int} (hi0 : 0 ≤ i) (hi6 : i + 6 ≤ ((sc.length - 1 : Nat) : Int)) {c : Int} (hc : c ≤ 1000) {kc ks : Nat} {S : zSh} {sz : Nat} {M : zMem} (h : IV c S sz M) (K : ∀ (S' : zSh) (sz' : Nat) (M' : zMem), IV (c + 1) S' sz' M' → zW mL_law 61 kc ks sc lwQ 1171 [some (zr (-2)), some (zn 0), some (zn 55), some (zi i)] [] sz' S' M') : zW mL_law 61 (kc + 11) (ks + 464) sc lwQ 500 [some (zr (-2)), some (zn 0), some (zn 55), some (zi i)] [] sz S M := by
  have hL := h.1
  have hs := h.2.1
  have hk := h.2.2.1
  have h54 := IV_54 h hc
  have ba1 : -2147483648 ≤ i + 1 ∧ i + 1 ≤ 2147483647 := by omega
  have ba2 : -2147483648 ≤ i + 2 ∧ i + 2 ≤ 2147483647 := by omega
  have ba3 : -2147483648 ≤ i + 3 ∧ i + 3 ≤ 2147483647 := by omega
  have ba4 : -2147483648 ≤ i + 4 ∧ i + 4 ≤ 2147483647 := by omega
  have ba5 : -2147483648 ≤ i + 5 ∧ i + 5 ≤ 2147483647 := by omega
  have bb1 : 0 ≤ i + 1 ∧ i + 1 < ((sc.length - 1 : Nat) : Int) := by omega
  have bb2 : 0 ≤ i + 2 ∧ i + 2 < ((sc.length - 1 : Nat) : Int) := by omega
  have bb3 : 0 ≤ i + 3 ∧ i + 3 < ((sc.length - 1 : Nat) : Int) := by omega
  have bb4 : 0 ≤ i + 4 ∧ i + 4 < ((sc.length - 1 : Nat) : Int) := by omega
  have bb5 : 0 ≤ i + 5 ∧ i + 5 < ((sc.length - 1 : Nat) : Int) := by omega
  have hx := h.2.2.2.2.2.2.2.2.2.2
  refine zW_room (kc' := kc) (ks' := ks) (by omega) (by omega) ?_
  refine x_aload_n 501 rfl dL_law_500 1 rfl rfl ?_
  refine x_cVi 504 rfl lL_49 dL_law_501 (lyl0 hL) (lys0 hL) (c_X10_row hL h54 hs hk (by rw [h.2.2.2.2.2.1.1]; exact h.2.2.2.2.2.1.2.1)) rfl rfl (Nat.le_of_ble_eq_true rfl) (fun r1 M1 h1 => ?_)
  have e1 : rS M M1 := by
    intro j a b
    rcases h1 with ⟨-, -, e⟩ | ⟨-, -, N, -, e2, -, -, -, e⟩
    · rw [e]; unfold cRef; rw [z_up_ne (by omega), z_up_ne (by omega), z_up_ne (by omega)]
    · rw [e, z_up_ne (by omega), z_up_ne (by omega), e2 j (by omega) (by omega), z_up_ne (by omega)]
  obtain ⟨q1, q2, q3, q4, q5, q6, q7, q8⟩ := IV_rd h hc e1
  refine x_aload_n 505 rfl dL_law_504 2 rfl rfl ?_
  refine x_cVi 508 rfl lL_53 dL_law_505 (lyl55 hL) (lys55 hL) (c_X11_row hL q1 q2 q4) rfl rfl (Nat.le_of_ble_eq_true rfl) (fun r2 M2 h2 => ?_)
  obtain ⟨hr, hI⟩ := iv_row h h1 h2
  refine x_icmp_eq 511 1171 rfl dL_law_508 (by decide) (fun c508 => ?_) (fun c508 => ?_)
  · exact K _ _ _ hI
  · first | exact absurd hr c508 | exact absurd hr.symm c508

set_option maxRecDepth 100000 in
set_option maxHeartbeats 4000000 in
theorem lw_c_spray {sc : List Int} (hsc : sc ≠ []) (hlen : sc.length ≤ 3073) {i : Int} (hi0 : 0 ≤ i) (hi6 : i + 6 ≤ ((sc.length - 1 : Nat) : Int)) {c : Int} (hc : c ≤ 1000) {kc ks : Nat} {S : zSh} {sz : Nat} {M : zMem} (h : IV c S sz M) (K : ∀ (S' : zSh) (sz' : Nat) (M' : zMem), IV (c + 1) S' sz' M' → zW mL_law 61 kc ks sc lwQ 1171 [some (zr (-2)), some (zn 0), some (zn 55), some (zi i)] [] sz' S' M') : zW mL_law 61 (kc + 11) (ks + 464) sc lwQ 513 [some (zr (-2)), some (zn 0), some (zn 55), some (zi i)] [] sz S M := by
  have hL := h.1
  have hs := h.2.1
  have hk := h.2.2.1
  have h54 := IV_54 h hc
  have ba1 : -2147483648 ≤ i + 1 ∧ i + 1 ≤ 2147483647 := by omega
  have ba2 : -2147483648 ≤ i + 2 ∧ i + 2 ≤ 2147483647 := by omega
  have ba3 : -2147483648 ≤ i + 3 ∧ i + 3 ≤ 2147483647 := by omega
  have ba4 : -2147483648 ≤ i + 4 ∧ i + 4 ≤ 2147483647 := by omega
  have ba5 : -2147483648 ≤ i + 5 ∧ i + 5 ≤ 2147483647 := by omega
  have bb1 : 0 ≤ i + 1 ∧ i + 1 < ((sc.length - 1 : Nat) : Int) := by omega
  have bb2 : 0 ≤ i + 2 ∧ i + 2 < ((sc.length - 1 : Nat) : Int) := by omega
  have bb3 : 0 ≤ i + 3 ∧ i + 3 < ((sc.length - 1 : Nat) : Int) := by omega
  have bb4 : 0 ≤ i + 4 ∧ i + 4 < ((sc.length - 1 : Nat) : Int) := by omega
  have bb5 : 0 ≤ i + 5 ∧ i + 5 < ((sc.length - 1 : Nat) : Int) := by omega
  have hx := h.2.2.2.2.2.2.2.2.2.2
  refine zW_room (kc' := kc) (ks' := ks) (by omega) (by omega) ?_
  refine x_aload_n 514 rfl dL_law_513 1 rfl rfl ?_
  refine x_cVi 517 rfl lL_54 dL_law_514 (lyl0 hL) (lys0 hL) (c_X10_spray hL) rfl rfl (Nat.le_of_ble_eq_true rfl) (fun r1 M1 h1 => ?_)
  have e1 := rS_eq h1.2
  obtain ⟨q1, q2, q3, q4, q5, q6, q7, q8⟩ := IV_rd h hc e1
  refine x_aload_n 518 rfl dL_law_517 2 rfl rfl ?_
  refine x_cVi 521 rfl lL_57 dL_law_518 (lyl55 hL) (lys55 hL) (c_X11_spray hL) rfl rfl (Nat.le_of_ble_eq_true rfl) (fun r2 M2 h2 => ?_)
  have hr : r1 = r2 := by rw [h1.1, h2.1, e1 55 (by decide) (by decide)]; exact h.2.2.2.2.1.2.1
  have hI := iv_pure h (cK_eq h h1.2) (rK_eq q5 h2.2)
  refine x_icmp_eq 524 1171 rfl dL_law_521 (by decide) (fun c521 => ?_) (fun c521 => ?_)
  · exact K _ _ _ hI
  · first | exact absurd hr c521 | exact absurd hr.symm c521

set_option maxRecDepth 100000 in
set_option maxHeartbeats 4000000 in
theorem lw_c_law {sc : List Int} (hsc : sc ≠ []) (hlen : sc.length ≤ 3073) {i : Int} (hi0 : 0 ≤ i) (hi6 : i + 6 ≤ ((sc.length - 1 : Nat) : Int)) {c : Int} (hc : c ≤ 1000) {kc ks : Nat} {S : zSh} {sz : Nat} {M : zMem} (h : IV c S sz M) (K : ∀ (S' : zSh) (sz' : Nat) (M' : zMem), IV (c + 1) S' sz' M' → zW mL_law 61 kc ks sc lwQ 1171 [some (zr (-2)), some (zn 0), some (zn 55), some (zi i)] [] sz' S' M') : zW mL_law 61 (kc + 11) (ks + 464) sc lwQ 526 [some (zr (-2)), some (zn 0), some (zn 55), some (zi i)] [] sz S M := by
  have hL := h.1
  have hs := h.2.1
  have hk := h.2.2.1
  have h54 := IV_54 h hc
  have ba1 : -2147483648 ≤ i + 1 ∧ i + 1 ≤ 2147483647 := by omega
  have ba2 : -2147483648 ≤ i + 2 ∧ i + 2 ≤ 2147483647 := by omega
  have ba3 : -2147483648 ≤ i + 3 ∧ i + 3 ≤ 2147483647 := by omega
  have ba4 : -2147483648 ≤ i + 4 ∧ i + 4 ≤ 2147483647 := by omega
  have ba5 : -2147483648 ≤ i + 5 ∧ i + 5 ≤ 2147483647 := by omega
  have bb1 : 0 ≤ i + 1 ∧ i + 1 < ((sc.length - 1 : Nat) : Int) := by omega
  have bb2 : 0 ≤ i + 2 ∧ i + 2 < ((sc.length - 1 : Nat) : Int) := by omega
  have bb3 : 0 ≤ i + 3 ∧ i + 3 < ((sc.length - 1 : Nat) : Int) := by omega
  have bb4 : 0 ≤ i + 4 ∧ i + 4 < ((sc.length - 1 : Nat) : Int) := by omega
  have bb5 : 0 ≤ i + 5 ∧ i + 5 < ((sc.length - 1 : Nat) : Int) := by omega
  have hx := h.2.2.2.2.2.2.2.2.2.2
  obtain ⟨t1, t2, t3, t4, t5⟩ := h.2.2.2.2.2.1
  obtain ⟨size, hsz⟩ : ∃ size : Nat, M 55 13 = (size : Int) := ⟨(M 55 13).toNat, by omega⟩
  have hs4 : size ≤ 400 := by omega
  have hb31 : tb M = M 31 := by funext j; exact (t3 j).symm
  have hB : ∀ i, 0 ≤ M 31 i ∧ M 31 i ≤ 255 := fun i => by rw [t3 i]; omega
  obtain ⟨T, hT⟩ : ∃ T : tS, tkG (mC (M 31)) (mV (M 31)) (M 31) size 401 0 (0, M 64, M 65, M 66) = T := ⟨_, rfl⟩
  obtain ⟨hTK, -⟩ := tok_TK hB hs4 hT
  obtain ⟨T2, hT2⟩ : ∃ T2 : tS, tkG (cC (M 31)) (cV (M 31)) (M 31) size 401 0 (0, M 33, M 35, M 34) = T2 := ⟨_, rfl⟩
  obtain ⟨k1, k2⟩ := tie_read hB hs4 hT hT2
  obtain ⟨R, hR⟩ : ∃ R, g_text false (ku T.2.1 T.1 0) (ku T.2.2.1 T.1 0) T.1 12 (gz (M 38)) [] = R := ⟨_, rfl⟩
  refine zW_room (kc' := kc + 3) (ks' := ks + 464) (by omega) (by omega) ?_
  refine x_aload_n 527 rfl dL_law_526 1 rfl rfl ?_
  refine x_callV 530 rfl lL_58 dL_law_527 (lyl0 hL) (lys0 hL) (c_X10_law hL h54 hs hk (by rw [t1, hsz]) hs4 hB hT2 hTK (k1 M 1).1 (k1 M 1).2 hR (fun t ht => (k2 t ht).2)) rfl rfl (Nat.le_of_ble_eq_true rfl) ?_
  intro v sz1 S1 M1 h1
  have hv1 : (∃ r1, v = some (zi r1)) ∧ LY S1 sz1 ∧ rS M M1 := by
    have hz := hL.1
    rcases h1 with ⟨-, e, e2, e3, e4⟩ | ⟨-, t, -, e, e2, e3, N, e4, e6, e5⟩ | ⟨-, s9, L, -, e, e2, e3, e4, -⟩
    · subst e2; subst e3; exact ⟨⟨_, e⟩, hL, fun j p q => by rw [e4]; unfold cRef; rw [z_up_ne (by omega), z_up_ne (by omega), z_up_ne (by omega)]⟩
    · subst e2; subst e3; exact ⟨⟨_, e⟩, hL, fun j p q => by rw [e5]; unfold cRef; rw [z_up_ne (by omega), z_up_ne (by omega), z_up_ne (by omega)]; exact e4 j (by omega) (by omega)⟩
    · subst e2; rw [e3]; exact ⟨⟨_, e⟩, LY_tx hL, fun j p q => e4 j (by omega) (by omega) (by omega) (by omega) (by omega) (by omega)⟩
  obtain ⟨⟨r1, rfl⟩, hL1, e1⟩ := hv1
  obtain ⟨q1, q2, q3, q4, q5, q6, q7, q8⟩ := IV_rd h hc e1
  have hb1 : tb M1 = M 31 := by rw [← hb31]; unfold tb; rw [e1 62 (by decide) (by decide)]
  show zW mL_law 61 kc ks sc lwQ _ _ [zi r1] sz1 S1 M1
  refine x_aload_n 531 rfl dL_law_530 2 rfl rfl ?_
  refine x_cVi 534 rfl lL_61 dL_law_531 (lyl55 hL1) (lys55 hL1) (c_X11_law hL1 (by rw [e1 55 (by decide) (by decide)]; exact hsz) hs4 (by unfold wdI; rw [e1 61 (by decide) (by decide)]; exact t5) (by unfold tbI; rw [e1 62 (by decide) (by decide)]; exact t4) (by rw [hb1, e1 64 (by decide) (by decide), e1 65 (by decide) (by decide), e1 66 (by decide) (by decide)]; exact hT) hR q1 q2 hTK.1) rfl rfl (Nat.le_of_ble_eq_true rfl) (fun r2 M2 h2 => ?_)
  obtain ⟨hr, hI⟩ := iv_law h hTK hR (fun t ht => (k2 t ht).1) h1 h2
  have hr : r1 = r2 := by cases hr; rfl
  refine x_icmp_eq 537 1171 rfl dL_law_534 (by decide) (fun c534 => ?_) (fun c534 => ?_)
  · exact K _ _ _ hI
  · first | exact absurd hr c534 | exact absurd hr.symm c534

set_option maxRecDepth 100000 in
set_option maxHeartbeats 4000000 in
theorem lw_c_orders {sc : List Int} (hsc : sc ≠ []) (hlen : sc.length ≤ 3073) {i : Int} (hi0 : 0 ≤ i) (hi6 : i + 6 ≤ ((sc.length - 1 : Nat) : Int)) {c : Int} (hc : c ≤ 1000) {kc ks : Nat} {S : zSh} {sz : Nat} {M : zMem} (h : IV c S sz M) (K : ∀ (S' : zSh) (sz' : Nat) (M' : zMem), IV (c + 1) S' sz' M' → zW mL_law 61 kc ks sc lwQ 1171 [some (zr (-2)), some (zn 0), some (zn 55), some (zi i)] [] sz' S' M') : zW mL_law 61 (kc + 11) (ks + 464) sc lwQ 539 [some (zr (-2)), some (zn 0), some (zn 55), some (zi i)] [] sz S M := by
  have hL := h.1
  have hs := h.2.1
  have hk := h.2.2.1
  have h54 := IV_54 h hc
  have ba1 : -2147483648 ≤ i + 1 ∧ i + 1 ≤ 2147483647 := by omega
  have ba2 : -2147483648 ≤ i + 2 ∧ i + 2 ≤ 2147483647 := by omega
  have ba3 : -2147483648 ≤ i + 3 ∧ i + 3 ≤ 2147483647 := by omega
  have ba4 : -2147483648 ≤ i + 4 ∧ i + 4 ≤ 2147483647 := by omega
  have ba5 : -2147483648 ≤ i + 5 ∧ i + 5 ≤ 2147483647 := by omega
  have bb1 : 0 ≤ i + 1 ∧ i + 1 < ((sc.length - 1 : Nat) : Int) := by omega
  have bb2 : 0 ≤ i + 2 ∧ i + 2 < ((sc.length - 1 : Nat) : Int) := by omega
  have bb3 : 0 ≤ i + 3 ∧ i + 3 < ((sc.length - 1 : Nat) : Int) := by omega
  have bb4 : 0 ≤ i + 4 ∧ i + 4 < ((sc.length - 1 : Nat) : Int) := by omega
  have bb5 : 0 ≤ i + 5 ∧ i + 5 < ((sc.length - 1 : Nat) : Int) := by omega
  have hx := h.2.2.2.2.2.2.2.2.2.2
  obtain ⟨Lw, hLc, hLi⟩ := LA_Lw hk h.2.2.2.2.2.2.2.1
  obtain ⟨l, n0, hlr, hl2, h32, hv⟩ := h.2.2.2.2.2.2.1
  obtain ⟨t1, t2, t3, t4, t5⟩ := h.2.2.2.2.2.1
  obtain ⟨size, hsz⟩ : ∃ size : Nat, M 55 13 = (size : Int) := ⟨(M 55 13).toNat, by omega⟩
  have hs4 : size ≤ 400 := by omega
  have hb31 : tb M = M 31 := by funext j; exact (t3 j).symm
  have hB : ∀ i, 0 ≤ M 31 i ∧ M 31 i ≤ 255 := fun i => by rw [t3 i]; omega
  obtain ⟨T, hT⟩ : ∃ T : tS, tkG (mC (M 31)) (mV (M 31)) (M 31) size 401 0 (0, M 64, M 65, M 66) = T := ⟨_, rfl⟩
  obtain ⟨hTK, -⟩ := tok_TK hB hs4 hT
  obtain ⟨M0, hM0⟩ : ∃ M0, z_up M 0 14 (-1) = M0 := ⟨_, rfl⟩
  have m0 : ∀ j, j ≠ 0 → M0 j = M j := fun j p => by rw [← hM0, z_up_ne p]
  have m31 := m0 31 (by decide)
  obtain ⟨T2, hT2⟩ : ∃ T2 : tS, tkG (cC (M0 31)) (cV (M0 31)) (M0 31) size 401 0 (0, M0 33, M0 35, M0 34) = T2 := ⟨_, rfl⟩
  have hT3 : tkG (cC (M 31)) (cV (M 31)) (M 31) size 401 0 (0, M0 33, M0 35, M0 34) = T2 := by rw [← m31]; exact hT2
  obtain ⟨k1, k2⟩ := tie_read hB hs4 hT hT3
  obtain ⟨R, hR⟩ : ∃ R, g_text true (ku T.2.1 T.1 0) (ku T.2.2.1 T.1 0) T.1 12 (gz (M0 38)) [] = R := ⟨_, rfl⟩
  have hs6 : SR M 1 (k6 (M 57) (ku T.2.1 T.1 0) (ku T.2.2.1 T.1 0) T.1) := SR_congr hs (fun i hi => k6_lo (by omega))
  have hL6 : LwC S sz M 1 (k6 (M 57) (ku T.2.1 T.1 0) (ku T.2.2.1 T.1 0) T.1) Lw := fun h9 => by rw [k6_lo (by decide)] at h9 ⊢; exact hLc h9
  refine zW_room (kc' := kc) (ks' := ks) (by omega) (by omega) ?_
  refine x_aload_n 540 rfl dL_law_539 1 rfl rfl ?_
  refine x_cVi 543 rfl lL_62 dL_law_540 (lyl0 hL) (lys0 hL) (c_X10_orders hL h54 hs6 (KI_k6 hk hTK.1) hL6 h.2.2.2.2.2.2.2.2.1 hx.1 hx.2.1 hlr hM0 (by rw [m0 30 (by decide), t1, hsz]) hs4 (by rw [m31]; exact hB) hT2 hTK (k1 M0 0).1 (k1 M0 0).2 hR (fun t ht => (k2 t ht).2)) rfl rfl (Nat.le_of_ble_eq_true rfl) (fun r1 M1 h1 => ?_)
  rw [← hM0] at h1
  have e1 : rS M M1 := by
    intro j a b
    obtain ⟨C2, e2, -, e3⟩ := h1
    have e4 : C2 j = M j := by rw [e2 j (by omega) (by omega), z_up_ne (by omega)]
    rcases e3 with ⟨t, -, -, e5⟩ | ⟨q, -, C3, e5, -, -, -, e6⟩
    · rw [e5]; unfold cRef; rw [z_up_ne (by omega), z_up_ne (by omega), z_up_ne (by omega)]; exact e4
    · have e7 : C3 j = M j := by rw [e5 j (by omega)]; exact e4
      rcases hz : zoL Lw q.2 0 (k6 (M 57) (ku T.2.1 T.1 0) (ku T.2.2.1 T.1 0) T.1, l, n0, 0, -1) with jj | st
      · rw [hz] at e6
        rw [e6.2.2.2.2]; unfold cRef; rw [z_up_ne (by omega), z_up_ne (by omega)]; exact e7
      · rw [hz] at e6
        rw [e6.2.2.2.2.2.2, z_up_ne (by omega)]; exact e7
  obtain ⟨q1, q2, q3, q4, q5, q6, q7, q8⟩ := IV_rd h hc e1
  have hb1 : tb (z_up M1 55 35 (-1)) = M 31 := by rw [← hb31]; unfold tb; rw [z_up_ne (by decide), e1 62 (by decide) (by decide)]
  refine x_aload_n 544 rfl dL_law_543 2 rfl rfl ?_
  refine x_cVi 547 rfl lL_65 dL_law_544 (lyl55 hL) (lys55 hL) (c_X11_orders hL rfl (by rw [z_up_nk (by decide), e1 55 (by decide) (by decide)]; exact hsz) hs4 (by unfold wdI; rw [z_up_ne (by decide), e1 61 (by decide) (by decide)]; exact t5) (by unfold tbI; rw [z_up_ne (by decide), e1 62 (by decide) (by decide)]; exact t4) (by rw [hb1, z_up_ne (by decide), z_up_ne (by decide), z_up_ne (by decide), e1 64 (by decide) (by decide), e1 65 (by decide) (by decide), e1 66 (by decide) (by decide)]; exact hT) hR hTK q1 q2 (by rw [e1 57 (by decide) (by decide)]; exact hLi) (by rw [e1 69 (by decide) (by decide)]; exact hl2) (by rw [e1 55 (by decide) (by decide)]; exact h32)) rfl rfl (Nat.le_of_ble_eq_true rfl) (fun r2 M2 h2 => ?_)
  obtain ⟨hr, hI⟩ := iv_orders h hTK hR (fun t ht => (k2 t ht).1) hl2 h32 hv h1 h2
  refine x_icmp_eq 550 1171 rfl dL_law_547 (by decide) (fun c547 => ?_) (fun c547 => ?_)
  · exact K _ _ _ hI
  · first | exact absurd hr c547 | exact absurd hr.symm c547

set_option maxRecDepth 100000 in
set_option maxHeartbeats 4000000 in
theorem lw_c_fault {sc : List Int} (hsc : sc ≠ []) (hlen : sc.length ≤ 3073) {i : Int} (hi0 : 0 ≤ i) (hi6 : i + 6 ≤ ((sc.length - 1 : Nat) : Int)) {c : Int} (hc : c ≤ 1000) {kc ks : Nat} {S : zSh} {sz : Nat} {M : zMem} (h : IV c S sz M) (K : ∀ (S' : zSh) (sz' : Nat) (M' : zMem), IV (c + 1) S' sz' M' → zW mL_law 61 kc ks sc lwQ 1171 [some (zr (-2)), some (zn 0), some (zn 55), some (zi i)] [] sz' S' M') : zW mL_law 61 (kc + 11) (ks + 464) sc lwQ 552 [some (zr (-2)), some (zn 0), some (zn 55), some (zi i)] [] sz S M := by
  have hL := h.1
  have hs := h.2.1
  have hk := h.2.2.1
  have h54 := IV_54 h hc
  have ba1 : -2147483648 ≤ i + 1 ∧ i + 1 ≤ 2147483647 := by omega
  have ba2 : -2147483648 ≤ i + 2 ∧ i + 2 ≤ 2147483647 := by omega
  have ba3 : -2147483648 ≤ i + 3 ∧ i + 3 ≤ 2147483647 := by omega
  have ba4 : -2147483648 ≤ i + 4 ∧ i + 4 ≤ 2147483647 := by omega
  have ba5 : -2147483648 ≤ i + 5 ∧ i + 5 ≤ 2147483647 := by omega
  have bb1 : 0 ≤ i + 1 ∧ i + 1 < ((sc.length - 1 : Nat) : Int) := by omega
  have bb2 : 0 ≤ i + 2 ∧ i + 2 < ((sc.length - 1 : Nat) : Int) := by omega
  have bb3 : 0 ≤ i + 3 ∧ i + 3 < ((sc.length - 1 : Nat) : Int) := by omega
  have bb4 : 0 ≤ i + 4 ∧ i + 4 < ((sc.length - 1 : Nat) : Int) := by omega
  have bb5 : 0 ≤ i + 5 ∧ i + 5 < ((sc.length - 1 : Nat) : Int) := by omega
  have hx := h.2.2.2.2.2.2.2.2.2.2
  refine zW_room (kc' := kc) (ks' := ks) (by omega) (by omega) ?_
  refine x_aload_n 553 rfl dL_law_552 1 rfl rfl ?_
  refine x_cVi 556 rfl lL_66 dL_law_553 (lyl0 hL) (lys0 hL) (c_X10_fault hL) rfl rfl (Nat.le_of_ble_eq_true rfl) (fun r1 M1 h1 => ?_)
  have e1 := rS_eq h1.2
  obtain ⟨q1, q2, q3, q4, q5, q6, q7, q8⟩ := IV_rd h hc e1
  refine x_aload_n 557 rfl dL_law_556 2 rfl rfl ?_
  refine x_cVi 560 rfl lL_69 dL_law_557 (lyl55 hL) (lys55 hL) (c_X11_fault hL) rfl rfl (Nat.le_of_ble_eq_true rfl) (fun r2 M2 h2 => ?_)
  have hr : r1 = r2 := by rw [h1.1, h2.1, e1 55 (by decide) (by decide)]; exact h.2.2.2.2.1.1
  have hI := iv_pure h (cK_eq h h1.2) (rK_eq q5 h2.2)
  refine x_icmp_eq 563 1171 rfl dL_law_560 (by decide) (fun c560 => ?_) (fun c560 => ?_)
  · exact K _ _ _ hI
  · first | exact absurd hr c560 | exact absurd hr.symm c560

set_option maxRecDepth 100000 in
set_option maxHeartbeats 4000000 in
theorem lw_c_stopped {sc : List Int} (hsc : sc ≠ []) (hlen : sc.length ≤ 3073) {i : Int} (hi0 : 0 ≤ i) (hi6 : i + 6 ≤ ((sc.length - 1 : Nat) : Int)) {c : Int} (hc : c ≤ 1000) {kc ks : Nat} {S : zSh} {sz : Nat} {M : zMem} (h : IV c S sz M) (K : ∀ (S' : zSh) (sz' : Nat) (M' : zMem), IV (c + 1) S' sz' M' → zW mL_law 61 kc ks sc lwQ 1171 [some (zr (-2)), some (zn 0), some (zn 55), some (zi i)] [] sz' S' M') : zW mL_law 61 (kc + 11) (ks + 464) sc lwQ 565 [some (zr (-2)), some (zn 0), some (zn 55), some (zi i)] [] sz S M := by
  have hL := h.1
  have hs := h.2.1
  have hk := h.2.2.1
  have h54 := IV_54 h hc
  have ba1 : -2147483648 ≤ i + 1 ∧ i + 1 ≤ 2147483647 := by omega
  have ba2 : -2147483648 ≤ i + 2 ∧ i + 2 ≤ 2147483647 := by omega
  have ba3 : -2147483648 ≤ i + 3 ∧ i + 3 ≤ 2147483647 := by omega
  have ba4 : -2147483648 ≤ i + 4 ∧ i + 4 ≤ 2147483647 := by omega
  have ba5 : -2147483648 ≤ i + 5 ∧ i + 5 ≤ 2147483647 := by omega
  have bb1 : 0 ≤ i + 1 ∧ i + 1 < ((sc.length - 1 : Nat) : Int) := by omega
  have bb2 : 0 ≤ i + 2 ∧ i + 2 < ((sc.length - 1 : Nat) : Int) := by omega
  have bb3 : 0 ≤ i + 3 ∧ i + 3 < ((sc.length - 1 : Nat) : Int) := by omega
  have bb4 : 0 ≤ i + 4 ∧ i + 4 < ((sc.length - 1 : Nat) : Int) := by omega
  have bb5 : 0 ≤ i + 5 ∧ i + 5 < ((sc.length - 1 : Nat) : Int) := by omega
  have hx := h.2.2.2.2.2.2.2.2.2.2
  refine zW_room (kc' := kc) (ks' := ks) (by omega) (by omega) ?_
  refine x_aload_n 566 rfl dL_law_565 1 rfl rfl ?_
  refine x_cVi 569 rfl lL_70 dL_law_566 (lyl0 hL) (lys0 hL) (c_X10_stopped hL) rfl rfl (Nat.le_of_ble_eq_true rfl) (fun r1 M1 h1 => ?_)
  have e1 := rS_eq h1.2
  obtain ⟨q1, q2, q3, q4, q5, q6, q7, q8⟩ := IV_rd h hc e1
  refine x_aload_n 570 rfl dL_law_569 2 rfl rfl ?_
  refine x_cVi 573 rfl lL_73 dL_law_570 (lyl55 hL) (lys55 hL) (c_X11_stopped hL) rfl rfl (Nat.le_of_ble_eq_true rfl) (fun r2 M2 h2 => ?_)
  have hr : r1 = r2 := by rw [h1.1, h2.1, e1 55 (by decide) (by decide)]; exact h.2.2.2.2.1.2.2.1
  have hI := iv_pure h (cK_eq h h1.2) (rK_eq q5 h2.2)
  refine x_icmp_eq 576 1171 rfl dL_law_573 (by decide) (fun c573 => ?_) (fun c573 => ?_)
  · exact K _ _ _ hI
  · first | exact absurd hr c573 | exact absurd hr.symm c573

set_option maxRecDepth 100000 in
set_option maxHeartbeats 4000000 in
theorem lw_c_force {sc : List Int} (hsc : sc ≠ []) (hlen : sc.length ≤ 3073) {i : Int} (hi0 : 0 ≤ i) (hi6 : i + 6 ≤ ((sc.length - 1 : Nat) : Int)) {c : Int} (hc : c ≤ 1000) {kc ks : Nat} {S : zSh} {sz : Nat} {M : zMem} (h : IV c S sz M) (K : ∀ (S' : zSh) (sz' : Nat) (M' : zMem), IV (c + 1) S' sz' M' → zW mL_law 61 kc ks sc lwQ 1171 [some (zr (-2)), some (zn 0), some (zn 55), some (zi i)] [] sz' S' M') : zW mL_law 61 (kc + 11) (ks + 464) sc lwQ 578 [some (zr (-2)), some (zn 0), some (zn 55), some (zi i)] [] sz S M := by
  have hL := h.1
  have hs := h.2.1
  have hk := h.2.2.1
  have h54 := IV_54 h hc
  have ba1 : -2147483648 ≤ i + 1 ∧ i + 1 ≤ 2147483647 := by omega
  have ba2 : -2147483648 ≤ i + 2 ∧ i + 2 ≤ 2147483647 := by omega
  have ba3 : -2147483648 ≤ i + 3 ∧ i + 3 ≤ 2147483647 := by omega
  have ba4 : -2147483648 ≤ i + 4 ∧ i + 4 ≤ 2147483647 := by omega
  have ba5 : -2147483648 ≤ i + 5 ∧ i + 5 ≤ 2147483647 := by omega
  have bb1 : 0 ≤ i + 1 ∧ i + 1 < ((sc.length - 1 : Nat) : Int) := by omega
  have bb2 : 0 ≤ i + 2 ∧ i + 2 < ((sc.length - 1 : Nat) : Int) := by omega
  have bb3 : 0 ≤ i + 3 ∧ i + 3 < ((sc.length - 1 : Nat) : Int) := by omega
  have bb4 : 0 ≤ i + 4 ∧ i + 4 < ((sc.length - 1 : Nat) : Int) := by omega
  have bb5 : 0 ≤ i + 5 ∧ i + 5 < ((sc.length - 1 : Nat) : Int) := by omega
  have hx := h.2.2.2.2.2.2.2.2.2.2
  refine zW_room (kc' := kc) (ks' := ks) (by omega) (by omega) ?_
  refine x_aload_n 579 rfl dL_law_578 1 rfl rfl ?_
  refine x_aload_n 580 rfl dL_law_579 0 rfl rfl ?_
  refine x_iload_n 581 rfl dL_law_580 3 rfl rfl ?_
  refine x_iconst 582 rfl dL_law_581 (by decide) ?_
  refine y_iadd 583 rfl dL_law_582 ba1 ?_
  refine x_sld 584 rfl dL_law_583 hsc bb1.1 bb1.2 ?_
  refine x_cVi 587 rfl lL_74 dL_law_584 (lyl0 hL) (lys0 hL) (c_X10_force hL h54 hs hk) rfl rfl (Nat.le_of_ble_eq_true rfl) (fun r1 M1 h1 => ?_)
  have e1 : rS M M1 := by
    rcases h1 with ⟨-, -, e⟩ | ⟨-, -, e⟩
    · exact rS_ref e
    · exact rS_ok e
  obtain ⟨q1, q2, q3, q4, q5, q6, q7, q8⟩ := IV_rd h hc e1
  refine x_aload_n 588 rfl dL_law_587 2 rfl rfl ?_
  refine x_aload_n 589 rfl dL_law_588 0 rfl rfl ?_
  refine x_iload_n 590 rfl dL_law_589 3 rfl rfl ?_
  refine x_iconst 591 rfl dL_law_590 (by decide) ?_
  refine y_iadd 592 rfl dL_law_591 ba1 ?_
  refine x_sld 593 rfl dL_law_592 hsc bb1.1 bb1.2 ?_
  refine x_cVi 596 rfl lL_77 dL_law_593 (lyl55 hL) (lys55 hL) (c_X11_force hL q1 q2) rfl rfl (Nat.le_of_ble_eq_true rfl) (fun r2 M2 h2 => ?_)
  obtain ⟨hr, hI⟩ := iv_force h h1 (e1 57 (by decide) (by decide)) h2
  refine x_icmp_eq 599 1171 rfl dL_law_596 (by decide) (fun c596 => ?_) (fun c596 => ?_)
  · exact K _ _ _ hI
  · first | exact absurd hr c596 | exact absurd hr.symm c596

set_option maxRecDepth 100000 in
set_option maxHeartbeats 4000000 in
theorem lw_c_hunt {sc : List Int} (hsc : sc ≠ []) (hlen : sc.length ≤ 3073) {i : Int} (hi0 : 0 ≤ i) (hi6 : i + 6 ≤ ((sc.length - 1 : Nat) : Int)) {c : Int} (hc : c ≤ 1000) {kc ks : Nat} {S : zSh} {sz : Nat} {M : zMem} (h : IV c S sz M) (K : ∀ (S' : zSh) (sz' : Nat) (M' : zMem), IV (c + 1) S' sz' M' → zW mL_law 61 kc ks sc lwQ 1171 [some (zr (-2)), some (zn 0), some (zn 55), some (zi i)] [] sz' S' M') : zW mL_law 61 (kc + 11) (ks + 464) sc lwQ 601 [some (zr (-2)), some (zn 0), some (zn 55), some (zi i)] [] sz S M := by
  have hL := h.1
  have hs := h.2.1
  have hk := h.2.2.1
  have h54 := IV_54 h hc
  have ba1 : -2147483648 ≤ i + 1 ∧ i + 1 ≤ 2147483647 := by omega
  have ba2 : -2147483648 ≤ i + 2 ∧ i + 2 ≤ 2147483647 := by omega
  have ba3 : -2147483648 ≤ i + 3 ∧ i + 3 ≤ 2147483647 := by omega
  have ba4 : -2147483648 ≤ i + 4 ∧ i + 4 ≤ 2147483647 := by omega
  have ba5 : -2147483648 ≤ i + 5 ∧ i + 5 ≤ 2147483647 := by omega
  have bb1 : 0 ≤ i + 1 ∧ i + 1 < ((sc.length - 1 : Nat) : Int) := by omega
  have bb2 : 0 ≤ i + 2 ∧ i + 2 < ((sc.length - 1 : Nat) : Int) := by omega
  have bb3 : 0 ≤ i + 3 ∧ i + 3 < ((sc.length - 1 : Nat) : Int) := by omega
  have bb4 : 0 ≤ i + 4 ∧ i + 4 < ((sc.length - 1 : Nat) : Int) := by omega
  have bb5 : 0 ≤ i + 5 ∧ i + 5 < ((sc.length - 1 : Nat) : Int) := by omega
  have hx := h.2.2.2.2.2.2.2.2.2.2
  obtain ⟨Lw, hLc, hLi⟩ := LA_Lw hk h.2.2.2.2.2.2.2.1
  obtain ⟨l, n0, hlr, hl2, h32, hv⟩ := h.2.2.2.2.2.2.1
  refine zW_room (kc' := kc) (ks' := ks) (by omega) (by omega) ?_
  refine x_aload_n 602 rfl dL_law_601 1 rfl rfl ?_
  refine x_aload_n 603 rfl dL_law_602 0 rfl rfl ?_
  refine x_iload_n 604 rfl dL_law_603 3 rfl rfl ?_
  refine x_iconst 605 rfl dL_law_604 (by decide) ?_
  refine y_iadd 606 rfl dL_law_605 ba1 ?_
  refine x_sld 607 rfl dL_law_606 hsc bb1.1 bb1.2 ?_
  refine x_aload_n 608 rfl dL_law_607 0 rfl rfl ?_
  refine x_iload_n 609 rfl dL_law_608 3 rfl rfl ?_
  refine x_iconst 610 rfl dL_law_609 (by decide) ?_
  refine y_iadd 611 rfl dL_law_610 ba2 ?_
  refine x_sld 612 rfl dL_law_611 hsc bb2.1 bb2.2 ?_
  refine x_cVi 615 rfl lL_78 dL_law_612 (lyl0 hL) (lys0 hL) (c_X10_hunt hL h54 hs hk hLc hx.1 hlr) rfl rfl (Nat.le_of_ble_eq_true rfl) (fun r1 M1 h1 => ?_)
  have h1 : clA Lw M l n0 16 _ _ r1 M1 := h1
  have e1 := rS_act h1
  obtain ⟨q1, q2, q3, q4, q5, q6, q7, q8⟩ := IV_rd h hc e1
  refine x_aload_n 616 rfl dL_law_615 2 rfl rfl ?_
  refine x_aload_n 617 rfl dL_law_616 0 rfl rfl ?_
  refine x_iload_n 618 rfl dL_law_617 3 rfl rfl ?_
  refine x_iconst 619 rfl dL_law_618 (by decide) ?_
  refine y_iadd 620 rfl dL_law_619 ba1 ?_
  refine x_sld 621 rfl dL_law_620 hsc bb1.1 bb1.2 ?_
  refine x_aload_n 622 rfl dL_law_621 0 rfl rfl ?_
  refine x_iload_n 623 rfl dL_law_622 3 rfl rfl ?_
  refine x_iconst 624 rfl dL_law_623 (by decide) ?_
  refine y_iadd 625 rfl dL_law_624 ba2 ?_
  refine x_sld 626 rfl dL_law_625 hsc bb2.1 bb2.2 ?_
  refine x_cVi 629 rfl lL_81 dL_law_626 (lyl55 hL) (lys55 hL) (c_X11_hunt hL q1 (by rw [e1 57 (by decide) (by decide)]; exact hLi) q3 q2) rfl rfl (Nat.le_of_ble_eq_true rfl) (fun r2 M2 h2 => ?_)
  obtain ⟨N2, h3, h4⟩ := h2
  obtain ⟨hr, hI⟩ := iv_act h (by decide) hlr hl2 h32 hv h1 (refA_hunt q1 h3) h4
  refine x_icmp_eq 632 1171 rfl dL_law_629 (by decide) (fun c629 => ?_) (fun c629 => ?_)
  · exact K _ _ _ hI
  · first | exact absurd hr c629 | exact absurd hr.symm c629

set_option maxRecDepth 100000 in
set_option maxHeartbeats 4000000 in
theorem lw_c_sell {sc : List Int} (hsc : sc ≠ []) (hlen : sc.length ≤ 3073) {i : Int} (hi0 : 0 ≤ i) (hi6 : i + 6 ≤ ((sc.length - 1 : Nat) : Int)) {c : Int} (hc : c ≤ 1000) {kc ks : Nat} {S : zSh} {sz : Nat} {M : zMem} (h : IV c S sz M) (K : ∀ (S' : zSh) (sz' : Nat) (M' : zMem), IV (c + 1) S' sz' M' → zW mL_law 61 kc ks sc lwQ 1171 [some (zr (-2)), some (zn 0), some (zn 55), some (zi i)] [] sz' S' M') : zW mL_law 61 (kc + 11) (ks + 464) sc lwQ 634 [some (zr (-2)), some (zn 0), some (zn 55), some (zi i)] [] sz S M := by
  have hL := h.1
  have hs := h.2.1
  have hk := h.2.2.1
  have h54 := IV_54 h hc
  have ba1 : -2147483648 ≤ i + 1 ∧ i + 1 ≤ 2147483647 := by omega
  have ba2 : -2147483648 ≤ i + 2 ∧ i + 2 ≤ 2147483647 := by omega
  have ba3 : -2147483648 ≤ i + 3 ∧ i + 3 ≤ 2147483647 := by omega
  have ba4 : -2147483648 ≤ i + 4 ∧ i + 4 ≤ 2147483647 := by omega
  have ba5 : -2147483648 ≤ i + 5 ∧ i + 5 ≤ 2147483647 := by omega
  have bb1 : 0 ≤ i + 1 ∧ i + 1 < ((sc.length - 1 : Nat) : Int) := by omega
  have bb2 : 0 ≤ i + 2 ∧ i + 2 < ((sc.length - 1 : Nat) : Int) := by omega
  have bb3 : 0 ≤ i + 3 ∧ i + 3 < ((sc.length - 1 : Nat) : Int) := by omega
  have bb4 : 0 ≤ i + 4 ∧ i + 4 < ((sc.length - 1 : Nat) : Int) := by omega
  have bb5 : 0 ≤ i + 5 ∧ i + 5 < ((sc.length - 1 : Nat) : Int) := by omega
  have hx := h.2.2.2.2.2.2.2.2.2.2
  obtain ⟨Lw, hLc, hLi⟩ := LA_Lw hk h.2.2.2.2.2.2.2.1
  obtain ⟨l, n0, hlr, hl2, h32, hv⟩ := h.2.2.2.2.2.2.1
  refine zW_room (kc' := kc) (ks' := ks) (by omega) (by omega) ?_
  refine x_aload_n 635 rfl dL_law_634 1 rfl rfl ?_
  refine x_aload_n 636 rfl dL_law_635 0 rfl rfl ?_
  refine x_iload_n 637 rfl dL_law_636 3 rfl rfl ?_
  refine x_iconst 638 rfl dL_law_637 (by decide) ?_
  refine y_iadd 639 rfl dL_law_638 ba1 ?_
  refine x_sld 640 rfl dL_law_639 hsc bb1.1 bb1.2 ?_
  refine x_cVi 643 rfl lL_82 dL_law_640 (lyl0 hL) (lys0 hL) (c_X10_sell hL h54 hs hk hLc hx.1 hlr) rfl rfl (Nat.le_of_ble_eq_true rfl) (fun r1 M1 h1 => ?_)
  have h1 : clA Lw M l n0 17 _ 0 r1 M1 := h1
  have e1 := rS_act h1
  obtain ⟨q1, q2, q3, q4, q5, q6, q7, q8⟩ := IV_rd h hc e1
  refine x_aload_n 644 rfl dL_law_643 2 rfl rfl ?_
  refine x_aload_n 645 rfl dL_law_644 0 rfl rfl ?_
  refine x_iload_n 646 rfl dL_law_645 3 rfl rfl ?_
  refine x_iconst 647 rfl dL_law_646 (by decide) ?_
  refine y_iadd 648 rfl dL_law_647 ba1 ?_
  refine x_sld 649 rfl dL_law_648 hsc bb1.1 bb1.2 ?_
  refine x_cVi 652 rfl lL_85 dL_law_649 (lyl55 hL) (lys55 hL) (c_X11_sell hL q1 q3 q2) rfl rfl (Nat.le_of_ble_eq_true rfl) (fun r2 M2 h2 => ?_)
  obtain ⟨N2, h3, h4⟩ := h2
  obtain ⟨hr, hI⟩ := iv_act h (by decide) hlr hl2 h32 hv h1 (refA_sell q1 h3) h4
  refine x_icmp_eq 655 1171 rfl dL_law_652 (by decide) (fun c652 => ?_) (fun c652 => ?_)
  · exact K _ _ _ hI
  · first | exact absurd hr c652 | exact absurd hr.symm c652

set_option maxRecDepth 100000 in
set_option maxHeartbeats 4000000 in
theorem lw_c_advance {sc : List Int} (hsc : sc ≠ []) (hlen : sc.length ≤ 3073) {i : Int} (hi0 : 0 ≤ i) (hi6 : i + 6 ≤ ((sc.length - 1 : Nat) : Int)) {c : Int} (hc : c ≤ 1000) {kc ks : Nat} {S : zSh} {sz : Nat} {M : zMem} (h : IV c S sz M) (K : ∀ (S' : zSh) (sz' : Nat) (M' : zMem), IV (c + 1) S' sz' M' → zW mL_law 61 kc ks sc lwQ 1171 [some (zr (-2)), some (zn 0), some (zn 55), some (zi i)] [] sz' S' M') : zW mL_law 61 (kc + 11) (ks + 464) sc lwQ 657 [some (zr (-2)), some (zn 0), some (zn 55), some (zi i)] [] sz S M := by
  have hL := h.1
  have hs := h.2.1
  have hk := h.2.2.1
  have h54 := IV_54 h hc
  have ba1 : -2147483648 ≤ i + 1 ∧ i + 1 ≤ 2147483647 := by omega
  have ba2 : -2147483648 ≤ i + 2 ∧ i + 2 ≤ 2147483647 := by omega
  have ba3 : -2147483648 ≤ i + 3 ∧ i + 3 ≤ 2147483647 := by omega
  have ba4 : -2147483648 ≤ i + 4 ∧ i + 4 ≤ 2147483647 := by omega
  have ba5 : -2147483648 ≤ i + 5 ∧ i + 5 ≤ 2147483647 := by omega
  have bb1 : 0 ≤ i + 1 ∧ i + 1 < ((sc.length - 1 : Nat) : Int) := by omega
  have bb2 : 0 ≤ i + 2 ∧ i + 2 < ((sc.length - 1 : Nat) : Int) := by omega
  have bb3 : 0 ≤ i + 3 ∧ i + 3 < ((sc.length - 1 : Nat) : Int) := by omega
  have bb4 : 0 ≤ i + 4 ∧ i + 4 < ((sc.length - 1 : Nat) : Int) := by omega
  have bb5 : 0 ≤ i + 5 ∧ i + 5 < ((sc.length - 1 : Nat) : Int) := by omega
  have hx := h.2.2.2.2.2.2.2.2.2.2
  obtain ⟨Lw, hLc, hLi⟩ := LA_Lw hk h.2.2.2.2.2.2.2.1
  obtain ⟨l, n0, hlr, hl2, h32, hv⟩ := h.2.2.2.2.2.2.1
  refine zW_room (kc' := kc) (ks' := ks) (by omega) (by omega) ?_
  refine x_aload_n 658 rfl dL_law_657 1 rfl rfl ?_
  refine x_aload_n 659 rfl dL_law_658 0 rfl rfl ?_
  refine x_iload_n 660 rfl dL_law_659 3 rfl rfl ?_
  refine x_iconst 661 rfl dL_law_660 (by decide) ?_
  refine y_iadd 662 rfl dL_law_661 ba1 ?_
  refine x_sld 663 rfl dL_law_662 hsc bb1.1 bb1.2 ?_
  refine x_aload_n 664 rfl dL_law_663 0 rfl rfl ?_
  refine x_iload_n 665 rfl dL_law_664 3 rfl rfl ?_
  refine x_iconst 666 rfl dL_law_665 (by decide) ?_
  refine y_iadd 667 rfl dL_law_666 ba2 ?_
  refine x_sld 668 rfl dL_law_667 hsc bb2.1 bb2.2 ?_
  refine x_cVi 671 rfl lL_86 dL_law_668 (lyl0 hL) (lys0 hL) (c_X10_advance hL h54 hs hk hLc hx.1 hlr) rfl rfl (Nat.le_of_ble_eq_true rfl) (fun r1 M1 h1 => ?_)
  have h1 : clA Lw M l n0 18 _ _ r1 M1 := h1
  have e1 := rS_act h1
  obtain ⟨q1, q2, q3, q4, q5, q6, q7, q8⟩ := IV_rd h hc e1
  refine x_aload_n 672 rfl dL_law_671 2 rfl rfl ?_
  refine x_aload_n 673 rfl dL_law_672 0 rfl rfl ?_
  refine x_iload_n 674 rfl dL_law_673 3 rfl rfl ?_
  refine x_iconst 675 rfl dL_law_674 (by decide) ?_
  refine y_iadd 676 rfl dL_law_675 ba1 ?_
  refine x_sld 677 rfl dL_law_676 hsc bb1.1 bb1.2 ?_
  refine x_aload_n 678 rfl dL_law_677 0 rfl rfl ?_
  refine x_iload_n 679 rfl dL_law_678 3 rfl rfl ?_
  refine x_iconst 680 rfl dL_law_679 (by decide) ?_
  refine y_iadd 681 rfl dL_law_680 ba2 ?_
  refine x_sld 682 rfl dL_law_681 hsc bb2.1 bb2.2 ?_
  refine x_cVi 685 rfl lL_89 dL_law_682 (lyl55 hL) (lys55 hL) (c_X11_advance hL q1 q3 q2) rfl rfl (Nat.le_of_ble_eq_true rfl) (fun r2 M2 h2 => ?_)
  obtain ⟨N2, h3, h4⟩ := h2
  obtain ⟨hr, hI⟩ := iv_act h (by decide) hlr hl2 h32 hv h1 (refA_adv q1 h3) h4
  refine x_icmp_eq 688 1171 rfl dL_law_685 (by decide) (fun c685 => ?_) (fun c685 => ?_)
  · exact K _ _ _ hI
  · first | exact absurd hr c685 | exact absurd hr.symm c685

set_option maxRecDepth 100000 in
set_option maxHeartbeats 4000000 in
theorem lw_c_leave {sc : List Int} (hsc : sc ≠ []) (hlen : sc.length ≤ 3073) {i : Int} (hi0 : 0 ≤ i) (hi6 : i + 6 ≤ ((sc.length - 1 : Nat) : Int)) {c : Int} (hc : c ≤ 1000) {kc ks : Nat} {S : zSh} {sz : Nat} {M : zMem} (h : IV c S sz M) (K : ∀ (S' : zSh) (sz' : Nat) (M' : zMem), IV (c + 1) S' sz' M' → zW mL_law 61 kc ks sc lwQ 1171 [some (zr (-2)), some (zn 0), some (zn 55), some (zi i)] [] sz' S' M') : zW mL_law 61 (kc + 11) (ks + 464) sc lwQ 690 [some (zr (-2)), some (zn 0), some (zn 55), some (zi i)] [] sz S M := by
  have hL := h.1
  have hs := h.2.1
  have hk := h.2.2.1
  have h54 := IV_54 h hc
  have ba1 : -2147483648 ≤ i + 1 ∧ i + 1 ≤ 2147483647 := by omega
  have ba2 : -2147483648 ≤ i + 2 ∧ i + 2 ≤ 2147483647 := by omega
  have ba3 : -2147483648 ≤ i + 3 ∧ i + 3 ≤ 2147483647 := by omega
  have ba4 : -2147483648 ≤ i + 4 ∧ i + 4 ≤ 2147483647 := by omega
  have ba5 : -2147483648 ≤ i + 5 ∧ i + 5 ≤ 2147483647 := by omega
  have bb1 : 0 ≤ i + 1 ∧ i + 1 < ((sc.length - 1 : Nat) : Int) := by omega
  have bb2 : 0 ≤ i + 2 ∧ i + 2 < ((sc.length - 1 : Nat) : Int) := by omega
  have bb3 : 0 ≤ i + 3 ∧ i + 3 < ((sc.length - 1 : Nat) : Int) := by omega
  have bb4 : 0 ≤ i + 4 ∧ i + 4 < ((sc.length - 1 : Nat) : Int) := by omega
  have bb5 : 0 ≤ i + 5 ∧ i + 5 < ((sc.length - 1 : Nat) : Int) := by omega
  have hx := h.2.2.2.2.2.2.2.2.2.2
  obtain ⟨Lw, hLc, hLi⟩ := LA_Lw hk h.2.2.2.2.2.2.2.1
  obtain ⟨l, n0, hlr, hl2, h32, hv⟩ := h.2.2.2.2.2.2.1
  refine zW_room (kc' := kc) (ks' := ks) (by omega) (by omega) ?_
  refine x_aload_n 691 rfl dL_law_690 1 rfl rfl ?_
  refine x_aload_n 692 rfl dL_law_691 0 rfl rfl ?_
  refine x_iload_n 693 rfl dL_law_692 3 rfl rfl ?_
  refine x_iconst 694 rfl dL_law_693 (by decide) ?_
  refine y_iadd 695 rfl dL_law_694 ba1 ?_
  refine x_sld 696 rfl dL_law_695 hsc bb1.1 bb1.2 ?_
  refine x_cVi 699 rfl lL_90 dL_law_696 (lyl0 hL) (lys0 hL) (c_X10_leave hL h54 hs hk hLc hx.1 hlr) rfl rfl (Nat.le_of_ble_eq_true rfl) (fun r1 M1 h1 => ?_)
  have h1 : clA Lw M l n0 19 _ 0 r1 M1 := h1
  have e1 := rS_act h1
  obtain ⟨q1, q2, q3, q4, q5, q6, q7, q8⟩ := IV_rd h hc e1
  refine x_aload_n 700 rfl dL_law_699 2 rfl rfl ?_
  refine x_aload_n 701 rfl dL_law_700 0 rfl rfl ?_
  refine x_iload_n 702 rfl dL_law_701 3 rfl rfl ?_
  refine x_iconst 703 rfl dL_law_702 (by decide) ?_
  refine y_iadd 704 rfl dL_law_703 ba1 ?_
  refine x_sld 705 rfl dL_law_704 hsc bb1.1 bb1.2 ?_
  refine x_cVi 708 rfl lL_93 dL_law_705 (lyl55 hL) (lys55 hL) (c_X11_leave hL q1 q3 q2) rfl rfl (Nat.le_of_ble_eq_true rfl) (fun r2 M2 h2 => ?_)
  obtain ⟨N2, h3, h4⟩ := h2
  obtain ⟨hr, hI⟩ := iv_act h (by decide) hlr hl2 h32 hv h1 (refA_leave q1 h3) h4
  refine x_icmp_eq 711 1171 rfl dL_law_708 (by decide) (fun c708 => ?_) (fun c708 => ?_)
  · exact K _ _ _ hI
  · first | exact absurd hr c708 | exact absurd hr.symm c708
