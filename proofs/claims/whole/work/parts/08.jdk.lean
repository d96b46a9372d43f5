theorem zcmp_lt {x y : Int} : zcmp x y < 0 ↔ x < y := by unfold zcmp; split <;> (try split) <;> omega
theorem zcmp_le {x y : Int} : zcmp x y ≤ 0 ↔ x ≤ y := by unfold zcmp; split <;> (try split) <;> omega
theorem zcmp_gt {x y : Int} : 0 < zcmp x y ↔ y < x := by unfold zcmp; split <;> (try split) <;> omega
theorem zcmp_ge {x y : Int} : 0 ≤ zcmp x y ↔ y ≤ x := by unfold zcmp; split <;> (try split) <;> omega
theorem zcmp_eq {x y : Int} : zcmp x y = 0 ↔ x = y := by unfold zcmp; split <;> (try split) <;> omega
theorem zxor_neg {x y : Int} (hx : z_i32 x) (hy : z_i32 y) (h0 : 0 < y) : zxor x y < 0 ↔ x < 0 := by
  have e1 : ∀ a : Int32, a.toInt < 0 ↔ a.toBitVec.msb = true := fun a => by
    rw [show a.toInt = a.toBitVec.toInt from rfl, BitVec.msb_eq_toInt]
    simp
  have e2 : (Int32.ofInt x).toBitVec.msb = decide (x < 0) := by
    have := e1 (Int32.ofInt x)
    rw [i32_to hx] at this
    by_cases h : x < 0
    · rw [this.mp h, decide_eq_true h]
    · have h2 : ¬ (Int32.ofInt x).toBitVec.msb = true := fun q => h (this.mpr q)
      rw [Bool.eq_false_iff.mpr h2, decide_eq_false h]
  have e3 : (Int32.ofInt y).toBitVec.msb = false := by
    have := e1 (Int32.ofInt y)
    rw [i32_to hy] at this
    by_cases h : (Int32.ofInt y).toBitVec.msb = true
    · have := this.mpr h; omega
    · simpa using h
  unfold zxor
  rw [e1, Int32.toBitVec_xor, BitVec.msb_xor, e2, e3]
  simp
def z_pop (n : Int) : Int := n % 2 + n / 2 % 2 + n / 4 % 2 + n / 8 % 2 + n / 16 % 2 + n / 32 % 2 + n / 64 % 2 + n / 128 % 2
def z_bc (x : Int) : Int :=
  let x1 := w32 (x - zand (zushr x 1) 1431655765)
  let x2 := w32 (zand x1 858993459 + zand (zushr x1 2) 858993459)
  let x3 := zand (w32 (x2 + zushr x2 4)) 252645135
  let x4 := w32 (x3 + zushr x3 8)
  let x5 := w32 (x4 + zushr x4 16)
  zand x5 63
theorem z_bc_pop : ∀ n : Nat, n < 256 → z_bc n = z_pop n := by decide +kernel
theorem z_bcp {x : Int} (h : 0 ≤ x ∧ x < 256) : z_bc x = z_pop x := by
  have := z_bc_pop x.toNat (by omega)
  rwa [Int.toNat_of_nonneg h.1] at this
def zbit (A h : Int) : Int := if zand (zshr A h) 1 = 1 then 1 else 0

theorem z_fd {x y : Int} (h : 0 < y) (hx : z_i32 x) : z_i32 (x.tdiv y) ∧ z_i32 (x.tdiv y * y) ∧ (0 ≤ x → x.tdiv y = x / y) ∧ (x.tdiv y * y = x → x.tdiv y = x / y) ∧ (x < 0 → ¬ x.tdiv y * y = x → x.tdiv y - 1 = x / y ∧ -2147483648 ≤ x.tdiv y - 1) := by
  have hm := Int.tmod_add_mul_tdiv x y
  have hc : x.tdiv y * y = y * x.tdiv y := Int.mul_comm _ _
  have hu := fun (q r : Int) => (Int.ediv_emod_unique (a := x) (q := q) (r := r) h)
  unfold z_i32 at hx ⊢
  by_cases h0 : 0 ≤ x
  · have h1 := Int.tdiv_eq_ediv_of_nonneg (b := y) h0
    have h2 := Int.ediv_nonneg h0 (Int.le_of_lt h)
    have h3 := Int.ediv_le_self y h0
    have h4 := Int.tmod_nonneg y h0
    have h5 : 0 ≤ y * x.tdiv y := by rw [h1]; exact Int.mul_nonneg (Int.le_of_lt h) h2
    refine ⟨by omega, by omega, fun _ => h1, fun _ => h1, fun q => by omega⟩
  · have h4 : (-x).tmod y = -(x.tmod y) := Int.neg_tmod x y
    have h5 := Int.tmod_nonneg (a := -x) y (by omega)
    have h6 := Int.tmod_lt_of_pos (-x) h
    have h7 : (-x).tdiv y = -(x.tdiv y) := Int.neg_tdiv x y
    have h8 := Int.tdiv_eq_ediv_of_nonneg (a := -x) (b := y) (by omega)
    have h9 := Int.ediv_nonneg (a := -x) (b := y) (by omega) (Int.le_of_lt h)
    have h10 := Int.ediv_le_self (a := -x) y (by omega)
    have h11 : y * x.tdiv y ≤ 0 := by
      have := Int.mul_nonneg (Int.le_of_lt h) (a := y) (b := (-x).tdiv y) (by omega)
      rw [h7, Int.mul_neg] at this
      omega
    refine ⟨by omega, by omega, fun q => by omega, fun q => ?_, fun _ q => ?_⟩
    · exact ((hu (x.tdiv y) 0).mpr ⟨by omega, by omega, h⟩).1.symm
    · have e1 : y * (x.tdiv y - 1) = y * x.tdiv y - y := by rw [Int.mul_sub, Int.mul_one]
      have e2 : x.tdiv y - 1 = x / y := ((hu (x.tdiv y - 1) (x.tmod y + y)).mpr ⟨by omega, by omega, by omega⟩).1.symm
      refine ⟨e2, ?_⟩
      have h13 : x * y ≤ x * 1 := Int.mul_le_mul_of_nonpos_left (by omega) (by omega)
      have h12 : x ≤ x / y := Int.le_ediv_of_mul_le h (by omega)
      omega

set_option maxRecDepth 100000 in
set_option maxHeartbeats 4000000 in
theorem c_min {d sz : Nat} {S : zSh} {M : zMem} {x y : Int} : zX d 0 0 mJ9_min_7cf53 [zi x, zi y] sz S M (zI sz S (fun r M' => r = min x y ∧ M' = M)) := by
  refine zX_ofF pf_J9d [some (zi x), some (zi y)] 0 rfl rfl ?_
  refine x_iload_n 1 rfl dJ9_min_7cf53_0 0 rfl rfl ?_
  refine x_iload_n 2 rfl dJ9_min_7cf53_1 1 rfl rfl ?_
  refine x_icmp_gt 5 9 rfl dJ9_min_7cf53_2 (by decide) (fun c2 => ?_) (fun c2 => ?_)
  · refine x_iload_n 10 rfl dJ9_min_7cf53_9 1 rfl rfl ?_
    refine x_reti dJ9_min_7cf53_10 rfl ?_
    exact ⟨by omega, rfl⟩
  · refine x_iload_n 6 rfl dJ9_min_7cf53_5 0 rfl rfl ?_
    refine x_goto 10 dJ9_min_7cf53_6 (by decide) ?_
    refine x_reti dJ9_min_7cf53_10 rfl ?_
    exact ⟨by omega, rfl⟩

set_option maxRecDepth 100000 in
set_option maxHeartbeats 4000000 in
theorem c_max {d sz : Nat} {S : zSh} {M : zMem} {x y : Int} : zX d 0 0 mJ9_max_7cf53 [zi x, zi y] sz S M (zI sz S (fun r M' => r = max x y ∧ M' = M)) := by
  refine zX_ofF pf_J9b [some (zi x), some (zi y)] 0 rfl rfl ?_
  refine x_iload_n 1 rfl dJ9_max_7cf53_0 0 rfl rfl ?_
  refine x_iload_n 2 rfl dJ9_max_7cf53_1 1 rfl rfl ?_
  refine x_icmp_lt 5 9 rfl dJ9_max_7cf53_2 (by decide) (fun c2 => ?_) (fun c2 => ?_)
  · refine x_iload_n 10 rfl dJ9_max_7cf53_9 1 rfl rfl ?_
    refine x_reti dJ9_max_7cf53_10 rfl ?_
    exact ⟨by omega, rfl⟩
  · refine x_iload_n 6 rfl dJ9_max_7cf53_5 0 rfl rfl ?_
    refine x_goto 10 dJ9_max_7cf53_6 (by decide) ?_
    refine x_reti dJ9_max_7cf53_10 rfl ?_
    exact ⟨by omega, rfl⟩

set_option maxRecDepth 100000 in
set_option maxHeartbeats 4000000 in
theorem c_lmax {d sz : Nat} {S : zSh} {M : zMem} {x y : Int} : zX d 0 0 mJ9_max_f86c9 [zl x, zl y] sz S M (zJ sz S (fun r M' => r = max x y ∧ M' = M)) := by
  refine zX_ofF pf_J9c [some (zl x), none, some (zl y), none] 0 rfl rfl ?_
  refine x_lload_n 1 rfl dJ9_max_f86c9_0 0 rfl rfl ?_
  refine x_lload_n 2 rfl dJ9_max_f86c9_1 2 rfl rfl ?_
  refine x_lcmp 3 rfl dJ9_max_f86c9_2 ?_
  refine x_if_lt 6 10 rfl dJ9_max_f86c9_3 (by decide) (fun c3 => ?_) (fun c3 => ?_)
  · refine x_lload_n 11 rfl dJ9_max_f86c9_10 2 rfl rfl ?_
    refine x_retj dJ9_max_f86c9_11 rfl ?_
    rw [zcmp_lt] at c3
    exact ⟨by omega, rfl⟩
  · refine x_lload_n 7 rfl dJ9_max_f86c9_6 0 rfl rfl ?_
    refine x_goto 11 dJ9_max_f86c9_7 (by decide) ?_
    refine x_retj dJ9_max_f86c9_11 rfl ?_
    rw [zcmp_lt] at c3
    exact ⟨by omega, rfl⟩

set_option maxRecDepth 100000 in
set_option maxHeartbeats 4000000 in
theorem c_bitCount {d sz : Nat} {S : zSh} {M : zMem} {x : Int} (h : 0 ≤ x ∧ x < 256) : zX d 0 0 mJ6_bitCount_0f7a4 [zi x] sz S M (zI sz S (fun r M' => r = z_pop x ∧ M' = M)) := by
  refine zX_of pl_RJ6 [some (zi x)] 0 rfl rfl ?_
  refine x_iload_n 1 rfl dJ6_bitCount_0f7a4_0 0 rfl rfl ?_
  refine x_iload_n 2 rfl dJ6_bitCount_0f7a4_1 0 rfl rfl ?_
  refine x_iconst 3 rfl dJ6_bitCount_0f7a4_2 (by decide) ?_
  refine x_iushr 4 rfl dJ6_bitCount_0f7a4_3 ?_
  refine x_ldc_w (x := 1431655765) 7 rfl kJ6_265 (by decide) dJ6_bitCount_0f7a4_4 ?_
  refine x_iand 8 rfl dJ6_bitCount_0f7a4_7 ?_
  refine x_isub 9 rfl dJ6_bitCount_0f7a4_8 ?_
  refine x_istore_n 10 rfl dJ6_bitCount_0f7a4_9 rfl (ls' := [_]) rfl (by decide) ?_
  refine x_iload_n 11 rfl dJ6_bitCount_0f7a4_10 0 rfl rfl ?_
  refine x_ldc_w (x := 858993459) 14 rfl kJ6_266 (by decide) dJ6_bitCount_0f7a4_11 ?_
  refine x_iand 15 rfl dJ6_bitCount_0f7a4_14 ?_
  refine x_iload_n 16 rfl dJ6_bitCount_0f7a4_15 0 rfl rfl ?_
  refine x_iconst 17 rfl dJ6_bitCount_0f7a4_16 (by decide) ?_
  refine x_iushr 18 rfl dJ6_bitCount_0f7a4_17 ?_
  refine x_ldc_w (x := 858993459) 21 rfl kJ6_266 (by decide) dJ6_bitCount_0f7a4_18 ?_
  refine x_iand 22 rfl dJ6_bitCount_0f7a4_21 ?_
  refine x_iadd 23 rfl dJ6_bitCount_0f7a4_22 ?_
  refine x_istore_n 24 rfl dJ6_bitCount_0f7a4_23 rfl (ls' := [_]) rfl (by decide) ?_
  refine x_iload_n 25 rfl dJ6_bitCount_0f7a4_24 0 rfl rfl ?_
  refine x_iload_n 26 rfl dJ6_bitCount_0f7a4_25 0 rfl rfl ?_
  refine x_iconst 27 rfl dJ6_bitCount_0f7a4_26 (by decide) ?_
  refine x_iushr 28 rfl dJ6_bitCount_0f7a4_27 ?_
  refine x_iadd 29 rfl dJ6_bitCount_0f7a4_28 ?_
  refine x_ldc_w (x := 252645135) 32 rfl kJ6_267 (by decide) dJ6_bitCount_0f7a4_29 ?_
  refine x_iand 33 rfl dJ6_bitCount_0f7a4_32 ?_
  refine x_istore_n 34 rfl dJ6_bitCount_0f7a4_33 rfl (ls' := [_]) rfl (by decide) ?_
  refine x_iload_n 35 rfl dJ6_bitCount_0f7a4_34 0 rfl rfl ?_
  refine x_iload_n 36 rfl dJ6_bitCount_0f7a4_35 0 rfl rfl ?_
  refine x_bipush 38 rfl dJ6_bitCount_0f7a4_36 (by decide) ?_
  refine x_iushr 39 rfl dJ6_bitCount_0f7a4_38 ?_
  refine x_iadd 40 rfl dJ6_bitCount_0f7a4_39 ?_
  refine x_istore_n 41 rfl dJ6_bitCount_0f7a4_40 rfl (ls' := [_]) rfl (by decide) ?_
  refine x_iload_n 42 rfl dJ6_bitCount_0f7a4_41 0 rfl rfl ?_
  refine x_iload_n 43 rfl dJ6_bitCount_0f7a4_42 0 rfl rfl ?_
  refine x_bipush 45 rfl dJ6_bitCount_0f7a4_43 (by decide) ?_
  refine x_iushr 46 rfl dJ6_bitCount_0f7a4_45 ?_
  refine x_iadd 47 rfl dJ6_bitCount_0f7a4_46 ?_
  refine x_istore_n 48 rfl dJ6_bitCount_0f7a4_47 rfl (ls' := [_]) rfl (by decide) ?_
  refine x_iload_n 49 rfl dJ6_bitCount_0f7a4_48 0 rfl rfl ?_
  refine x_bipush 51 rfl dJ6_bitCount_0f7a4_49 (by decide) ?_
  refine x_iand 52 rfl dJ6_bitCount_0f7a4_51 ?_
  refine x_reti dJ6_bitCount_0f7a4_52 rfl ?_
  exact ⟨z_bcp h, rfl⟩

set_option maxRecDepth 100000 in
set_option maxHeartbeats 4000000 in
theorem c_floorDiv {d sz : Nat} {S : zSh} {M : zMem} {x y : Int} (h : 0 < y) (hx : z_i32 x) (hy : z_i32 y) : zX d 0 0 mJ9_floorDiv_7cf53 [zi x, zi y] sz S M (zI sz S (fun r M' => r = x / y ∧ M' = M)) := by
  obtain ⟨q1, q2, q3, q4, q5⟩ := z_fd h hx
  refine zX_ofF pf_J9a [some (zi x), some (zi y), none] 1 rfl rfl ?_
  refine x_iload_n 1 rfl dJ9_floorDiv_7cf53_0 0 rfl rfl ?_
  refine x_iload_n 2 rfl dJ9_floorDiv_7cf53_1 1 rfl rfl ?_
  refine x_idiv 3 rfl dJ9_floorDiv_7cf53_2 (by omega) ?_
  rw [w32_id q1]
  refine x_istore_n 4 rfl dJ9_floorDiv_7cf53_3 rfl (ls' := [_, _, _]) rfl (by decide) ?_
  refine x_iload_n 5 rfl dJ9_floorDiv_7cf53_4 0 rfl rfl ?_
  refine x_iload_n 6 rfl dJ9_floorDiv_7cf53_5 1 rfl rfl ?_
  refine x_ixor 7 rfl dJ9_floorDiv_7cf53_6 ?_
  refine x_if_ge 10 21 rfl dJ9_floorDiv_7cf53_7 (by decide) (fun c7 => ?_) (fun c7 => ?_)
  · refine x_iload_n 22 rfl dJ9_floorDiv_7cf53_21 2 rfl rfl ?_
    refine x_reti dJ9_floorDiv_7cf53_22 rfl ?_
    first | exact ⟨(by have := zxor_neg hx hy h; omega), rfl⟩ | exact ⟨q4 c14, rfl⟩
  · refine x_iload_n 11 rfl dJ9_floorDiv_7cf53_10 2 rfl rfl ?_
    refine x_iload_n 12 rfl dJ9_floorDiv_7cf53_11 1 rfl rfl ?_
    refine y_imul 13 rfl dJ9_floorDiv_7cf53_12 q2 ?_
    refine x_iload_n 14 rfl dJ9_floorDiv_7cf53_13 0 rfl rfl ?_
    refine x_icmp_eq 17 21 rfl dJ9_floorDiv_7cf53_14 (by decide) (fun c14 => ?_) (fun c14 => ?_)
    · refine x_iload_n 22 rfl dJ9_floorDiv_7cf53_21 2 rfl rfl ?_
      refine x_reti dJ9_floorDiv_7cf53_22 rfl ?_
      first | exact ⟨(by have := zxor_neg hx hy h; omega), rfl⟩ | exact ⟨q4 c14, rfl⟩
    · refine x_iload_n 18 rfl dJ9_floorDiv_7cf53_17 2 rfl rfl ?_
      refine x_iconst 19 rfl dJ9_floorDiv_7cf53_18 (by decide) ?_
      refine y_isub 20 rfl dJ9_floorDiv_7cf53_19 (by have := zxor_neg hx hy h; have := q5 (by omega) c14; unfold z_i32 at q1; omega) ?_
      refine x_reti dJ9_floorDiv_7cf53_20 rfl ?_
      first | exact ⟨(by have := zxor_neg hx hy h; omega), rfl⟩ | exact ⟨q4 c14, rfl⟩
