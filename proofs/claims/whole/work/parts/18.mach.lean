theorem ku_eq {f : Nat → Int} {i : Nat} {v : Int} : ku f i v i = v := by simp [ku]
def zBK : Int := -2000000000
def zclip (x : Int) : Int := if x > 1000000000 ∨ x < -1000000000 then zBK else x
def zjoin (p l r : Int) : Int := if p = 8 then (if l < r then 1 else 0) else if p = 9 then (if r < l then 1 else 0) else if p = 10 then (if l = r then 1 else 0) else if p = 3 then zclip (l + r) else if p = 4 then zclip (l - r) else if p = 5 then zclip (l * r) else if r = 0 then zBK else if p = 6 then zclip (l.tdiv r) else zclip (l.tmod r)
theorem zjoin_in (p l r : Int) : zjoin p l r = zBK ∨ (-1000000000 ≤ zjoin p l r ∧ zjoin p l r ≤ 1000000000) := by
  unfold zjoin zclip zBK
  repeat' split
  all_goals omega
theorem z_mulabs {l r : Int} (hl : -1000001000 ≤ l ∧ l ≤ 1000001000) (hr : -1000001000 ≤ r ∧ r ≤ 1000001000) : -2000000000000000000 ≤ l * r ∧ l * r ≤ 2000000000000000000 := by
  have h1 : (l * r).natAbs ≤ 1000001000 * 1000001000 := by
    rw [Int.natAbs_mul]
    exact Nat.mul_le_mul (by omega) (by omega)
  omega
theorem z_tdivabs {l r : Int} : (l.tdiv r).natAbs ≤ l.natAbs := by
  rw [Int.natAbs_tdiv]
  exact Nat.div_le_self _ _
theorem z_tmodabs {l r : Int} : (l.tmod r).natAbs ≤ l.natAbs := by
  rw [Int.natAbs_tmod]
  exact Nat.mod_le _ _
/-- the class's machine: what a code's value is -/
def mach (C : Nat → Int) (len : Nat) (V : Nat → Int) : Nat → Nat → Nat → (Nat → Int) → Int
  | 0, size, _, stk => if size = 1 then stk 0 else zBK
  | n + 1, size, place, stk =>
    if len ≤ place then (if size = 1 then stk 0 else zBK)
    else if C place % 16 = 0 then (if size = 1 then stk 0 else zBK)
    else if 64 ≤ size ∨ (C place % 16 = 2 ∧ 25 ≤ C place / 16) then zBK
    else if C place % 16 = 1 ∨ C place % 16 = 2 then mach C len V n (size + 1) (place + 1) (ku stk size (if C place % 16 = 1 then C place / 16 else V (C place / 16).toNat))
    else if size < 1 then zBK
    else if C place % 16 = 11 then mach C len V n size (place + 1) (ku stk (size - 1) (1 - stk (size - 1)))
    else if C place % 16 = 12 ∨ C place % 16 = 13 then (if stk (size - 1) = (if C place % 16 = 12 then 1 else 0) then mach C len V n size (C place / 16).toNat stk else mach C len V n (size - 1) (place + 1) stk)
    else if size < 2 then zBK
    else if zjoin (C place % 16) (stk (size - 2)) (stk (size - 1)) = zBK then zBK
    else mach C len V n (size - 1) (place + 1) (ku stk (size - 2) (zjoin (C place % 16) (stk (size - 2)) (stk (size - 1))))

set_option maxRecDepth 100000 in
set_option maxHeartbeats 4000000 in
theorem c_X3_joined {d sz : Nat} {S : zSh} {M : zMem} {p l r : Int} (hl : -1000001000 ≤ l ∧ l ≤ 1000001000) (hr : -1000001000 ≤ r ∧ r ≤ 1000001000) : zX d 0 0 mX3_joined [zi p, zl l, zl r] sz S M (zI sz S (fun r2 M' => r2 = zjoin p l r ∧ M' = M)) := by
  have hm := z_mulabs hl hr
  have hd := z_tdivabs (l := l) (r := r)
  have hq := z_tmodabs (l := l) (r := r)
  refine zX_of pl_RX3 [some (zi p), some (zl l), none, some (zl r), none, none, none] 2 rfl rfl ?_
  refine x_lconst (x := 0) 1 rfl dX3_joined_0 rfl ?_
  refine y_lstore 3 rfl dX3_joined_1 rfl (ls' := [_, _, _, _, _, _, _]) rfl (by decide) ?_
  refine x_iload_n 4 rfl dX3_joined_3 0 rfl rfl ?_
  refine x_tsC (3) 88 0 dX3_joined_4 (by decide) (by decide) (by decide) rfl (by decide) (fun c4 => ?_) (fun c4_0 => ?_)
  · refine x_lload_n 89 rfl dX3_joined_88 1 rfl rfl ?_
    refine x_lload_n 90 rfl dX3_joined_89 3 rfl rfl ?_
    refine y_ladd 91 rfl dX3_joined_90 (by omega) ?_
    refine y_lstore 93 rfl dX3_joined_91 rfl (ls' := [_, _, _, _, _, _, _]) rfl (by decide) ?_
    refine x_goto 138 dX3_joined_93 (by decide) ?_
    refine x_lload 140 rfl dX3_joined_138 rfl ?_
    refine x_ldc2 (x := 1000000000) 143 rfl klX3_20 (by decide) dX3_joined_140 ?_
    refine x_lcmp 144 rfl dX3_joined_143 ?_
    refine x_if_gt 147 156 rfl dX3_joined_144 (by decide) (fun c144 => ?_) (fun c144 => ?_)
    · rw [zcmp_gt] at c144
      refine x_ldc (x := -2000000000) 158 rfl kX3_15 (by decide) dX3_joined_156 ?_
      refine x_goto 164 dX3_joined_158 (by decide) ?_
      refine x_reti dX3_joined_164 rfl ?_
      refine ⟨?_, rfl⟩
      simp only [zjoin, zclip, zBK]
      repeat' split
      all_goals first | omega | (exfalso; omega)
    · rw [zcmp_gt] at c144
      refine x_lload 149 rfl dX3_joined_147 rfl ?_
      refine x_ldc2 (x := -1000000000) 152 rfl klX3_22 (by decide) dX3_joined_149 ?_
      refine x_lcmp 153 rfl dX3_joined_152 ?_
      refine x_if_ge 156 161 rfl dX3_joined_153 (by decide) (fun c153 => ?_) (fun c153 => ?_)
      · rw [zcmp_ge] at c153
        refine x_lload 163 rfl dX3_joined_161 rfl ?_
        refine x_l2i 164 rfl dX3_joined_163 ?_
        rw [w32_id (by unfold z_i32; omega)]
        refine x_reti dX3_joined_164 rfl ?_
        refine ⟨?_, rfl⟩
        simp only [zjoin, zclip, zBK]
        repeat' split
        all_goals first | omega | (exfalso; omega)
      · rw [zcmp_ge] at c153
        refine x_ldc (x := -2000000000) 158 rfl kX3_15 (by decide) dX3_joined_156 ?_
        refine x_goto 164 dX3_joined_158 (by decide) ?_
        refine x_reti dX3_joined_164 rfl ?_
        refine ⟨?_, rfl⟩
        simp only [zjoin, zclip, zBK]
        repeat' split
        all_goals first | omega | (exfalso; omega)
  refine x_tsC (4) 96 1 dX3_joined_4 (by decide) (by decide) (by decide) rfl (by decide) (fun c4 => ?_) (fun c4_1 => ?_)
  · refine x_lload_n 97 rfl dX3_joined_96 1 rfl rfl ?_
    refine x_lload_n 98 rfl dX3_joined_97 3 rfl rfl ?_
    refine y_lsub 99 rfl dX3_joined_98 (by omega) ?_
    refine y_lstore 101 rfl dX3_joined_99 rfl (ls' := [_, _, _, _, _, _, _]) rfl (by decide) ?_
    refine x_goto 138 dX3_joined_101 (by decide) ?_
    refine x_lload 140 rfl dX3_joined_138 rfl ?_
    refine x_ldc2 (x := 1000000000) 143 rfl klX3_20 (by decide) dX3_joined_140 ?_
    refine x_lcmp 144 rfl dX3_joined_143 ?_
    refine x_if_gt 147 156 rfl dX3_joined_144 (by decide) (fun c144 => ?_) (fun c144 => ?_)
    · rw [zcmp_gt] at c144
      refine x_ldc (x := -2000000000) 158 rfl kX3_15 (by decide) dX3_joined_156 ?_
      refine x_goto 164 dX3_joined_158 (by decide) ?_
      refine x_reti dX3_joined_164 rfl ?_
      refine ⟨?_, rfl⟩
      simp only [zjoin, zclip, zBK]
      repeat' split
      all_goals first | omega | (exfalso; omega)
    · rw [zcmp_gt] at c144
      refine x_lload 149 rfl dX3_joined_147 rfl ?_
      refine x_ldc2 (x := -1000000000) 152 rfl klX3_22 (by decide) dX3_joined_149 ?_
      refine x_lcmp 153 rfl dX3_joined_152 ?_
      refine x_if_ge 156 161 rfl dX3_joined_153 (by decide) (fun c153 => ?_) (fun c153 => ?_)
      · rw [zcmp_ge] at c153
        refine x_lload 163 rfl dX3_joined_161 rfl ?_
        refine x_l2i 164 rfl dX3_joined_163 ?_
        rw [w32_id (by unfold z_i32; omega)]
        refine x_reti dX3_joined_164 rfl ?_
        refine ⟨?_, rfl⟩
        simp only [zjoin, zclip, zBK]
        repeat' split
        all_goals first | omega | (exfalso; omega)
      · rw [zcmp_ge] at c153
        refine x_ldc (x := -2000000000) 158 rfl kX3_15 (by decide) dX3_joined_156 ?_
        refine x_goto 164 dX3_joined_158 (by decide) ?_
        refine x_reti dX3_joined_164 rfl ?_
        refine ⟨?_, rfl⟩
        simp only [zjoin, zclip, zBK]
        repeat' split
        all_goals first | omega | (exfalso; omega)
  refine x_tsC (5) 104 2 dX3_joined_4 (by decide) (by decide) (by decide) rfl (by decide) (fun c4 => ?_) (fun c4_2 => ?_)
  · refine x_lload_n 105 rfl dX3_joined_104 1 rfl rfl ?_
    refine x_lload_n 106 rfl dX3_joined_105 3 rfl rfl ?_
    refine y_lmul 107 rfl dX3_joined_106 (by omega) ?_
    refine y_lstore 109 rfl dX3_joined_107 rfl (ls' := [_, _, _, _, _, _, _]) rfl (by decide) ?_
    refine x_goto 138 dX3_joined_109 (by decide) ?_
    refine x_lload 140 rfl dX3_joined_138 rfl ?_
    refine x_ldc2 (x := 1000000000) 143 rfl klX3_20 (by decide) dX3_joined_140 ?_
    refine x_lcmp 144 rfl dX3_joined_143 ?_
    refine x_if_gt 147 156 rfl dX3_joined_144 (by decide) (fun c144 => ?_) (fun c144 => ?_)
    · rw [zcmp_gt] at c144
      refine x_ldc (x := -2000000000) 158 rfl kX3_15 (by decide) dX3_joined_156 ?_
      refine x_goto 164 dX3_joined_158 (by decide) ?_
      refine x_reti dX3_joined_164 rfl ?_
      refine ⟨?_, rfl⟩
      simp only [zjoin, zclip, zBK]
      repeat' split
      all_goals first | omega | (exfalso; omega)
    · rw [zcmp_gt] at c144
      refine x_lload 149 rfl dX3_joined_147 rfl ?_
      refine x_ldc2 (x := -1000000000) 152 rfl klX3_22 (by decide) dX3_joined_149 ?_
      refine x_lcmp 153 rfl dX3_joined_152 ?_
      refine x_if_ge 156 161 rfl dX3_joined_153 (by decide) (fun c153 => ?_) (fun c153 => ?_)
      · rw [zcmp_ge] at c153
        refine x_lload 163 rfl dX3_joined_161 rfl ?_
        refine x_l2i 164 rfl dX3_joined_163 ?_
        rw [w32_id (by unfold z_i32; omega)]
        refine x_reti dX3_joined_164 rfl ?_
        refine ⟨?_, rfl⟩
        simp only [zjoin, zclip, zBK]
        repeat' split
        all_goals first | omega | (exfalso; omega)
      · rw [zcmp_ge] at c153
        refine x_ldc (x := -2000000000) 158 rfl kX3_15 (by decide) dX3_joined_156 ?_
        refine x_goto 164 dX3_joined_158 (by decide) ?_
        refine x_reti dX3_joined_164 rfl ?_
        refine ⟨?_, rfl⟩
        simp only [zjoin, zclip, zBK]
        repeat' split
        all_goals first | omega | (exfalso; omega)
  refine x_tsC (6) 112 3 dX3_joined_4 (by decide) (by decide) (by decide) rfl (by decide) (fun c4 => ?_) (fun c4_3 => ?_)
  · refine x_lload_n 113 rfl dX3_joined_112 3 rfl rfl ?_
    refine x_lconst (x := 0) 114 rfl dX3_joined_113 rfl ?_
    refine x_lcmp 115 rfl dX3_joined_114 ?_
    refine x_if_ne 118 121 rfl dX3_joined_115 (by decide) (fun c115 => ?_) (fun c115 => ?_)
    · rw [zcmp_eq] at c115
      refine x_iload_n 122 rfl dX3_joined_121 0 rfl rfl ?_
      refine x_bipush 124 rfl dX3_joined_122 (by decide) ?_
      refine x_icmp_ne 127 133 rfl dX3_joined_124 (by decide) (fun c124 => ?_) (fun c124 => ?_)
      · refine x_lload_n 134 rfl dX3_joined_133 1 rfl rfl ?_
        refine x_lload_n 135 rfl dX3_joined_134 3 rfl rfl ?_
        refine x_lrem 136 rfl dX3_joined_135 (by omega) ?_
        refine y_lstore 138 rfl dX3_joined_136 rfl (ls' := [_, _, _, _, _, _, _]) rfl (by decide) ?_
        refine x_lload 140 rfl dX3_joined_138 rfl ?_
        refine x_ldc2 (x := 1000000000) 143 rfl klX3_20 (by decide) dX3_joined_140 ?_
        refine x_lcmp 144 rfl dX3_joined_143 ?_
        refine x_if_gt 147 156 rfl dX3_joined_144 (by decide) (fun c144 => ?_) (fun c144 => ?_)
        · rw [zcmp_gt] at c144
          refine x_ldc (x := -2000000000) 158 rfl kX3_15 (by decide) dX3_joined_156 ?_
          refine x_goto 164 dX3_joined_158 (by decide) ?_
          refine x_reti dX3_joined_164 rfl ?_
          refine ⟨?_, rfl⟩
          simp only [zjoin, zclip, zBK]
          repeat' split
          all_goals first | omega | (exfalso; omega)
        · rw [zcmp_gt] at c144
          refine x_lload 149 rfl dX3_joined_147 rfl ?_
          refine x_ldc2 (x := -1000000000) 152 rfl klX3_22 (by decide) dX3_joined_149 ?_
          refine x_lcmp 153 rfl dX3_joined_152 ?_
          refine x_if_ge 156 161 rfl dX3_joined_153 (by decide) (fun c153 => ?_) (fun c153 => ?_)
          · rw [zcmp_ge] at c153
            refine x_lload 163 rfl dX3_joined_161 rfl ?_
            refine x_l2i 164 rfl dX3_joined_163 ?_
            rw [w32_id (by unfold z_i32; omega)]
            refine x_reti dX3_joined_164 rfl ?_
            refine ⟨?_, rfl⟩
            simp only [zjoin, zclip, zBK]
            repeat' split
            all_goals first | omega | (exfalso; omega)
          · rw [zcmp_ge] at c153
            refine x_ldc (x := -2000000000) 158 rfl kX3_15 (by decide) dX3_joined_156 ?_
            refine x_goto 164 dX3_joined_158 (by decide) ?_
            refine x_reti dX3_joined_164 rfl ?_
            refine ⟨?_, rfl⟩
            simp only [zjoin, zclip, zBK]
            repeat' split
            all_goals first | omega | (exfalso; omega)
      · refine x_lload_n 128 rfl dX3_joined_127 1 rfl rfl ?_
        refine x_lload_n 129 rfl dX3_joined_128 3 rfl rfl ?_
        refine x_ldiv 130 rfl dX3_joined_129 (by omega) ?_
        rw [w64_id (by unfold z_i64; omega)]
        refine x_goto 136 dX3_joined_130 (by decide) ?_
        refine y_lstore 138 rfl dX3_joined_136 rfl (ls' := [_, _, _, _, _, _, _]) rfl (by decide) ?_
        refine x_lload 140 rfl dX3_joined_138 rfl ?_
        refine x_ldc2 (x := 1000000000) 143 rfl klX3_20 (by decide) dX3_joined_140 ?_
        refine x_lcmp 144 rfl dX3_joined_143 ?_
        refine x_if_gt 147 156 rfl dX3_joined_144 (by decide) (fun c144 => ?_) (fun c144 => ?_)
        · rw [zcmp_gt] at c144
          refine x_ldc (x := -2000000000) 158 rfl kX3_15 (by decide) dX3_joined_156 ?_
          refine x_goto 164 dX3_joined_158 (by decide) ?_
          refine x_reti dX3_joined_164 rfl ?_
          refine ⟨?_, rfl⟩
          simp only [zjoin, zclip, zBK]
          repeat' split
          all_goals first | omega | (exfalso; omega)
        · rw [zcmp_gt] at c144
          refine x_lload 149 rfl dX3_joined_147 rfl ?_
          refine x_ldc2 (x := -1000000000) 152 rfl klX3_22 (by decide) dX3_joined_149 ?_
          refine x_lcmp 153 rfl dX3_joined_152 ?_
          refine x_if_ge 156 161 rfl dX3_joined_153 (by decide) (fun c153 => ?_) (fun c153 => ?_)
          · rw [zcmp_ge] at c153
            refine x_lload 163 rfl dX3_joined_161 rfl ?_
            refine x_l2i 164 rfl dX3_joined_163 ?_
            rw [w32_id (by unfold z_i32; omega)]
            refine x_reti dX3_joined_164 rfl ?_
            refine ⟨?_, rfl⟩
            simp only [zjoin, zclip, zBK]
            repeat' split
            all_goals first | omega | (exfalso; omega)
          · rw [zcmp_ge] at c153
            refine x_ldc (x := -2000000000) 158 rfl kX3_15 (by decide) dX3_joined_156 ?_
            refine x_goto 164 dX3_joined_158 (by decide) ?_
            refine x_reti dX3_joined_164 rfl ?_
            refine ⟨?_, rfl⟩
            simp only [zjoin, zclip, zBK]
            repeat' split
            all_goals first | omega | (exfalso; omega)
    · rw [zcmp_eq] at c115
      refine x_ldc (x := -2000000000) 120 rfl kX3_15 (by decide) dX3_joined_118 ?_
      refine x_reti dX3_joined_120 rfl ?_
      refine ⟨?_, rfl⟩
      simp only [zjoin, zclip, zBK]
      repeat' split
      all_goals first | omega | (exfalso; omega)
  refine x_tsC (7) 112 4 dX3_joined_4 (by decide) (by decide) (by decide) rfl (by decide) (fun c4 => ?_) (fun c4_4 => ?_)
  · refine x_lload_n 113 rfl dX3_joined_112 3 rfl rfl ?_
    refine x_lconst (x := 0) 114 rfl dX3_joined_113 rfl ?_
    refine x_lcmp 115 rfl dX3_joined_114 ?_
    refine x_if_ne 118 121 rfl dX3_joined_115 (by decide) (fun c115 => ?_) (fun c115 => ?_)
    · rw [zcmp_eq] at c115
      refine x_iload_n 122 rfl dX3_joined_121 0 rfl rfl ?_
      refine x_bipush 124 rfl dX3_joined_122 (by decide) ?_
      refine x_icmp_ne 127 133 rfl dX3_joined_124 (by decide) (fun c124 => ?_) (fun c124 => ?_)
      · refine x_lload_n 134 rfl dX3_joined_133 1 rfl rfl ?_
        refine x_lload_n 135 rfl dX3_joined_134 3 rfl rfl ?_
        refine x_lrem 136 rfl dX3_joined_135 (by omega) ?_
        refine y_lstore 138 rfl dX3_joined_136 rfl (ls' := [_, _, _, _, _, _, _]) rfl (by decide) ?_
        refine x_lload 140 rfl dX3_joined_138 rfl ?_
        refine x_ldc2 (x := 1000000000) 143 rfl klX3_20 (by decide) dX3_joined_140 ?_
        refine x_lcmp 144 rfl dX3_joined_143 ?_
        refine x_if_gt 147 156 rfl dX3_joined_144 (by decide) (fun c144 => ?_) (fun c144 => ?_)
        · rw [zcmp_gt] at c144
          refine x_ldc (x := -2000000000) 158 rfl kX3_15 (by decide) dX3_joined_156 ?_
          refine x_goto 164 dX3_joined_158 (by decide) ?_
          refine x_reti dX3_joined_164 rfl ?_
          refine ⟨?_, rfl⟩
          simp only [zjoin, zclip, zBK]
          repeat' split
          all_goals first | omega | (exfalso; omega)
        · rw [zcmp_gt] at c144
          refine x_lload 149 rfl dX3_joined_147 rfl ?_
          refine x_ldc2 (x := -1000000000) 152 rfl klX3_22 (by decide) dX3_joined_149 ?_
          refine x_lcmp 153 rfl dX3_joined_152 ?_
          refine x_if_ge 156 161 rfl dX3_joined_153 (by decide) (fun c153 => ?_) (fun c153 => ?_)
          · rw [zcmp_ge] at c153
            refine x_lload 163 rfl dX3_joined_161 rfl ?_
            refine x_l2i 164 rfl dX3_joined_163 ?_
            rw [w32_id (by unfold z_i32; omega)]
            refine x_reti dX3_joined_164 rfl ?_
            refine ⟨?_, rfl⟩
            simp only [zjoin, zclip, zBK]
            repeat' split
            all_goals first | omega | (exfalso; omega)
          · rw [zcmp_ge] at c153
            refine x_ldc (x := -2000000000) 158 rfl kX3_15 (by decide) dX3_joined_156 ?_
            refine x_goto 164 dX3_joined_158 (by decide) ?_
            refine x_reti dX3_joined_164 rfl ?_
            refine ⟨?_, rfl⟩
            simp only [zjoin, zclip, zBK]
            repeat' split
            all_goals first | omega | (exfalso; omega)
      · refine x_lload_n 128 rfl dX3_joined_127 1 rfl rfl ?_
        refine x_lload_n 129 rfl dX3_joined_128 3 rfl rfl ?_
        refine x_ldiv 130 rfl dX3_joined_129 (by omega) ?_
        rw [w64_id (by unfold z_i64; omega)]
        refine x_goto 136 dX3_joined_130 (by decide) ?_
        refine y_lstore 138 rfl dX3_joined_136 rfl (ls' := [_, _, _, _, _, _, _]) rfl (by decide) ?_
        refine x_lload 140 rfl dX3_joined_138 rfl ?_
        refine x_ldc2 (x := 1000000000) 143 rfl klX3_20 (by decide) dX3_joined_140 ?_
        refine x_lcmp 144 rfl dX3_joined_143 ?_
        refine x_if_gt 147 156 rfl dX3_joined_144 (by decide) (fun c144 => ?_) (fun c144 => ?_)
        · rw [zcmp_gt] at c144
          refine x_ldc (x := -2000000000) 158 rfl kX3_15 (by decide) dX3_joined_156 ?_
          refine x_goto 164 dX3_joined_158 (by decide) ?_
          refine x_reti dX3_joined_164 rfl ?_
          refine ⟨?_, rfl⟩
          simp only [zjoin, zclip, zBK]
          repeat' split
          all_goals first | omega | (exfalso; omega)
        · rw [zcmp_gt] at c144
          refine x_lload 149 rfl dX3_joined_147 rfl ?_
          refine x_ldc2 (x := -1000000000) 152 rfl klX3_22 (by decide) dX3_joined_149 ?_
          refine x_lcmp 153 rfl dX3_joined_152 ?_
          refine x_if_ge 156 161 rfl dX3_joined_153 (by decide) (fun c153 => ?_) (fun c153 => ?_)
          · rw [zcmp_ge] at c153
            refine x_lload 163 rfl dX3_joined_161 rfl ?_
            refine x_l2i 164 rfl dX3_joined_163 ?_
            rw [w32_id (by unfold z_i32; omega)]
            refine x_reti dX3_joined_164 rfl ?_
            refine ⟨?_, rfl⟩
            simp only [zjoin, zclip, zBK]
            repeat' split
            all_goals first | omega | (exfalso; omega)
          · rw [zcmp_ge] at c153
            refine x_ldc (x := -2000000000) 158 rfl kX3_15 (by decide) dX3_joined_156 ?_
            refine x_goto 164 dX3_joined_158 (by decide) ?_
            refine x_reti dX3_joined_164 rfl ?_
            refine ⟨?_, rfl⟩
            simp only [zjoin, zclip, zBK]
            repeat' split
            all_goals first | omega | (exfalso; omega)
    · rw [zcmp_eq] at c115
      refine x_ldc (x := -2000000000) 120 rfl kX3_15 (by decide) dX3_joined_118 ?_
      refine x_reti dX3_joined_120 rfl ?_
      refine ⟨?_, rfl⟩
      simp only [zjoin, zclip, zBK]
      repeat' split
      all_goals first | omega | (exfalso; omega)
  refine x_tsC (8) 52 5 dX3_joined_4 (by decide) (by decide) (by decide) rfl (by decide) (fun c4 => ?_) (fun c4_5 => ?_)
  · refine x_lload_n 53 rfl dX3_joined_52 1 rfl rfl ?_
    refine x_lload_n 54 rfl dX3_joined_53 3 rfl rfl ?_
    refine x_lcmp 55 rfl dX3_joined_54 ?_
    refine x_if_ge 58 62 rfl dX3_joined_55 (by decide) (fun c55 => ?_) (fun c55 => ?_)
    · refine x_iconst 63 rfl dX3_joined_62 (by decide) ?_
      refine x_reti dX3_joined_63 rfl ?_
      rw [zcmp_ge] at c55
      refine ⟨?_, rfl⟩
      simp only [zjoin, zclip, zBK]
      repeat' split
      all_goals first | omega | (exfalso; omega)
    · refine x_iconst 59 rfl dX3_joined_58 (by decide) ?_
      refine x_goto 63 dX3_joined_59 (by decide) ?_
      refine x_reti dX3_joined_63 rfl ?_
      rw [zcmp_ge] at c55
      refine ⟨?_, rfl⟩
      simp only [zjoin, zclip, zBK]
      repeat' split
      all_goals first | omega | (exfalso; omega)
  refine x_tsC (9) 64 6 dX3_joined_4 (by decide) (by decide) (by decide) rfl (by decide) (fun c4 => ?_) (fun c4_6 => ?_)
  · refine x_lload_n 65 rfl dX3_joined_64 1 rfl rfl ?_
    refine x_lload_n 66 rfl dX3_joined_65 3 rfl rfl ?_
    refine x_lcmp 67 rfl dX3_joined_66 ?_
    refine x_if_le 70 74 rfl dX3_joined_67 (by decide) (fun c67 => ?_) (fun c67 => ?_)
    · refine x_iconst 75 rfl dX3_joined_74 (by decide) ?_
      refine x_reti dX3_joined_75 rfl ?_
      rw [zcmp_le] at c67
      refine ⟨?_, rfl⟩
      simp only [zjoin, zclip, zBK]
      repeat' split
      all_goals first | omega | (exfalso; omega)
    · refine x_iconst 71 rfl dX3_joined_70 (by decide) ?_
      refine x_goto 75 dX3_joined_71 (by decide) ?_
      refine x_reti dX3_joined_75 rfl ?_
      rw [zcmp_le] at c67
      refine ⟨?_, rfl⟩
      simp only [zjoin, zclip, zBK]
      repeat' split
      all_goals first | omega | (exfalso; omega)
  refine x_tsC (10) 76 7 dX3_joined_4 (by decide) (by decide) (by decide) rfl (by decide) (fun c4 => ?_) (fun c4_7 => ?_)
  · refine x_lload_n 77 rfl dX3_joined_76 1 rfl rfl ?_
    refine x_lload_n 78 rfl dX3_joined_77 3 rfl rfl ?_
    refine x_lcmp 79 rfl dX3_joined_78 ?_
    refine x_if_ne 82 86 rfl dX3_joined_79 (by decide) (fun c79 => ?_) (fun c79 => ?_)
    · refine x_iconst 87 rfl dX3_joined_86 (by decide) ?_
      refine x_reti dX3_joined_87 rfl ?_
      rw [zcmp_eq] at c79
      refine ⟨?_, rfl⟩
      simp only [zjoin, zclip, zBK]
      repeat' split
      all_goals first | omega | (exfalso; omega)
    · refine x_iconst 83 rfl dX3_joined_82 (by decide) ?_
      refine x_goto 87 dX3_joined_83 (by decide) ?_
      refine x_reti dX3_joined_87 rfl ?_
      rw [zcmp_eq] at c79
      refine ⟨?_, rfl⟩
      simp only [zjoin, zclip, zBK]
      repeat' split
      all_goals first | omega | (exfalso; omega)
  refine x_tsOut 112 dX3_joined_4 (by omega) (by decide) ?_
  refine x_lload_n 113 rfl dX3_joined_112 3 rfl rfl ?_
  refine x_lconst (x := 0) 114 rfl dX3_joined_113 rfl ?_
  refine x_lcmp 115 rfl dX3_joined_114 ?_
  refine x_if_ne 118 121 rfl dX3_joined_115 (by decide) (fun c115 => ?_) (fun c115 => ?_)
  · rw [zcmp_eq] at c115
    refine x_iload_n 122 rfl dX3_joined_121 0 rfl rfl ?_
    refine x_bipush 124 rfl dX3_joined_122 (by decide) ?_
    refine x_icmp_ne 127 133 rfl dX3_joined_124 (by decide) (fun c124 => ?_) (fun c124 => ?_)
    · refine x_lload_n 134 rfl dX3_joined_133 1 rfl rfl ?_
      refine x_lload_n 135 rfl dX3_joined_134 3 rfl rfl ?_
      refine x_lrem 136 rfl dX3_joined_135 (by omega) ?_
      refine y_lstore 138 rfl dX3_joined_136 rfl (ls' := [_, _, _, _, _, _, _]) rfl (by decide) ?_
      refine x_lload 140 rfl dX3_joined_138 rfl ?_
      refine x_ldc2 (x := 1000000000) 143 rfl klX3_20 (by decide) dX3_joined_140 ?_
      refine x_lcmp 144 rfl dX3_joined_143 ?_
      refine x_if_gt 147 156 rfl dX3_joined_144 (by decide) (fun c144 => ?_) (fun c144 => ?_)
      · rw [zcmp_gt] at c144
        refine x_ldc (x := -2000000000) 158 rfl kX3_15 (by decide) dX3_joined_156 ?_
        refine x_goto 164 dX3_joined_158 (by decide) ?_
        refine x_reti dX3_joined_164 rfl ?_
        refine ⟨?_, rfl⟩
        simp only [zjoin, zclip, zBK]
        repeat' split
        all_goals first | omega | (exfalso; omega)
      · rw [zcmp_gt] at c144
        refine x_lload 149 rfl dX3_joined_147 rfl ?_
        refine x_ldc2 (x := -1000000000) 152 rfl klX3_22 (by decide) dX3_joined_149 ?_
        refine x_lcmp 153 rfl dX3_joined_152 ?_
        refine x_if_ge 156 161 rfl dX3_joined_153 (by decide) (fun c153 => ?_) (fun c153 => ?_)
        · rw [zcmp_ge] at c153
          refine x_lload 163 rfl dX3_joined_161 rfl ?_
          refine x_l2i 164 rfl dX3_joined_163 ?_
          rw [w32_id (by unfold z_i32; omega)]
          refine x_reti dX3_joined_164 rfl ?_
          refine ⟨?_, rfl⟩
          simp only [zjoin, zclip, zBK]
          repeat' split
          all_goals first | omega | (exfalso; omega)
        · rw [zcmp_ge] at c153
          refine x_ldc (x := -2000000000) 158 rfl kX3_15 (by decide) dX3_joined_156 ?_
          refine x_goto 164 dX3_joined_158 (by decide) ?_
          refine x_reti dX3_joined_164 rfl ?_
          refine ⟨?_, rfl⟩
          simp only [zjoin, zclip, zBK]
          repeat' split
          all_goals first | omega | (exfalso; omega)
    · refine x_lload_n 128 rfl dX3_joined_127 1 rfl rfl ?_
      refine x_lload_n 129 rfl dX3_joined_128 3 rfl rfl ?_
      refine x_ldiv 130 rfl dX3_joined_129 (by omega) ?_
      rw [w64_id (by unfold z_i64; omega)]
      refine x_goto 136 dX3_joined_130 (by decide) ?_
      refine y_lstore 138 rfl dX3_joined_136 rfl (ls' := [_, _, _, _, _, _, _]) rfl (by decide) ?_
      refine x_lload 140 rfl dX3_joined_138 rfl ?_
      refine x_ldc2 (x := 1000000000) 143 rfl klX3_20 (by decide) dX3_joined_140 ?_
      refine x_lcmp 144 rfl dX3_joined_143 ?_
      refine x_if_gt 147 156 rfl dX3_joined_144 (by decide) (fun c144 => ?_) (fun c144 => ?_)
      · rw [zcmp_gt] at c144
        refine x_ldc (x := -2000000000) 158 rfl kX3_15 (by decide) dX3_joined_156 ?_
        refine x_goto 164 dX3_joined_158 (by decide) ?_
        refine x_reti dX3_joined_164 rfl ?_
        refine ⟨?_, rfl⟩
        simp only [zjoin, zclip, zBK]
        repeat' split
        all_goals first | omega | (exfalso; omega)
      · rw [zcmp_gt] at c144
        refine x_lload 149 rfl dX3_joined_147 rfl ?_
        refine x_ldc2 (x := -1000000000) 152 rfl klX3_22 (by decide) dX3_joined_149 ?_
        refine x_lcmp 153 rfl dX3_joined_152 ?_
        refine x_if_ge 156 161 rfl dX3_joined_153 (by decide) (fun c153 => ?_) (fun c153 => ?_)
        · rw [zcmp_ge] at c153
          refine x_lload 163 rfl dX3_joined_161 rfl ?_
          refine x_l2i 164 rfl dX3_joined_163 ?_
          rw [w32_id (by unfold z_i32; omega)]
          refine x_reti dX3_joined_164 rfl ?_
          refine ⟨?_, rfl⟩
          simp only [zjoin, zclip, zBK]
          repeat' split
          all_goals first | omega | (exfalso; omega)
        · rw [zcmp_ge] at c153
          refine x_ldc (x := -2000000000) 158 rfl kX3_15 (by decide) dX3_joined_156 ?_
          refine x_goto 164 dX3_joined_158 (by decide) ?_
          refine x_reti dX3_joined_164 rfl ?_
          refine ⟨?_, rfl⟩
          simp only [zjoin, zclip, zBK]
          repeat' split
          all_goals first | omega | (exfalso; omega)
  · rw [zcmp_eq] at c115
    refine x_ldc (x := -2000000000) 120 rfl kX3_15 (by decide) dX3_joined_118 ?_
    refine x_reti dX3_joined_120 rfl ?_
    refine ⟨?_, rfl⟩
    simp only [zjoin, zclip, zBK]
    repeat' split
    all_goals first | omega | (exfalso; omega)

set_option maxRecDepth 100000 in
set_option maxHeartbeats 4000000 in
theorem c_X3_value {d sz : Nat} {S : zSh} {M : zMem} {a c v nc : Nat} {f : Int} (h : MC S sz a) (hc : c < sz) (hSc : S c = (20, nc, zN)) (hv : v < sz) (hSv : S v = (20, 25, zN)) (hne : c ≠ a + 1 ∧ v ≠ a + 1) (hnc : nc ≤ 400) (hf : 0 ≤ f ∧ f ≤ 400) (hC : ∀ j, j < nc → 0 ≤ M c j ∧ M c j ≤ 100000) (hV : ∀ j, j < 25 → -1000000000 ≤ M v j ∧ M v j ≤ 1000000000) : zX (d + 1) 0 0 mX3_value [zn a, zn c, zi f, zn v] sz S M (zI sz S (fun r M' => r = mach (M c) nc (M v) nc 0 f.toNat (M (a + 1)) ∧ ∃ s, M' = z_mup M (a + 1) s)) := by
  obtain ⟨R, hR⟩ : ∃ R, mach (M c) nc (M v) nc 0 f.toNat (M (a + 1)) = R := ⟨_, rfl⟩
  have loop : ∀ (q size place : Nat) (stk : Nat → Int) (steps : Nat), nc < q + steps → steps ≤ nc → size ≤ 64 → place ≤ 10000 → (∀ i, i < size → -1000000000 - (steps : Int) ≤ stk i ∧ stk i ≤ 1000000000 + (steps : Int)) → mach (M c) nc (M v) (nc - steps) size place stk = R → zW mX3_value (d + 1) 0 0 [] (zI sz S (fun r M' => r = mach (M c) nc (M v) nc 0 f.toNat (M (a + 1)) ∧ ∃ s, M' = z_mup M (a + 1) s)) 9 [some (zn a), some (zn c), some (zi f), some (zn v), some (zi size), some (zi place), some (zi steps), none, none] [] sz S (z_mup M (a + 1) stk) := by
    intro q
    induction q with
    | zero => intro size place stk steps hq hn; omega
    | succ q ih =>
      intro size place stk steps hq hn hs hp hb hE
      refine x_iload 11 rfl dX3_value_9 rfl ?_
      refine x_aload_n 12 rfl dX3_value_11 1 rfl rfl ?_
      refine x_alen (t := 0) 13 rfl dX3_value_12 hc hSc (Or.inl rfl) (by omega) ?_
      refine x_icmp_ge 16 280 rfl dX3_value_13 (by decide) (fun c13 => ?_) (fun c13 => ?_)
      · rw [show nc - steps = 0 by omega] at hE
        simp only [mach] at hE
        refine x_iload 282 rfl dX3_value_280 rfl ?_
        refine x_iconst 283 rfl dX3_value_282 (by decide) ?_
        refine x_icmp_ne 286 295 rfl dX3_value_283 (by decide) (fun c283 => ?_) (fun c283 => ?_)
        · refine x_ldc (x := -2000000000) 297 rfl kX3_15 (by decide) dX3_value_295 ?_
          refine x_reti dX3_value_297 rfl ?_
          first
            | (exfalso; omega)
            | refine ⟨?_, _, rfl⟩
              rw [hR, ← hE]
              simp only [zBK]
              repeat' split
              all_goals first | rfl | omega | (exfalso; omega)
        · refine x_aload_n 287 rfl dX3_value_286 0 rfl rfl ?_
          refine x_getr 290 rfl fX3_9 dX3_value_287 (mcl0 h) (mcs0 h) (by decide) (a + 1) rfl ?_
          refine x_iconst 291 rfl dX3_value_290 (by decide) ?_
          refine x_ialk 292 rfl dX3_value_291 (mcl1 h) (mcs1 h) 0 rfl (by decide) ?_
          try simp (disch := omega) only [z_up_ne, z_up_nk, z_up_eq, z_mup_ne, z_mup_eq, Int.reduceToNat, Int.toNat_natCast]
          refine x_goto 297 dX3_value_292 (by decide) ?_
          refine x_reti dX3_value_297 rfl ?_
          first
            | (exfalso; omega)
            | refine ⟨?_, _, rfl⟩
              rw [hR, ← hE]
              simp only [zBK]
              repeat' split
              all_goals first | rfl | omega | (exfalso; omega)
      · obtain ⟨n, hn2⟩ : ∃ n, nc - steps = n + 1 := ⟨nc - steps - 1, by omega⟩
        rw [hn2] at hE
        simp only [mach] at hE
        refine x_iload 18 rfl dX3_value_16 rfl ?_
        refine x_if_lt 21 280 rfl dX3_value_18 (by decide) (fun c18 => ?_) (fun c18 => ?_)
        · exfalso; omega
        · refine x_iload 23 rfl dX3_value_21 rfl ?_
          refine x_aload_n 24 rfl dX3_value_23 1 rfl rfl ?_
          refine x_alen (t := 0) 25 rfl dX3_value_24 hc hSc (Or.inl rfl) (by omega) ?_
          refine x_icmp_ge 28 280 rfl dX3_value_25 (by decide) (fun c25 => ?_) (fun c25 => ?_)
          · refine x_iload 282 rfl dX3_value_280 rfl ?_
            refine x_iconst 283 rfl dX3_value_282 (by decide) ?_
            refine x_icmp_ne 286 295 rfl dX3_value_283 (by decide) (fun c283 => ?_) (fun c283 => ?_)
            · refine x_ldc (x := -2000000000) 297 rfl kX3_15 (by decide) dX3_value_295 ?_
              refine x_reti dX3_value_297 rfl ?_
              first
                | (exfalso; omega)
                | refine ⟨?_, _, rfl⟩
                  rw [hR, ← hE]
                  simp only [zBK]
                  repeat' split
                  all_goals first | rfl | omega | (exfalso; omega)
            · refine x_aload_n 287 rfl dX3_value_286 0 rfl rfl ?_
              refine x_getr 290 rfl fX3_9 dX3_value_287 (mcl0 h) (mcs0 h) (by decide) (a + 1) rfl ?_
              refine x_iconst 291 rfl dX3_value_290 (by decide) ?_
              refine x_ialk 292 rfl dX3_value_291 (mcl1 h) (mcs1 h) 0 rfl (by decide) ?_
              try simp (disch := omega) only [z_up_ne, z_up_nk, z_up_eq, z_mup_ne, z_mup_eq, Int.reduceToNat, Int.toNat_natCast]
              refine x_goto 297 dX3_value_292 (by decide) ?_
              refine x_reti dX3_value_297 rfl ?_
              first
                | (exfalso; omega)
                | refine ⟨?_, _, rfl⟩
                  rw [hR, ← hE]
                  simp only [zBK]
                  repeat' split
                  all_goals first | rfl | omega | (exfalso; omega)
          · have hp1 := hC place (by omega)
            refine x_aload_n 29 rfl dX3_value_28 1 rfl rfl ?_
            refine x_iload 31 rfl dX3_value_29 rfl ?_
            refine x_iald 32 rfl dX3_value_31 hc hSc (by omega) (by omega) ?_
            try simp (disch := omega) only [z_up_ne, z_up_nk, z_up_eq, z_mup_ne, z_mup_eq, Int.reduceToNat, Int.toNat_natCast]
            refine x_bipush 34 rfl dX3_value_32 (by decide) ?_
            refine x_irem 35 rfl dX3_value_34 (by omega) ?_
            rw [z_tmodn (by omega)]
            refine y_istore 37 rfl dX3_value_35 rfl (ls' := [_, _, _, _, _, _, _, _, _]) rfl (by decide) ?_
            refine x_aload_n 38 rfl dX3_value_37 1 rfl rfl ?_
            refine x_iload 40 rfl dX3_value_38 rfl ?_
            refine x_iald 41 rfl dX3_value_40 hc hSc (by omega) (by omega) ?_
            try simp (disch := omega) only [z_up_ne, z_up_nk, z_up_eq, z_mup_ne, z_mup_eq, Int.reduceToNat, Int.toNat_natCast]
            refine x_bipush 43 rfl dX3_value_41 (by decide) ?_
            refine x_idiv 44 rfl dX3_value_43 (by omega) ?_
            rw [z_tdiv (by omega) (by omega) (by decide)]
            refine y_istore 46 rfl dX3_value_44 rfl (ls' := [_, _, _, _, _, _, _, _, _]) rfl (by decide) ?_
            refine w_iinc 49 rfl dX3_value_46 rfl (by decide) (by omega) rfl (ls' := [_, _, _, _, _, _, _, _, _]) rfl (by decide) ?_
            refine x_iload 51 rfl dX3_value_49 rfl ?_
            refine x_if_ne 54 57 rfl dX3_value_51 (by decide) (fun c51 => ?_) (fun c51 => ?_)
            · refine x_iload 59 rfl dX3_value_57 rfl ?_
              refine x_aload_n 60 rfl dX3_value_59 0 rfl rfl ?_
              refine x_getr 63 rfl fX3_9 dX3_value_60 (mcl0 h) (mcs0 h) (by decide) (a + 1) rfl ?_
              refine x_alen (t := 0) 64 rfl dX3_value_63 (mcl1 h) (mcs1 h) (Or.inl rfl) (by decide) ?_
              refine x_icmp_ge 67 80 rfl dX3_value_64 (by decide) (fun c64 => ?_) (fun c64 => ?_)
              · refine x_ldc (x := -2000000000) 82 rfl kX3_15 (by decide) dX3_value_80 ?_
                refine x_reti dX3_value_82 rfl ?_
                first
                  | (exfalso; omega)
                  | refine ⟨?_, _, rfl⟩
                    rw [hR, ← hE]
                    simp only [zBK]
                    repeat' split
                    all_goals first | rfl | omega | (exfalso; omega)
              · refine x_iload 69 rfl dX3_value_67 rfl ?_
                refine x_iconst 70 rfl dX3_value_69 (by decide) ?_
                refine x_icmp_ne 73 83 rfl dX3_value_70 (by decide) (fun c70 => ?_) (fun c70 => ?_)
                · refine x_iload 85 rfl dX3_value_83 rfl ?_
                  refine x_iconst 86 rfl dX3_value_85 (by decide) ?_
                  refine x_icmp_eq 89 95 rfl dX3_value_86 (by decide) (fun c86 => ?_) (fun c86 => ?_)
                  · refine x_aload_n 96 rfl dX3_value_95 0 rfl rfl ?_
                    refine x_getr 99 rfl fX3_9 dX3_value_96 (mcl0 h) (mcs0 h) (by decide) (a + 1) rfl ?_
                    refine x_iload 101 rfl dX3_value_99 rfl ?_
                    refine x_iload 103 rfl dX3_value_101 rfl ?_
                    refine x_iconst 104 rfl dX3_value_103 (by decide) ?_
                    refine x_icmp_ne 107 112 rfl dX3_value_104 (by decide) (fun c104 => ?_) (fun c104 => ?_)
                    · refine x_aload_n 113 rfl dX3_value_112 3 rfl rfl ?_
                      refine x_iload 115 rfl dX3_value_113 rfl ?_
                      refine x_iald 116 rfl dX3_value_115 hv hSv (by omega) (by omega) ?_
                      try simp (disch := omega) only [z_up_ne, z_up_nk, z_up_eq, z_mup_ne, z_mup_eq, Int.reduceToNat, Int.toNat_natCast]
                      have hv1 := hV (M c place / 16).toNat (by omega)
                      refine x_iast 117 rfl dX3_value_116 (mcl1 h) (mcs1 h) (by omega) (by omega) ?_
                      refine w_iinc 120 rfl dX3_value_117 rfl (by decide) (by omega) rfl (ls' := [_, _, _, _, _, _, _, _, _]) rfl (by decide) ?_
                      refine x_goto 274 dX3_value_120 (by decide) ?_
                      refine w_iinc 277 rfl dX3_value_274 rfl (by decide) (by omega) rfl (ls' := [_, _, _, _, _, _, _, _, _]) rfl (by decide) ?_
                      refine x_goto 9 dX3_value_277 (by decide) ?_
                      first
                        | (exfalso; omega)
                        | simp (disch := omega) only [if_pos, if_neg] at hE
                          rw [show n = nc - (steps + 1) by omega] at hE
                          have e9 : M c place % 16 = 1 := by omega
                          refine z_wk (ls' := [some (zn a), some (zn c), some (zi f), some (zn v), some (zi ((size + 1 : Nat) : Int)), some (zi ((place + 1 : Nat) : Int)), some (zi ((steps + 1 : Nat) : Int)), none, none]) ⟨rfl, rfl, rfl, rfl, z_e (by omega), z_e (by omega), z_e (by omega), trivial⟩ (z_mem (M' := z_mup M (a + 1) (ku stk size (M c place / 16))) (by simp only [Int.toNat_natCast, z_mupm]) (ih (size + 1) (place + 1) (ku stk size (M c place / 16)) (steps + 1) (by omega) (by omega) (by omega) (by omega) ?_ hE))
                          intro i hi2; simp only [ku]; split
                          · omega
                          · have := hb i (by omega); omega
                        | simp (disch := omega) only [if_pos, if_neg] at hE
                          rw [show n = nc - (steps + 1) by omega] at hE
                          have e9 : M c place % 16 = 2 := by omega
                          refine z_wk (ls' := [some (zn a), some (zn c), some (zi f), some (zn v), some (zi ((size + 1 : Nat) : Int)), some (zi ((place + 1 : Nat) : Int)), some (zi ((steps + 1 : Nat) : Int)), none, none]) ⟨rfl, rfl, rfl, rfl, z_e (by omega), z_e (by omega), z_e (by omega), trivial⟩ (z_mem (M' := z_mup M (a + 1) (ku stk size (M v (M c place / 16).toNat))) (by simp only [Int.toNat_natCast, z_mupm]) (ih (size + 1) (place + 1) (ku stk size (M v (M c place / 16).toNat)) (steps + 1) (by omega) (by omega) (by omega) (by omega) ?_ hE))
                          intro i hi2; simp only [ku]; split
                          · omega
                          · have := hb i (by omega); omega
                        | simp (disch := omega) only [if_pos, if_neg] at hE
                          rw [show n = nc - (steps + 1) by omega] at hE
                          have e9 : M c place % 16 = 11 := by omega
                          refine z_wk (ls' := [some (zn a), some (zn c), some (zi f), some (zn v), some (zi ((size : Nat) : Int)), some (zi ((place + 1 : Nat) : Int)), some (zi ((steps + 1 : Nat) : Int)), none, none]) ⟨rfl, rfl, rfl, rfl, z_e (by omega), z_e (by omega), z_e (by omega), trivial⟩ (z_mem (M' := z_mup M (a + 1) (ku stk (size - 1) (1 - stk (size - 1)))) (by simp only [show ((size : Int) - 1).toNat = size - 1 by omega, z_mupm]) (ih (size) (place + 1) (ku stk (size - 1) (1 - stk (size - 1))) (steps + 1) (by omega) (by omega) (by omega) (by omega) ?_ hE))
                          intro i hi2; simp only [ku]; split
                          · omega
                          · have := hb i (by omega); omega
                        | simp (disch := omega) only [if_pos, if_neg] at hE
                          rw [show n = nc - (steps + 1) by omega] at hE
                          refine z_wk (ls' := [some (zn a), some (zn c), some (zi f), some (zn v), some (zi ((size : Nat) : Int)), some (zi (((M c place / 16).toNat : Nat) : Int)), some (zi ((steps + 1 : Nat) : Int)), none, none]) ⟨rfl, rfl, rfl, rfl, z_e (by omega), z_e (by omega), z_e (by omega), trivial⟩ (z_mem (M' := z_mup M (a + 1) (stk)) rfl (ih (size) ((M c place / 16).toNat) (stk) (steps + 1) (by omega) (by omega) (by omega) (by omega) ?_ hE))
                          exact fun i hi2 => by have := hb i hi2; omega
                        | simp (disch := omega) only [if_pos, if_neg] at hE
                          rw [show n = nc - (steps + 1) by omega] at hE
                          refine z_wk (ls' := [some (zn a), some (zn c), some (zi f), some (zn v), some (zi ((size - 1 : Nat) : Int)), some (zi ((place + 1 : Nat) : Int)), some (zi ((steps + 1 : Nat) : Int)), none, none]) ⟨rfl, rfl, rfl, rfl, z_e (by omega), z_e (by omega), z_e (by omega), trivial⟩ (z_mem (M' := z_mup M (a + 1) (stk)) rfl (ih (size - 1) (place + 1) (stk) (steps + 1) (by omega) (by omega) (by omega) (by omega) ?_ hE))
                          exact fun i hi2 => by have := hb i (by omega); omega
                        | simp (disch := omega) only [if_pos, if_neg] at hE
                          rw [show n = nc - (steps + 1) by omega] at hE
                          refine z_wk (ls' := [some (zn a), some (zn c), some (zi f), some (zn v), some (zi ((size - 1 : Nat) : Int)), some (zi ((place + 1 : Nat) : Int)), some (zi ((steps + 1 : Nat) : Int)), none, none]) ⟨rfl, rfl, rfl, rfl, z_e (by omega), z_e (by omega), z_e (by omega), trivial⟩ (z_mem (M' := z_mup M (a + 1) (ku stk (size - 2) (zjoin (M c place % 16) (stk (size - 2)) (stk (size - 1))))) (by first | rfl | simp only [show ((size : Int) + -1 - 1).toNat = size - 2 by omega, z_mupm]) (ih (size - 1) (place + 1) (ku stk (size - 2) (zjoin (M c place % 16) (stk (size - 2)) (stk (size - 1)))) (steps + 1) (by omega) (by omega) (by omega) (by omega) ?_ hE))
                          intro i hi2; simp only [ku]; split
                          · have := zjoin_in (M c place % 16) (stk (size - 2)) (stk (size - 1)); simp only [zBK] at this; omega
                          · have := hb i (by omega); omega
                    · refine x_iload 109 rfl dX3_value_107 rfl ?_
                      refine x_goto 116 dX3_value_109 (by decide) ?_
                      refine x_iast 117 rfl dX3_value_116 (mcl1 h) (mcs1 h) (by omega) (by omega) ?_
                      refine w_iinc 120 rfl dX3_value_117 rfl (by decide) (by omega) rfl (ls' := [_, _, _, _, _, _, _, _, _]) rfl (by decide) ?_
                      refine x_goto 274 dX3_value_120 (by decide) ?_
                      refine w_iinc 277 rfl dX3_value_274 rfl (by decide) (by omega) rfl (ls' := [_, _, _, _, _, _, _, _, _]) rfl (by decide) ?_
                      refine x_goto 9 dX3_value_277 (by decide) ?_
                      first
                        | (exfalso; omega)
                        | simp (disch := omega) only [if_pos, if_neg] at hE
                          rw [show n = nc - (steps + 1) by omega] at hE
                          have e9 : M c place % 16 = 1 := by omega
                          refine z_wk (ls' := [some (zn a), some (zn c), some (zi f), some (zn v), some (zi ((size + 1 : Nat) : Int)), some (zi ((place + 1 : Nat) : Int)), some (zi ((steps + 1 : Nat) : Int)), none, none]) ⟨rfl, rfl, rfl, rfl, z_e (by omega), z_e (by omega), z_e (by omega), trivial⟩ (z_mem (M' := z_mup M (a + 1) (ku stk size (M c place / 16))) (by simp only [Int.toNat_natCast, z_mupm]) (ih (size + 1) (place + 1) (ku stk size (M c place / 16)) (steps + 1) (by omega) (by omega) (by omega) (by omega) ?_ hE))
                          intro i hi2; simp only [ku]; split
                          · omega
                          · have := hb i (by omega); omega
                        | simp (disch := omega) only [if_pos, if_neg] at hE
                          rw [show n = nc - (steps + 1) by omega] at hE
                          have e9 : M c place % 16 = 2 := by omega
                          refine z_wk (ls' := [some (zn a), some (zn c), some (zi f), some (zn v), some (zi ((size + 1 : Nat) : Int)), some (zi ((place + 1 : Nat) : Int)), some (zi ((steps + 1 : Nat) : Int)), none, none]) ⟨rfl, rfl, rfl, rfl, z_e (by omega), z_e (by omega), z_e (by omega), trivial⟩ (z_mem (M' := z_mup M (a + 1) (ku stk size (M v (M c place / 16).toNat))) (by simp only [Int.toNat_natCast, z_mupm]) (ih (size + 1) (place + 1) (ku stk size (M v (M c place / 16).toNat)) (steps + 1) (by omega) (by omega) (by omega) (by omega) ?_ hE))
                          intro i hi2; simp only [ku]; split
                          · omega
                          · have := hb i (by omega); omega
                        | simp (disch := omega) only [if_pos, if_neg] at hE
                          rw [show n = nc - (steps + 1) by omega] at hE
                          have e9 : M c place % 16 = 11 := by omega
                          refine z_wk (ls' := [some (zn a), some (zn c), some (zi f), some (zn v), some (zi ((size : Nat) : Int)), some (zi ((place + 1 : Nat) : Int)), some (zi ((steps + 1 : Nat) : Int)), none, none]) ⟨rfl, rfl, rfl, rfl, z_e (by omega), z_e (by omega), z_e (by omega), trivial⟩ (z_mem (M' := z_mup M (a + 1) (ku stk (size - 1) (1 - stk (size - 1)))) (by simp only [show ((size : Int) - 1).toNat = size - 1 by omega, z_mupm]) (ih (size) (place + 1) (ku stk (size - 1) (1 - stk (size - 1))) (steps + 1) (by omega) (by omega) (by omega) (by omega) ?_ hE))
                          intro i hi2; simp only [ku]; split
                          · omega
                          · have := hb i (by omega); omega
                        | simp (disch := omega) only [if_pos, if_neg] at hE
                          rw [show n = nc - (steps + 1) by omega] at hE
                          refine z_wk (ls' := [some (zn a), some (zn c), some (zi f), some (zn v), some (zi ((size : Nat) : Int)), some (zi (((M c place / 16).toNat : Nat) : Int)), some (zi ((steps + 1 : Nat) : Int)), none, none]) ⟨rfl, rfl, rfl, rfl, z_e (by omega), z_e (by omega), z_e (by omega), trivial⟩ (z_mem (M' := z_mup M (a + 1) (stk)) rfl (ih (size) ((M c place / 16).toNat) (stk) (steps + 1) (by omega) (by omega) (by omega) (by omega) ?_ hE))
                          exact fun i hi2 => by have := hb i hi2; omega
                        | simp (disch := omega) only [if_pos, if_neg] at hE
                          rw [show n = nc - (steps + 1) by omega] at hE
                          refine z_wk (ls' := [some (zn a), some (zn c), some (zi f), some (zn v), some (zi ((size - 1 : Nat) : Int)), some (zi ((place + 1 : Nat) : Int)), some (zi ((steps + 1 : Nat) : Int)), none, none]) ⟨rfl, rfl, rfl, rfl, z_e (by omega), z_e (by omega), z_e (by omega), trivial⟩ (z_mem (M' := z_mup M (a + 1) (stk)) rfl (ih (size - 1) (place + 1) (stk) (steps + 1) (by omega) (by omega) (by omega) (by omega) ?_ hE))
                          exact fun i hi2 => by have := hb i (by omega); omega
                        | simp (disch := omega) only [if_pos, if_neg] at hE
                          rw [show n = nc - (steps + 1) by omega] at hE
                          refine z_wk (ls' := [some (zn a), some (zn c), some (zi f), some (zn v), some (zi ((size - 1 : Nat) : Int)), some (zi ((place + 1 : Nat) : Int)), some (zi ((steps + 1 : Nat) : Int)), none, none]) ⟨rfl, rfl, rfl, rfl, z_e (by omega), z_e (by omega), z_e (by omega), trivial⟩ (z_mem (M' := z_mup M (a + 1) (ku stk (size - 2) (zjoin (M c place % 16) (stk (size - 2)) (stk (size - 1))))) (by first | rfl | simp only [show ((size : Int) + -1 - 1).toNat = size - 2 by omega, z_mupm]) (ih (size - 1) (place + 1) (ku stk (size - 2) (zjoin (M c place % 16) (stk (size - 2)) (stk (size - 1)))) (steps + 1) (by omega) (by omega) (by omega) (by omega) ?_ hE))
                          intro i hi2; simp only [ku]; split
                          · have := zjoin_in (M c place % 16) (stk (size - 2)) (stk (size - 1)); simp only [zBK] at this; omega
                          · have := hb i (by omega); omega
                  · refine x_iload 91 rfl dX3_value_89 rfl ?_
                    refine x_iconst 92 rfl dX3_value_91 (by decide) ?_
                    refine x_icmp_ne 95 123 rfl dX3_value_92 (by decide) (fun c92 => ?_) (fun c92 => ?_)
                    · refine x_iload 125 rfl dX3_value_123 rfl ?_
                      refine x_iconst 126 rfl dX3_value_125 (by decide) ?_
                      refine x_icmp_ge 129 132 rfl dX3_value_126 (by decide) (fun c126 => ?_) (fun c126 => ?_)
                      · have hb1 := hb (size - 1) (by omega)
                        refine x_iload 134 rfl dX3_value_132 rfl ?_
                        refine x_bipush 136 rfl dX3_value_134 (by decide) ?_
                        refine x_icmp_ne 139 162 rfl dX3_value_136 (by decide) (fun c136 => ?_) (fun c136 => ?_)
                        · refine x_iload 164 rfl dX3_value_162 rfl ?_
                          refine x_bipush 166 rfl dX3_value_164 (by decide) ?_
                          refine x_icmp_eq 169 176 rfl dX3_value_166 (by decide) (fun c166 => ?_) (fun c166 => ?_)
                          · refine x_aload_n 177 rfl dX3_value_176 0 rfl rfl ?_
                            refine x_getr 180 rfl fX3_9 dX3_value_177 (mcl0 h) (mcs0 h) (by decide) (a + 1) rfl ?_
                            refine x_iload 182 rfl dX3_value_180 rfl ?_
                            refine x_iconst 183 rfl dX3_value_182 (by decide) ?_
                            refine y_isub 184 rfl dX3_value_183 (by omega) ?_
                            refine x_iald 185 rfl dX3_value_184 (mcl1 h) (mcs1 h) (by omega) (by omega) ?_
                            try simp (disch := omega) only [z_up_ne, z_up_nk, z_up_eq, z_mup_ne, z_mup_eq, Int.reduceToNat, Int.toNat_natCast]
                            rw [show ((size : Int) - 1).toNat = size - 1 by omega]
                            refine x_iload 187 rfl dX3_value_185 rfl ?_
                            refine x_bipush 189 rfl dX3_value_187 (by decide) ?_
                            refine x_icmp_ne 192 196 rfl dX3_value_189 (by decide) (fun c189 => ?_) (fun c189 => ?_)
                            · refine x_iconst 197 rfl dX3_value_196 (by decide) ?_
                              refine x_icmp_ne 200 207 rfl dX3_value_197 (by decide) (fun c197 => ?_) (fun c197 => ?_)
                              · refine w_iinc 210 rfl dX3_value_207 rfl (by decide) (by omega) rfl (ls' := [_, _, _, _, _, _, _, _, _]) rfl (by decide) ?_
                                refine x_goto 274 dX3_value_210 (by decide) ?_
                                refine w_iinc 277 rfl dX3_value_274 rfl (by decide) (by omega) rfl (ls' := [_, _, _, _, _, _, _, _, _]) rfl (by decide) ?_
                                refine x_goto 9 dX3_value_277 (by decide) ?_
                                first
                                  | (exfalso; omega)
                                  | simp (disch := omega) only [if_pos, if_neg] at hE
                                    rw [show n = nc - (steps + 1) by omega] at hE
                                    have e9 : M c place % 16 = 1 := by omega
                                    refine z_wk (ls' := [some (zn a), some (zn c), some (zi f), some (zn v), some (zi ((size + 1 : Nat) : Int)), some (zi ((place + 1 : Nat) : Int)), some (zi ((steps + 1 : Nat) : Int)), none, none]) ⟨rfl, rfl, rfl, rfl, z_e (by omega), z_e (by omega), z_e (by omega), trivial⟩ (z_mem (M' := z_mup M (a + 1) (ku stk size (M c place / 16))) (by simp only [Int.toNat_natCast, z_mupm]) (ih (size + 1) (place + 1) (ku stk size (M c place / 16)) (steps + 1) (by omega) (by omega) (by omega) (by omega) ?_ hE))
                                    intro i hi2; simp only [ku]; split
                                    · omega
                                    · have := hb i (by omega); omega
                                  | simp (disch := omega) only [if_pos, if_neg] at hE
                                    rw [show n = nc - (steps + 1) by omega] at hE
                                    have e9 : M c place % 16 = 2 := by omega
                                    refine z_wk (ls' := [some (zn a), some (zn c), some (zi f), some (zn v), some (zi ((size + 1 : Nat) : Int)), some (zi ((place + 1 : Nat) : Int)), some (zi ((steps + 1 : Nat) : Int)), none, none]) ⟨rfl, rfl, rfl, rfl, z_e (by omega), z_e (by omega), z_e (by omega), trivial⟩ (z_mem (M' := z_mup M (a + 1) (ku stk size (M v (M c place / 16).toNat))) (by simp only [Int.toNat_natCast, z_mupm]) (ih (size + 1) (place + 1) (ku stk size (M v (M c place / 16).toNat)) (steps + 1) (by omega) (by omega) (by omega) (by omega) ?_ hE))
                                    intro i hi2; simp only [ku]; split
                                    · omega
                                    · have := hb i (by omega); omega
                                  | simp (disch := omega) only [if_pos, if_neg] at hE
                                    rw [show n = nc - (steps + 1) by omega] at hE
                                    have e9 : M c place % 16 = 11 := by omega
                                    refine z_wk (ls' := [some (zn a), some (zn c), some (zi f), some (zn v), some (zi ((size : Nat) : Int)), some (zi ((place + 1 : Nat) : Int)), some (zi ((steps + 1 : Nat) : Int)), none, none]) ⟨rfl, rfl, rfl, rfl, z_e (by omega), z_e (by omega), z_e (by omega), trivial⟩ (z_mem (M' := z_mup M (a + 1) (ku stk (size - 1) (1 - stk (size - 1)))) (by simp only [show ((size : Int) - 1).toNat = size - 1 by omega, z_mupm]) (ih (size) (place + 1) (ku stk (size - 1) (1 - stk (size - 1))) (steps + 1) (by omega) (by omega) (by omega) (by omega) ?_ hE))
                                    intro i hi2; simp only [ku]; split
                                    · omega
                                    · have := hb i (by omega); omega
                                  | simp (disch := omega) only [if_pos, if_neg] at hE
                                    rw [show n = nc - (steps + 1) by omega] at hE
                                    refine z_wk (ls' := [some (zn a), some (zn c), some (zi f), some (zn v), some (zi ((size : Nat) : Int)), some (zi (((M c place / 16).toNat : Nat) : Int)), some (zi ((steps + 1 : Nat) : Int)), none, none]) ⟨rfl, rfl, rfl, rfl, z_e (by omega), z_e (by omega), z_e (by omega), trivial⟩ (z_mem (M' := z_mup M (a + 1) (stk)) rfl (ih (size) ((M c place / 16).toNat) (stk) (steps + 1) (by omega) (by omega) (by omega) (by omega) ?_ hE))
                                    exact fun i hi2 => by have := hb i hi2; omega
                                  | simp (disch := omega) only [if_pos, if_neg] at hE
                                    rw [show n = nc - (steps + 1) by omega] at hE
                                    refine z_wk (ls' := [some (zn a), some (zn c), some (zi f), some (zn v), some (zi ((size - 1 : Nat) : Int)), some (zi ((place + 1 : Nat) : Int)), some (zi ((steps + 1 : Nat) : Int)), none, none]) ⟨rfl, rfl, rfl, rfl, z_e (by omega), z_e (by omega), z_e (by omega), trivial⟩ (z_mem (M' := z_mup M (a + 1) (stk)) rfl (ih (size - 1) (place + 1) (stk) (steps + 1) (by omega) (by omega) (by omega) (by omega) ?_ hE))
                                    exact fun i hi2 => by have := hb i (by omega); omega
                                  | simp (disch := omega) only [if_pos, if_neg] at hE
                                    rw [show n = nc - (steps + 1) by omega] at hE
                                    refine z_wk (ls' := [some (zn a), some (zn c), some (zi f), some (zn v), some (zi ((size - 1 : Nat) : Int)), some (zi ((place + 1 : Nat) : Int)), some (zi ((steps + 1 : Nat) : Int)), none, none]) ⟨rfl, rfl, rfl, rfl, z_e (by omega), z_e (by omega), z_e (by omega), trivial⟩ (z_mem (M' := z_mup M (a + 1) (ku stk (size - 2) (zjoin (M c place % 16) (stk (size - 2)) (stk (size - 1))))) (by first | rfl | simp only [show ((size : Int) + -1 - 1).toNat = size - 2 by omega, z_mupm]) (ih (size - 1) (place + 1) (ku stk (size - 2) (zjoin (M c place % 16) (stk (size - 2)) (stk (size - 1)))) (steps + 1) (by omega) (by omega) (by omega) (by omega) ?_ hE))
                                    intro i hi2; simp only [ku]; split
                                    · have := zjoin_in (M c place % 16) (stk (size - 2)) (stk (size - 1)); simp only [zBK] at this; omega
                                    · have := hb i (by omega); omega
                              · refine x_iload 202 rfl dX3_value_200 rfl ?_
                                refine y_istore 204 rfl dX3_value_202 rfl (ls' := [_, _, _, _, _, _, _, _, _]) rfl (by decide) ?_
                                refine x_goto 274 dX3_value_204 (by decide) ?_
                                refine w_iinc 277 rfl dX3_value_274 rfl (by decide) (by omega) rfl (ls' := [_, _, _, _, _, _, _, _, _]) rfl (by decide) ?_
                                refine x_goto 9 dX3_value_277 (by decide) ?_
                                first
                                  | (exfalso; omega)
                                  | simp (disch := omega) only [if_pos, if_neg] at hE
                                    rw [show n = nc - (steps + 1) by omega] at hE
                                    have e9 : M c place % 16 = 1 := by omega
                                    refine z_wk (ls' := [some (zn a), some (zn c), some (zi f), some (zn v), some (zi ((size + 1 : Nat) : Int)), some (zi ((place + 1 : Nat) : Int)), some (zi ((steps + 1 : Nat) : Int)), none, none]) ⟨rfl, rfl, rfl, rfl, z_e (by omega), z_e (by omega), z_e (by omega), trivial⟩ (z_mem (M' := z_mup M (a + 1) (ku stk size (M c place / 16))) (by simp only [Int.toNat_natCast, z_mupm]) (ih (size + 1) (place + 1) (ku stk size (M c place / 16)) (steps + 1) (by omega) (by omega) (by omega) (by omega) ?_ hE))
                                    intro i hi2; simp only [ku]; split
                                    · omega
                                    · have := hb i (by omega); omega
                                  | simp (disch := omega) only [if_pos, if_neg] at hE
                                    rw [show n = nc - (steps + 1) by omega] at hE
                                    have e9 : M c place % 16 = 2 := by omega
                                    refine z_wk (ls' := [some (zn a), some (zn c), some (zi f), some (zn v), some (zi ((size + 1 : Nat) : Int)), some (zi ((place + 1 : Nat) : Int)), some (zi ((steps + 1 : Nat) : Int)), none, none]) ⟨rfl, rfl, rfl, rfl, z_e (by omega), z_e (by omega), z_e (by omega), trivial⟩ (z_mem (M' := z_mup M (a + 1) (ku stk size (M v (M c place / 16).toNat))) (by simp only [Int.toNat_natCast, z_mupm]) (ih (size + 1) (place + 1) (ku stk size (M v (M c place / 16).toNat)) (steps + 1) (by omega) (by omega) (by omega) (by omega) ?_ hE))
                                    intro i hi2; simp only [ku]; split
                                    · omega
                                    · have := hb i (by omega); omega
                                  | simp (disch := omega) only [if_pos, if_neg] at hE
                                    rw [show n = nc - (steps + 1) by omega] at hE
                                    have e9 : M c place % 16 = 11 := by omega
                                    refine z_wk (ls' := [some (zn a), some (zn c), some (zi f), some (zn v), some (zi ((size : Nat) : Int)), some (zi ((place + 1 : Nat) : Int)), some (zi ((steps + 1 : Nat) : Int)), none, none]) ⟨rfl, rfl, rfl, rfl, z_e (by omega), z_e (by omega), z_e (by omega), trivial⟩ (z_mem (M' := z_mup M (a + 1) (ku stk (size - 1) (1 - stk (size - 1)))) (by simp only [show ((size : Int) - 1).toNat = size - 1 by omega, z_mupm]) (ih (size) (place + 1) (ku stk (size - 1) (1 - stk (size - 1))) (steps + 1) (by omega) (by omega) (by omega) (by omega) ?_ hE))
                                    intro i hi2; simp only [ku]; split
                                    · omega
                                    · have := hb i (by omega); omega
                                  | simp (disch := omega) only [if_pos, if_neg] at hE
                                    rw [show n = nc - (steps + 1) by omega] at hE
                                    refine z_wk (ls' := [some (zn a), some (zn c), some (zi f), some (zn v), some (zi ((size : Nat) : Int)), some (zi (((M c place / 16).toNat : Nat) : Int)), some (zi ((steps + 1 : Nat) : Int)), none, none]) ⟨rfl, rfl, rfl, rfl, z_e (by omega), z_e (by omega), z_e (by omega), trivial⟩ (z_mem (M' := z_mup M (a + 1) (stk)) rfl (ih (size) ((M c place / 16).toNat) (stk) (steps + 1) (by omega) (by omega) (by omega) (by omega) ?_ hE))
                                    exact fun i hi2 => by have := hb i hi2; omega
                                  | simp (disch := omega) only [if_pos, if_neg] at hE
                                    rw [show n = nc - (steps + 1) by omega] at hE
                                    refine z_wk (ls' := [some (zn a), some (zn c), some (zi f), some (zn v), some (zi ((size - 1 : Nat) : Int)), some (zi ((place + 1 : Nat) : Int)), some (zi ((steps + 1 : Nat) : Int)), none, none]) ⟨rfl, rfl, rfl, rfl, z_e (by omega), z_e (by omega), z_e (by omega), trivial⟩ (z_mem (M' := z_mup M (a + 1) (stk)) rfl (ih (size - 1) (place + 1) (stk) (steps + 1) (by omega) (by omega) (by omega) (by omega) ?_ hE))
                                    exact fun i hi2 => by have := hb i (by omega); omega
                                  | simp (disch := omega) only [if_pos, if_neg] at hE
                                    rw [show n = nc - (steps + 1) by omega] at hE
                                    refine z_wk (ls' := [some (zn a), some (zn c), some (zi f), some (zn v), some (zi ((size - 1 : Nat) : Int)), some (zi ((place + 1 : Nat) : Int)), some (zi ((steps + 1 : Nat) : Int)), none, none]) ⟨rfl, rfl, rfl, rfl, z_e (by omega), z_e (by omega), z_e (by omega), trivial⟩ (z_mem (M' := z_mup M (a + 1) (ku stk (size - 2) (zjoin (M c place % 16) (stk (size - 2)) (stk (size - 1))))) (by first | rfl | simp only [show ((size : Int) + -1 - 1).toNat = size - 2 by omega, z_mupm]) (ih (size - 1) (place + 1) (ku stk (size - 2) (zjoin (M c place % 16) (stk (size - 2)) (stk (size - 1)))) (steps + 1) (by omega) (by omega) (by omega) (by omega) ?_ hE))
                                    intro i hi2; simp only [ku]; split
                                    · have := zjoin_in (M c place % 16) (stk (size - 2)) (stk (size - 1)); simp only [zBK] at this; omega
                                    · have := hb i (by omega); omega
                            · refine x_iconst 193 rfl dX3_value_192 (by decide) ?_
                              refine x_goto 197 dX3_value_193 (by decide) ?_
                              refine x_icmp_ne 200 207 rfl dX3_value_197 (by decide) (fun c197 => ?_) (fun c197 => ?_)
                              · refine w_iinc 210 rfl dX3_value_207 rfl (by decide) (by omega) rfl (ls' := [_, _, _, _, _, _, _, _, _]) rfl (by decide) ?_
                                refine x_goto 274 dX3_value_210 (by decide) ?_
                                refine w_iinc 277 rfl dX3_value_274 rfl (by decide) (by omega) rfl (ls' := [_, _, _, _, _, _, _, _, _]) rfl (by decide) ?_
                                refine x_goto 9 dX3_value_277 (by decide) ?_
                                first
                                  | (exfalso; omega)
                                  | simp (disch := omega) only [if_pos, if_neg] at hE
                                    rw [show n = nc - (steps + 1) by omega] at hE
                                    have e9 : M c place % 16 = 1 := by omega
                                    refine z_wk (ls' := [some (zn a), some (zn c), some (zi f), some (zn v), some (zi ((size + 1 : Nat) : Int)), some (zi ((place + 1 : Nat) : Int)), some (zi ((steps + 1 : Nat) : Int)), none, none]) ⟨rfl, rfl, rfl, rfl, z_e (by omega), z_e (by omega), z_e (by omega), trivial⟩ (z_mem (M' := z_mup M (a + 1) (ku stk size (M c place / 16))) (by simp only [Int.toNat_natCast, z_mupm]) (ih (size + 1) (place + 1) (ku stk size (M c place / 16)) (steps + 1) (by omega) (by omega) (by omega) (by omega) ?_ hE))
                                    intro i hi2; simp only [ku]; split
                                    · omega
                                    · have := hb i (by omega); omega
                                  | simp (disch := omega) only [if_pos, if_neg] at hE
                                    rw [show n = nc - (steps + 1) by omega] at hE
                                    have e9 : M c place % 16 = 2 := by omega
                                    refine z_wk (ls' := [some (zn a), some (zn c), some (zi f), some (zn v), some (zi ((size + 1 : Nat) : Int)), some (zi ((place + 1 : Nat) : Int)), some (zi ((steps + 1 : Nat) : Int)), none, none]) ⟨rfl, rfl, rfl, rfl, z_e (by omega), z_e (by omega), z_e (by omega), trivial⟩ (z_mem (M' := z_mup M (a + 1) (ku stk size (M v (M c place / 16).toNat))) (by simp only [Int.toNat_natCast, z_mupm]) (ih (size + 1) (place + 1) (ku stk size (M v (M c place / 16).toNat)) (steps + 1) (by omega) (by omega) (by omega) (by omega) ?_ hE))
                                    intro i hi2; simp only [ku]; split
                                    · omega
                                    · have := hb i (by omega); omega
                                  | simp (disch := omega) only [if_pos, if_neg] at hE
                                    rw [show n = nc - (steps + 1) by omega] at hE
                                    have e9 : M c place % 16 = 11 := by omega
                                    refine z_wk (ls' := [some (zn a), some (zn c), some (zi f), some (zn v), some (zi ((size : Nat) : Int)), some (zi ((place + 1 : Nat) : Int)), some (zi ((steps + 1 : Nat) : Int)), none, none]) ⟨rfl, rfl, rfl, rfl, z_e (by omega), z_e (by omega), z_e (by omega), trivial⟩ (z_mem (M' := z_mup M (a + 1) (ku stk (size - 1) (1 - stk (size - 1)))) (by simp only [show ((size : Int) - 1).toNat = size - 1 by omega, z_mupm]) (ih (size) (place + 1) (ku stk (size - 1) (1 - stk (size - 1))) (steps + 1) (by omega) (by omega) (by omega) (by omega) ?_ hE))
                                    intro i hi2; simp only [ku]; split
                                    · omega
                                    · have := hb i (by omega); omega
                                  | simp (disch := omega) only [if_pos, if_neg] at hE
                                    rw [show n = nc - (steps + 1) by omega] at hE
                                    refine z_wk (ls' := [some (zn a), some (zn c), some (zi f), some (zn v), some (zi ((size : Nat) : Int)), some (zi (((M c place / 16).toNat : Nat) : Int)), some (zi ((steps + 1 : Nat) : Int)), none, none]) ⟨rfl, rfl, rfl, rfl, z_e (by omega), z_e (by omega), z_e (by omega), trivial⟩ (z_mem (M' := z_mup M (a + 1) (stk)) rfl (ih (size) ((M c place / 16).toNat) (stk) (steps + 1) (by omega) (by omega) (by omega) (by omega) ?_ hE))
                                    exact fun i hi2 => by have := hb i hi2; omega
                                  | simp (disch := omega) only [if_pos, if_neg] at hE
                                    rw [show n = nc - (steps + 1) by omega] at hE
                                    refine z_wk (ls' := [some (zn a), some (zn c), some (zi f), some (zn v), some (zi ((size - 1 : Nat) : Int)), some (zi ((place + 1 : Nat) : Int)), some (zi ((steps + 1 : Nat) : Int)), none, none]) ⟨rfl, rfl, rfl, rfl, z_e (by omega), z_e (by omega), z_e (by omega), trivial⟩ (z_mem (M' := z_mup M (a + 1) (stk)) rfl (ih (size - 1) (place + 1) (stk) (steps + 1) (by omega) (by omega) (by omega) (by omega) ?_ hE))
                                    exact fun i hi2 => by have := hb i (by omega); omega
                                  | simp (disch := omega) only [if_pos, if_neg] at hE
                                    rw [show n = nc - (steps + 1) by omega] at hE
                                    refine z_wk (ls' := [some (zn a), some (zn c), some (zi f), some (zn v), some (zi ((size - 1 : Nat) : Int)), some (zi ((place + 1 : Nat) : Int)), some (zi ((steps + 1 : Nat) : Int)), none, none]) ⟨rfl, rfl, rfl, rfl, z_e (by omega), z_e (by omega), z_e (by omega), trivial⟩ (z_mem (M' := z_mup M (a + 1) (ku stk (size - 2) (zjoin (M c place % 16) (stk (size - 2)) (stk (size - 1))))) (by first | rfl | simp only [show ((size : Int) + -1 - 1).toNat = size - 2 by omega, z_mupm]) (ih (size - 1) (place + 1) (ku stk (size - 2) (zjoin (M c place % 16) (stk (size - 2)) (stk (size - 1)))) (steps + 1) (by omega) (by omega) (by omega) (by omega) ?_ hE))
                                    intro i hi2; simp only [ku]; split
                                    · have := zjoin_in (M c place % 16) (stk (size - 2)) (stk (size - 1)); simp only [zBK] at this; omega
                                    · have := hb i (by omega); omega
                              · refine x_iload 202 rfl dX3_value_200 rfl ?_
                                refine y_istore 204 rfl dX3_value_202 rfl (ls' := [_, _, _, _, _, _, _, _, _]) rfl (by decide) ?_
                                refine x_goto 274 dX3_value_204 (by decide) ?_
                                refine w_iinc 277 rfl dX3_value_274 rfl (by decide) (by omega) rfl (ls' := [_, _, _, _, _, _, _, _, _]) rfl (by decide) ?_
                                refine x_goto 9 dX3_value_277 (by decide) ?_
                                first
                                  | (exfalso; omega)
                                  | simp (disch := omega) only [if_pos, if_neg] at hE
                                    rw [show n = nc - (steps + 1) by omega] at hE
                                    have e9 : M c place % 16 = 1 := by omega
                                    refine z_wk (ls' := [some (zn a), some (zn c), some (zi f), some (zn v), some (zi ((size + 1 : Nat) : Int)), some (zi ((place + 1 : Nat) : Int)), some (zi ((steps + 1 : Nat) : Int)), none, none]) ⟨rfl, rfl, rfl, rfl, z_e (by omega), z_e (by omega), z_e (by omega), trivial⟩ (z_mem (M' := z_mup M (a + 1) (ku stk size (M c place / 16))) (by simp only [Int.toNat_natCast, z_mupm]) (ih (size + 1) (place + 1) (ku stk size (M c place / 16)) (steps + 1) (by omega) (by omega) (by omega) (by omega) ?_ hE))
                                    intro i hi2; simp only [ku]; split
                                    · omega
                                    · have := hb i (by omega); omega
                                  | simp (disch := omega) only [if_pos, if_neg] at hE
                                    rw [show n = nc - (steps + 1) by omega] at hE
                                    have e9 : M c place % 16 = 2 := by omega
                                    refine z_wk (ls' := [some (zn a), some (zn c), some (zi f), some (zn v), some (zi ((size + 1 : Nat) : Int)), some (zi ((place + 1 : Nat) : Int)), some (zi ((steps + 1 : Nat) : Int)), none, none]) ⟨rfl, rfl, rfl, rfl, z_e (by omega), z_e (by omega), z_e (by omega), trivial⟩ (z_mem (M' := z_mup M (a + 1) (ku stk size (M v (M c place / 16).toNat))) (by simp only [Int.toNat_natCast, z_mupm]) (ih (size + 1) (place + 1) (ku stk size (M v (M c place / 16).toNat)) (steps + 1) (by omega) (by omega) (by omega) (by omega) ?_ hE))
                                    intro i hi2; simp only [ku]; split
                                    · omega
                                    · have := hb i (by omega); omega
                                  | simp (disch := omega) only [if_pos, if_neg] at hE
                                    rw [show n = nc - (steps + 1) by omega] at hE
                                    have e9 : M c place % 16 = 11 := by omega
                                    refine z_wk (ls' := [some (zn a), some (zn c), some (zi f), some (zn v), some (zi ((size : Nat) : Int)), some (zi ((place + 1 : Nat) : Int)), some (zi ((steps + 1 : Nat) : Int)), none, none]) ⟨rfl, rfl, rfl, rfl, z_e (by omega), z_e (by omega), z_e (by omega), trivial⟩ (z_mem (M' := z_mup M (a + 1) (ku stk (size - 1) (1 - stk (size - 1)))) (by simp only [show ((size : Int) - 1).toNat = size - 1 by omega, z_mupm]) (ih (size) (place + 1) (ku stk (size - 1) (1 - stk (size - 1))) (steps + 1) (by omega) (by omega) (by omega) (by omega) ?_ hE))
                                    intro i hi2; simp only [ku]; split
                                    · omega
                                    · have := hb i (by omega); omega
                                  | simp (disch := omega) only [if_pos, if_neg] at hE
                                    rw [show n = nc - (steps + 1) by omega] at hE
                                    refine z_wk (ls' := [some (zn a), some (zn c), some (zi f), some (zn v), some (zi ((size : Nat) : Int)), some (zi (((M c place / 16).toNat : Nat) : Int)), some (zi ((steps + 1 : Nat) : Int)), none, none]) ⟨rfl, rfl, rfl, rfl, z_e (by omega), z_e (by omega), z_e (by omega), trivial⟩ (z_mem (M' := z_mup M (a + 1) (stk)) rfl (ih (size) ((M c place / 16).toNat) (stk) (steps + 1) (by omega) (by omega) (by omega) (by omega) ?_ hE))
                                    exact fun i hi2 => by have := hb i hi2; omega
                                  | simp (disch := omega) only [if_pos, if_neg] at hE
                                    rw [show n = nc - (steps + 1) by omega] at hE
                                    refine z_wk (ls' := [some (zn a), some (zn c), some (zi f), some (zn v), some (zi ((size - 1 : Nat) : Int)), some (zi ((place + 1 : Nat) : Int)), some (zi ((steps + 1 : Nat) : Int)), none, none]) ⟨rfl, rfl, rfl, rfl, z_e (by omega), z_e (by omega), z_e (by omega), trivial⟩ (z_mem (M' := z_mup M (a + 1) (stk)) rfl (ih (size - 1) (place + 1) (stk) (steps + 1) (by omega) (by omega) (by omega) (by omega) ?_ hE))
                                    exact fun i hi2 => by have := hb i (by omega); omega
                                  | simp (disch := omega) only [if_pos, if_neg] at hE
                                    rw [show n = nc - (steps + 1) by omega] at hE
                                    refine z_wk (ls' := [some (zn a), some (zn c), some (zi f), some (zn v), some (zi ((size - 1 : Nat) : Int)), some (zi ((place + 1 : Nat) : Int)), some (zi ((steps + 1 : Nat) : Int)), none, none]) ⟨rfl, rfl, rfl, rfl, z_e (by omega), z_e (by omega), z_e (by omega), trivial⟩ (z_mem (M' := z_mup M (a + 1) (ku stk (size - 2) (zjoin (M c place % 16) (stk (size - 2)) (stk (size - 1))))) (by first | rfl | simp only [show ((size : Int) + -1 - 1).toNat = size - 2 by omega, z_mupm]) (ih (size - 1) (place + 1) (ku stk (size - 2) (zjoin (M c place % 16) (stk (size - 2)) (stk (size - 1)))) (steps + 1) (by omega) (by omega) (by omega) (by omega) ?_ hE))
                                    intro i hi2; simp only [ku]; split
                                    · have := zjoin_in (M c place % 16) (stk (size - 2)) (stk (size - 1)); simp only [zBK] at this; omega
                                    · have := hb i (by omega); omega
                          · refine x_iload 171 rfl dX3_value_169 rfl ?_
                            refine x_bipush 173 rfl dX3_value_171 (by decide) ?_
                            refine x_icmp_ne 176 213 rfl dX3_value_173 (by decide) (fun c173 => ?_) (fun c173 => ?_)
                            · refine x_iload 215 rfl dX3_value_213 rfl ?_
                              refine x_iconst 216 rfl dX3_value_215 (by decide) ?_
                              refine x_icmp_ge 219 222 rfl dX3_value_216 (by decide) (fun c216 => ?_) (fun c216 => ?_)
                              · have hb1 := hb (size - 1) (by omega)
                                have hb2 := hb (size - 2) (by omega)
                                refine w_iinc 225 rfl dX3_value_222 rfl (by decide) (by omega) rfl (ls' := [_, _, _, _, _, _, _, _, _]) rfl (by decide) ?_
                                refine x_aload_n 226 rfl dX3_value_225 0 rfl rfl ?_
                                refine x_getr 229 rfl fX3_9 dX3_value_226 (mcl0 h) (mcs0 h) (by decide) (a + 1) rfl ?_
                                refine x_iload 231 rfl dX3_value_229 rfl ?_
                                refine x_iconst 232 rfl dX3_value_231 (by decide) ?_
                                refine y_isub 233 rfl dX3_value_232 (by omega) ?_
                                refine x_iload 235 rfl dX3_value_233 rfl ?_
                                refine x_aload_n 236 rfl dX3_value_235 0 rfl rfl ?_
                                refine x_getr 239 rfl fX3_9 dX3_value_236 (mcl0 h) (mcs0 h) (by decide) (a + 1) rfl ?_
                                refine x_iload 241 rfl dX3_value_239 rfl ?_
                                refine x_iconst 242 rfl dX3_value_241 (by decide) ?_
                                refine y_isub 243 rfl dX3_value_242 (by omega) ?_
                                refine x_iald 244 rfl dX3_value_243 (mcl1 h) (mcs1 h) (by omega) (by omega) ?_
                                try simp (disch := omega) only [z_up_ne, z_up_nk, z_up_eq, z_mup_ne, z_mup_eq, Int.reduceToNat, Int.toNat_natCast]
                                rw [show ((size : Int) + -1 - 1).toNat = size - 2 by omega]
                                refine x_i2l 245 rfl dX3_value_244 ?_
                                refine x_aload_n 246 rfl dX3_value_245 0 rfl rfl ?_
                                refine x_getr 249 rfl fX3_9 dX3_value_246 (mcl0 h) (mcs0 h) (by decide) (a + 1) rfl ?_
                                refine x_iload 251 rfl dX3_value_249 rfl ?_
                                refine x_iald 252 rfl dX3_value_251 (mcl1 h) (mcs1 h) (by omega) (by omega) ?_
                                try simp (disch := omega) only [z_up_ne, z_up_nk, z_up_eq, z_mup_ne, z_mup_eq, Int.reduceToNat, Int.toNat_natCast]
                                rw [show ((size : Int) + -1).toNat = size - 1 by omega]
                                refine x_i2l 253 rfl dX3_value_252 ?_
                                refine x_cSi 256 rfl lX3_16 dX3_value_253 (c_X3_joined (by omega) (by omega)) rfl rfl (Nat.le_of_ble_eq_true rfl) (fun r M1 hr1 => ?_)
                                obtain ⟨rfl, hM1⟩ := hr1
                                rw [hM1]
                                refine x_iast 257 rfl dX3_value_256 (mcl1 h) (mcs1 h) (by omega) (by omega) ?_
                                try rw [show ((size : Int) + -1 - 1).toNat = size - 2 by omega, z_mupm]
                                refine x_aload_n 258 rfl dX3_value_257 0 rfl rfl ?_
                                refine x_getr 261 rfl fX3_9 dX3_value_258 (mcl0 h) (mcs0 h) (by decide) (a + 1) rfl ?_
                                refine x_iload 263 rfl dX3_value_261 rfl ?_
                                refine x_iconst 264 rfl dX3_value_263 (by decide) ?_
                                refine y_isub 265 rfl dX3_value_264 (by omega) ?_
                                refine x_iald 266 rfl dX3_value_265 (mcl1 h) (mcs1 h) (by omega) (by omega) ?_
                                try simp (disch := omega) only [z_up_ne, z_up_nk, z_up_eq, z_mup_ne, z_mup_eq, Int.reduceToNat, Int.toNat_natCast]
                                try rw [show ((size : Int) + -1 - 1).toNat = size - 2 by omega]
                                try rw [ku_eq]
                                refine x_ldc (x := -2000000000) 268 rfl kX3_15 (by decide) dX3_value_266 ?_
                                refine x_icmp_ne 271 274 rfl dX3_value_268 (by decide) (fun c268 => ?_) (fun c268 => ?_)
                                · have c9 : ¬ zjoin (M c place % 16) (stk (size - 2)) (stk (size - 1)) = zBK := by unfold zBK; first | exact c268 | (intro hh; exact c268 (by rw [show ((size : Int) + -1 - 1).toNat = size - 2 by omega]; simp [ku, z_mup, z_up, hh])) | (exfalso; omega)
                                  refine w_iinc 277 rfl dX3_value_274 rfl (by decide) (by omega) rfl (ls' := [_, _, _, _, _, _, _, _, _]) rfl (by decide) ?_
                                  refine x_goto 9 dX3_value_277 (by decide) ?_
                                  first
                                    | (exfalso; omega)
                                    | simp (disch := omega) only [if_pos, if_neg] at hE
                                      rw [show n = nc - (steps + 1) by omega] at hE
                                      have e9 : M c place % 16 = 1 := by omega
                                      refine z_wk (ls' := [some (zn a), some (zn c), some (zi f), some (zn v), some (zi ((size + 1 : Nat) : Int)), some (zi ((place + 1 : Nat) : Int)), some (zi ((steps + 1 : Nat) : Int)), none, none]) ⟨rfl, rfl, rfl, rfl, z_e (by omega), z_e (by omega), z_e (by omega), trivial⟩ (z_mem (M' := z_mup M (a + 1) (ku stk size (M c place / 16))) (by simp only [Int.toNat_natCast, z_mupm]) (ih (size + 1) (place + 1) (ku stk size (M c place / 16)) (steps + 1) (by omega) (by omega) (by omega) (by omega) ?_ hE))
                                      intro i hi2; simp only [ku]; split
                                      · omega
                                      · have := hb i (by omega); omega
                                    | simp (disch := omega) only [if_pos, if_neg] at hE
                                      rw [show n = nc - (steps + 1) by omega] at hE
                                      have e9 : M c place % 16 = 2 := by omega
                                      refine z_wk (ls' := [some (zn a), some (zn c), some (zi f), some (zn v), some (zi ((size + 1 : Nat) : Int)), some (zi ((place + 1 : Nat) : Int)), some (zi ((steps + 1 : Nat) : Int)), none, none]) ⟨rfl, rfl, rfl, rfl, z_e (by omega), z_e (by omega), z_e (by omega), trivial⟩ (z_mem (M' := z_mup M (a + 1) (ku stk size (M v (M c place / 16).toNat))) (by simp only [Int.toNat_natCast, z_mupm]) (ih (size + 1) (place + 1) (ku stk size (M v (M c place / 16).toNat)) (steps + 1) (by omega) (by omega) (by omega) (by omega) ?_ hE))
                                      intro i hi2; simp only [ku]; split
                                      · omega
                                      · have := hb i (by omega); omega
                                    | simp (disch := omega) only [if_pos, if_neg] at hE
                                      rw [show n = nc - (steps + 1) by omega] at hE
                                      have e9 : M c place % 16 = 11 := by omega
                                      refine z_wk (ls' := [some (zn a), some (zn c), some (zi f), some (zn v), some (zi ((size : Nat) : Int)), some (zi ((place + 1 : Nat) : Int)), some (zi ((steps + 1 : Nat) : Int)), none, none]) ⟨rfl, rfl, rfl, rfl, z_e (by omega), z_e (by omega), z_e (by omega), trivial⟩ (z_mem (M' := z_mup M (a + 1) (ku stk (size - 1) (1 - stk (size - 1)))) (by simp only [show ((size : Int) - 1).toNat = size - 1 by omega, z_mupm]) (ih (size) (place + 1) (ku stk (size - 1) (1 - stk (size - 1))) (steps + 1) (by omega) (by omega) (by omega) (by omega) ?_ hE))
                                      intro i hi2; simp only [ku]; split
                                      · omega
                                      · have := hb i (by omega); omega
                                    | simp (disch := omega) only [if_pos, if_neg] at hE
                                      rw [show n = nc - (steps + 1) by omega] at hE
                                      refine z_wk (ls' := [some (zn a), some (zn c), some (zi f), some (zn v), some (zi ((size : Nat) : Int)), some (zi (((M c place / 16).toNat : Nat) : Int)), some (zi ((steps + 1 : Nat) : Int)), none, none]) ⟨rfl, rfl, rfl, rfl, z_e (by omega), z_e (by omega), z_e (by omega), trivial⟩ (z_mem (M' := z_mup M (a + 1) (stk)) rfl (ih (size) ((M c place / 16).toNat) (stk) (steps + 1) (by omega) (by omega) (by omega) (by omega) ?_ hE))
                                      exact fun i hi2 => by have := hb i hi2; omega
                                    | simp (disch := omega) only [if_pos, if_neg] at hE
                                      rw [show n = nc - (steps + 1) by omega] at hE
                                      refine z_wk (ls' := [some (zn a), some (zn c), some (zi f), some (zn v), some (zi ((size - 1 : Nat) : Int)), some (zi ((place + 1 : Nat) : Int)), some (zi ((steps + 1 : Nat) : Int)), none, none]) ⟨rfl, rfl, rfl, rfl, z_e (by omega), z_e (by omega), z_e (by omega), trivial⟩ (z_mem (M' := z_mup M (a + 1) (stk)) rfl (ih (size - 1) (place + 1) (stk) (steps + 1) (by omega) (by omega) (by omega) (by omega) ?_ hE))
                                      exact fun i hi2 => by have := hb i (by omega); omega
                                    | simp (disch := omega) only [if_pos, if_neg] at hE
                                      rw [show n = nc - (steps + 1) by omega] at hE
                                      refine z_wk (ls' := [some (zn a), some (zn c), some (zi f), some (zn v), some (zi ((size - 1 : Nat) : Int)), some (zi ((place + 1 : Nat) : Int)), some (zi ((steps + 1 : Nat) : Int)), none, none]) ⟨rfl, rfl, rfl, rfl, z_e (by omega), z_e (by omega), z_e (by omega), trivial⟩ (z_mem (M' := z_mup M (a + 1) (ku stk (size - 2) (zjoin (M c place % 16) (stk (size - 2)) (stk (size - 1))))) (by first | rfl | simp only [show ((size : Int) + -1 - 1).toNat = size - 2 by omega, z_mupm]) (ih (size - 1) (place + 1) (ku stk (size - 2) (zjoin (M c place % 16) (stk (size - 2)) (stk (size - 1)))) (steps + 1) (by omega) (by omega) (by omega) (by omega) ?_ hE))
                                      intro i hi2; simp only [ku]; split
                                      · have := zjoin_in (M c place % 16) (stk (size - 2)) (stk (size - 1)); simp only [zBK] at this; omega
                                      · have := hb i (by omega); omega
                                · refine x_ldc (x := -2000000000) 273 rfl kX3_15 (by decide) dX3_value_271 ?_
                                  refine x_reti dX3_value_273 rfl ?_
                                  first
                                    | (exfalso; omega)
                                    | refine ⟨?_, _, rfl⟩
                                      rw [hR, ← hE]
                                      simp only [zBK]
                                      repeat' split
                                      all_goals first | rfl | omega | (exfalso; omega)
                              · refine x_ldc (x := -2000000000) 221 rfl kX3_15 (by decide) dX3_value_219 ?_
                                refine x_reti dX3_value_221 rfl ?_
                                first
                                  | (exfalso; omega)
                                  | refine ⟨?_, _, rfl⟩
                                    rw [hR, ← hE]
                                    simp only [zBK]
                                    repeat' split
                                    all_goals first | rfl | omega | (exfalso; omega)
                            · refine x_aload_n 177 rfl dX3_value_176 0 rfl rfl ?_
                              refine x_getr 180 rfl fX3_9 dX3_value_177 (mcl0 h) (mcs0 h) (by decide) (a + 1) rfl ?_
                              refine x_iload 182 rfl dX3_value_180 rfl ?_
                              refine x_iconst 183 rfl dX3_value_182 (by decide) ?_
                              refine y_isub 184 rfl dX3_value_183 (by omega) ?_
                              refine x_iald 185 rfl dX3_value_184 (mcl1 h) (mcs1 h) (by omega) (by omega) ?_
                              try simp (disch := omega) only [z_up_ne, z_up_nk, z_up_eq, z_mup_ne, z_mup_eq, Int.reduceToNat, Int.toNat_natCast]
                              rw [show ((size : Int) - 1).toNat = size - 1 by omega]
                              refine x_iload 187 rfl dX3_value_185 rfl ?_
                              refine x_bipush 189 rfl dX3_value_187 (by decide) ?_
                              refine x_icmp_ne 192 196 rfl dX3_value_189 (by decide) (fun c189 => ?_) (fun c189 => ?_)
                              · refine x_iconst 197 rfl dX3_value_196 (by decide) ?_
                                refine x_icmp_ne 200 207 rfl dX3_value_197 (by decide) (fun c197 => ?_) (fun c197 => ?_)
                                · refine w_iinc 210 rfl dX3_value_207 rfl (by decide) (by omega) rfl (ls' := [_, _, _, _, _, _, _, _, _]) rfl (by decide) ?_
                                  refine x_goto 274 dX3_value_210 (by decide) ?_
                                  refine w_iinc 277 rfl dX3_value_274 rfl (by decide) (by omega) rfl (ls' := [_, _, _, _, _, _, _, _, _]) rfl (by decide) ?_
                                  refine x_goto 9 dX3_value_277 (by decide) ?_
                                  first
                                    | (exfalso; omega)
                                    | simp (disch := omega) only [if_pos, if_neg] at hE
                                      rw [show n = nc - (steps + 1) by omega] at hE
                                      have e9 : M c place % 16 = 1 := by omega
                                      refine z_wk (ls' := [some (zn a), some (zn c), some (zi f), some (zn v), some (zi ((size + 1 : Nat) : Int)), some (zi ((place + 1 : Nat) : Int)), some (zi ((steps + 1 : Nat) : Int)), none, none]) ⟨rfl, rfl, rfl, rfl, z_e (by omega), z_e (by omega), z_e (by omega), trivial⟩ (z_mem (M' := z_mup M (a + 1) (ku stk size (M c place / 16))) (by simp only [Int.toNat_natCast, z_mupm]) (ih (size + 1) (place + 1) (ku stk size (M c place / 16)) (steps + 1) (by omega) (by omega) (by omega) (by omega) ?_ hE))
                                      intro i hi2; simp only [ku]; split
                                      · omega
                                      · have := hb i (by omega); omega
                                    | simp (disch := omega) only [if_pos, if_neg] at hE
                                      rw [show n = nc - (steps + 1) by omega] at hE
                                      have e9 : M c place % 16 = 2 := by omega
                                      refine z_wk (ls' := [some (zn a), some (zn c), some (zi f), some (zn v), some (zi ((size + 1 : Nat) : Int)), some (zi ((place + 1 : Nat) : Int)), some (zi ((steps + 1 : Nat) : Int)), none, none]) ⟨rfl, rfl, rfl, rfl, z_e (by omega), z_e (by omega), z_e (by omega), trivial⟩ (z_mem (M' := z_mup M (a + 1) (ku stk size (M v (M c place / 16).toNat))) (by simp only [Int.toNat_natCast, z_mupm]) (ih (size + 1) (place + 1) (ku stk size (M v (M c place / 16).toNat)) (steps + 1) (by omega) (by omega) (by omega) (by omega) ?_ hE))
                                      intro i hi2; simp only [ku]; split
                                      · omega
                                      · have := hb i (by omega); omega
                                    | simp (disch := omega) only [if_pos, if_neg] at hE
                                      rw [show n = nc - (steps + 1) by omega] at hE
                                      have e9 : M c place % 16 = 11 := by omega
                                      refine z_wk (ls' := [some (zn a), some (zn c), some (zi f), some (zn v), some (zi ((size : Nat) : Int)), some (zi ((place + 1 : Nat) : Int)), some (zi ((steps + 1 : Nat) : Int)), none, none]) ⟨rfl, rfl, rfl, rfl, z_e (by omega), z_e (by omega), z_e (by omega), trivial⟩ (z_mem (M' := z_mup M (a + 1) (ku stk (size - 1) (1 - stk (size - 1)))) (by simp only [show ((size : Int) - 1).toNat = size - 1 by omega, z_mupm]) (ih (size) (place + 1) (ku stk (size - 1) (1 - stk (size - 1))) (steps + 1) (by omega) (by omega) (by omega) (by omega) ?_ hE))
                                      intro i hi2; simp only [ku]; split
                                      · omega
                                      · have := hb i (by omega); omega
                                    | simp (disch := omega) only [if_pos, if_neg] at hE
                                      rw [show n = nc - (steps + 1) by omega] at hE
                                      refine z_wk (ls' := [some (zn a), some (zn c), some (zi f), some (zn v), some (zi ((size : Nat) : Int)), some (zi (((M c place / 16).toNat : Nat) : Int)), some (zi ((steps + 1 : Nat) : Int)), none, none]) ⟨rfl, rfl, rfl, rfl, z_e (by omega), z_e (by omega), z_e (by omega), trivial⟩ (z_mem (M' := z_mup M (a + 1) (stk)) rfl (ih (size) ((M c place / 16).toNat) (stk) (steps + 1) (by omega) (by omega) (by omega) (by omega) ?_ hE))
                                      exact fun i hi2 => by have := hb i hi2; omega
                                    | simp (disch := omega) only [if_pos, if_neg] at hE
                                      rw [show n = nc - (steps + 1) by omega] at hE
                                      refine z_wk (ls' := [some (zn a), some (zn c), some (zi f), some (zn v), some (zi ((size - 1 : Nat) : Int)), some (zi ((place + 1 : Nat) : Int)), some (zi ((steps + 1 : Nat) : Int)), none, none]) ⟨rfl, rfl, rfl, rfl, z_e (by omega), z_e (by omega), z_e (by omega), trivial⟩ (z_mem (M' := z_mup M (a + 1) (stk)) rfl (ih (size - 1) (place + 1) (stk) (steps + 1) (by omega) (by omega) (by omega) (by omega) ?_ hE))
                                      exact fun i hi2 => by have := hb i (by omega); omega
                                    | simp (disch := omega) only [if_pos, if_neg] at hE
                                      rw [show n = nc - (steps + 1) by omega] at hE
                                      refine z_wk (ls' := [some (zn a), some (zn c), some (zi f), some (zn v), some (zi ((size - 1 : Nat) : Int)), some (zi ((place + 1 : Nat) : Int)), some (zi ((steps + 1 : Nat) : Int)), none, none]) ⟨rfl, rfl, rfl, rfl, z_e (by omega), z_e (by omega), z_e (by omega), trivial⟩ (z_mem (M' := z_mup M (a + 1) (ku stk (size - 2) (zjoin (M c place % 16) (stk (size - 2)) (stk (size - 1))))) (by first | rfl | simp only [show ((size : Int) + -1 - 1).toNat = size - 2 by omega, z_mupm]) (ih (size - 1) (place + 1) (ku stk (size - 2) (zjoin (M c place % 16) (stk (size - 2)) (stk (size - 1)))) (steps + 1) (by omega) (by omega) (by omega) (by omega) ?_ hE))
                                      intro i hi2; simp only [ku]; split
                                      · have := zjoin_in (M c place % 16) (stk (size - 2)) (stk (size - 1)); simp only [zBK] at this; omega
                                      · have := hb i (by omega); omega
                                · refine x_iload 202 rfl dX3_value_200 rfl ?_
                                  refine y_istore 204 rfl dX3_value_202 rfl (ls' := [_, _, _, _, _, _, _, _, _]) rfl (by decide) ?_
                                  refine x_goto 274 dX3_value_204 (by decide) ?_
                                  refine w_iinc 277 rfl dX3_value_274 rfl (by decide) (by omega) rfl (ls' := [_, _, _, _, _, _, _, _, _]) rfl (by decide) ?_
                                  refine x_goto 9 dX3_value_277 (by decide) ?_
                                  first
                                    | (exfalso; omega)
                                    | simp (disch := omega) only [if_pos, if_neg] at hE
                                      rw [show n = nc - (steps + 1) by omega] at hE
                                      have e9 : M c place % 16 = 1 := by omega
                                      refine z_wk (ls' := [some (zn a), some (zn c), some (zi f), some (zn v), some (zi ((size + 1 : Nat) : Int)), some (zi ((place + 1 : Nat) : Int)), some (zi ((steps + 1 : Nat) : Int)), none, none]) ⟨rfl, rfl, rfl, rfl, z_e (by omega), z_e (by omega), z_e (by omega), trivial⟩ (z_mem (M' := z_mup M (a + 1) (ku stk size (M c place / 16))) (by simp only [Int.toNat_natCast, z_mupm]) (ih (size + 1) (place + 1) (ku stk size (M c place / 16)) (steps + 1) (by omega) (by omega) (by omega) (by omega) ?_ hE))
                                      intro i hi2; simp only [ku]; split
                                      · omega
                                      · have := hb i (by omega); omega
                                    | simp (disch := omega) only [if_pos, if_neg] at hE
                                      rw [show n = nc - (steps + 1) by omega] at hE
                                      have e9 : M c place % 16 = 2 := by omega
                                      refine z_wk (ls' := [some (zn a), some (zn c), some (zi f), some (zn v), some (zi ((size + 1 : Nat) : Int)), some (zi ((place + 1 : Nat) : Int)), some (zi ((steps + 1 : Nat) : Int)), none, none]) ⟨rfl, rfl, rfl, rfl, z_e (by omega), z_e (by omega), z_e (by omega), trivial⟩ (z_mem (M' := z_mup M (a + 1) (ku stk size (M v (M c place / 16).toNat))) (by simp only [Int.toNat_natCast, z_mupm]) (ih (size + 1) (place + 1) (ku stk size (M v (M c place / 16).toNat)) (steps + 1) (by omega) (by omega) (by omega) (by omega) ?_ hE))
                                      intro i hi2; simp only [ku]; split
                                      · omega
                                      · have := hb i (by omega); omega
                                    | simp (disch := omega) only [if_pos, if_neg] at hE
                                      rw [show n = nc - (steps + 1) by omega] at hE
                                      have e9 : M c place % 16 = 11 := by omega
                                      refine z_wk (ls' := [some (zn a), some (zn c), some (zi f), some (zn v), some (zi ((size : Nat) : Int)), some (zi ((place + 1 : Nat) : Int)), some (zi ((steps + 1 : Nat) : Int)), none, none]) ⟨rfl, rfl, rfl, rfl, z_e (by omega), z_e (by omega), z_e (by omega), trivial⟩ (z_mem (M' := z_mup M (a + 1) (ku stk (size - 1) (1 - stk (size - 1)))) (by simp only [show ((size : Int) - 1).toNat = size - 1 by omega, z_mupm]) (ih (size) (place + 1) (ku stk (size - 1) (1 - stk (size - 1))) (steps + 1) (by omega) (by omega) (by omega) (by omega) ?_ hE))
                                      intro i hi2; simp only [ku]; split
                                      · omega
                                      · have := hb i (by omega); omega
                                    | simp (disch := omega) only [if_pos, if_neg] at hE
                                      rw [show n = nc - (steps + 1) by omega] at hE
                                      refine z_wk (ls' := [some (zn a), some (zn c), some (zi f), some (zn v), some (zi ((size : Nat) : Int)), some (zi (((M c place / 16).toNat : Nat) : Int)), some (zi ((steps + 1 : Nat) : Int)), none, none]) ⟨rfl, rfl, rfl, rfl, z_e (by omega), z_e (by omega), z_e (by omega), trivial⟩ (z_mem (M' := z_mup M (a + 1) (stk)) rfl (ih (size) ((M c place / 16).toNat) (stk) (steps + 1) (by omega) (by omega) (by omega) (by omega) ?_ hE))
                                      exact fun i hi2 => by have := hb i hi2; omega
                                    | simp (disch := omega) only [if_pos, if_neg] at hE
                                      rw [show n = nc - (steps + 1) by omega] at hE
                                      refine z_wk (ls' := [some (zn a), some (zn c), some (zi f), some (zn v), some (zi ((size - 1 : Nat) : Int)), some (zi ((place + 1 : Nat) : Int)), some (zi ((steps + 1 : Nat) : Int)), none, none]) ⟨rfl, rfl, rfl, rfl, z_e (by omega), z_e (by omega), z_e (by omega), trivial⟩ (z_mem (M' := z_mup M (a + 1) (stk)) rfl (ih (size - 1) (place + 1) (stk) (steps + 1) (by omega) (by omega) (by omega) (by omega) ?_ hE))
                                      exact fun i hi2 => by have := hb i (by omega); omega
                                    | simp (disch := omega) only [if_pos, if_neg] at hE
                                      rw [show n = nc - (steps + 1) by omega] at hE
                                      refine z_wk (ls' := [some (zn a), some (zn c), some (zi f), some (zn v), some (zi ((size - 1 : Nat) : Int)), some (zi ((place + 1 : Nat) : Int)), some (zi ((steps + 1 : Nat) : Int)), none, none]) ⟨rfl, rfl, rfl, rfl, z_e (by omega), z_e (by omega), z_e (by omega), trivial⟩ (z_mem (M' := z_mup M (a + 1) (ku stk (size - 2) (zjoin (M c place % 16) (stk (size - 2)) (stk (size - 1))))) (by first | rfl | simp only [show ((size : Int) + -1 - 1).toNat = size - 2 by omega, z_mupm]) (ih (size - 1) (place + 1) (ku stk (size - 2) (zjoin (M c place % 16) (stk (size - 2)) (stk (size - 1)))) (steps + 1) (by omega) (by omega) (by omega) (by omega) ?_ hE))
                                      intro i hi2; simp only [ku]; split
                                      · have := zjoin_in (M c place % 16) (stk (size - 2)) (stk (size - 1)); simp only [zBK] at this; omega
                                      · have := hb i (by omega); omega
                              · refine x_iconst 193 rfl dX3_value_192 (by decide) ?_
                                refine x_goto 197 dX3_value_193 (by decide) ?_
                                refine x_icmp_ne 200 207 rfl dX3_value_197 (by decide) (fun c197 => ?_) (fun c197 => ?_)
                                · refine w_iinc 210 rfl dX3_value_207 rfl (by decide) (by omega) rfl (ls' := [_, _, _, _, _, _, _, _, _]) rfl (by decide) ?_
                                  refine x_goto 274 dX3_value_210 (by decide) ?_
                                  refine w_iinc 277 rfl dX3_value_274 rfl (by decide) (by omega) rfl (ls' := [_, _, _, _, _, _, _, _, _]) rfl (by decide) ?_
                                  refine x_goto 9 dX3_value_277 (by decide) ?_
                                  first
                                    | (exfalso; omega)
                                    | simp (disch := omega) only [if_pos, if_neg] at hE
                                      rw [show n = nc - (steps + 1) by omega] at hE
                                      have e9 : M c place % 16 = 1 := by omega
                                      refine z_wk (ls' := [some (zn a), some (zn c), some (zi f), some (zn v), some (zi ((size + 1 : Nat) : Int)), some (zi ((place + 1 : Nat) : Int)), some (zi ((steps + 1 : Nat) : Int)), none, none]) ⟨rfl, rfl, rfl, rfl, z_e (by omega), z_e (by omega), z_e (by omega), trivial⟩ (z_mem (M' := z_mup M (a + 1) (ku stk size (M c place / 16))) (by simp only [Int.toNat_natCast, z_mupm]) (ih (size + 1) (place + 1) (ku stk size (M c place / 16)) (steps + 1) (by omega) (by omega) (by omega) (by omega) ?_ hE))
                                      intro i hi2; simp only [ku]; split
                                      · omega
                                      · have := hb i (by omega); omega
                                    | simp (disch := omega) only [if_pos, if_neg] at hE
                                      rw [show n = nc - (steps + 1) by omega] at hE
                                      have e9 : M c place % 16 = 2 := by omega
                                      refine z_wk (ls' := [some (zn a), some (zn c), some (zi f), some (zn v), some (zi ((size + 1 : Nat) : Int)), some (zi ((place + 1 : Nat) : Int)), some (zi ((steps + 1 : Nat) : Int)), none, none]) ⟨rfl, rfl, rfl, rfl, z_e (by omega), z_e (by omega), z_e (by omega), trivial⟩ (z_mem (M' := z_mup M (a + 1) (ku stk size (M v (M c place / 16).toNat))) (by simp only [Int.toNat_natCast, z_mupm]) (ih (size + 1) (place + 1) (ku stk size (M v (M c place / 16).toNat)) (steps + 1) (by omega) (by omega) (by omega) (by omega) ?_ hE))
                                      intro i hi2; simp only [ku]; split
                                      · omega
                                      · have := hb i (by omega); omega
                                    | simp (disch := omega) only [if_pos, if_neg] at hE
                                      rw [show n = nc - (steps + 1) by omega] at hE
                                      have e9 : M c place % 16 = 11 := by omega
                                      refine z_wk (ls' := [some (zn a), some (zn c), some (zi f), some (zn v), some (zi ((size : Nat) : Int)), some (zi ((place + 1 : Nat) : Int)), some (zi ((steps + 1 : Nat) : Int)), none, none]) ⟨rfl, rfl, rfl, rfl, z_e (by omega), z_e (by omega), z_e (by omega), trivial⟩ (z_mem (M' := z_mup M (a + 1) (ku stk (size - 1) (1 - stk (size - 1)))) (by simp only [show ((size : Int) - 1).toNat = size - 1 by omega, z_mupm]) (ih (size) (place + 1) (ku stk (size - 1) (1 - stk (size - 1))) (steps + 1) (by omega) (by omega) (by omega) (by omega) ?_ hE))
                                      intro i hi2; simp only [ku]; split
                                      · omega
                                      · have := hb i (by omega); omega
                                    | simp (disch := omega) only [if_pos, if_neg] at hE
                                      rw [show n = nc - (steps + 1) by omega] at hE
                                      refine z_wk (ls' := [some (zn a), some (zn c), some (zi f), some (zn v), some (zi ((size : Nat) : Int)), some (zi (((M c place / 16).toNat : Nat) : Int)), some (zi ((steps + 1 : Nat) : Int)), none, none]) ⟨rfl, rfl, rfl, rfl, z_e (by omega), z_e (by omega), z_e (by omega), trivial⟩ (z_mem (M' := z_mup M (a + 1) (stk)) rfl (ih (size) ((M c place / 16).toNat) (stk) (steps + 1) (by omega) (by omega) (by omega) (by omega) ?_ hE))
                                      exact fun i hi2 => by have := hb i hi2; omega
                                    | simp (disch := omega) only [if_pos, if_neg] at hE
                                      rw [show n = nc - (steps + 1) by omega] at hE
                                      refine z_wk (ls' := [some (zn a), some (zn c), some (zi f), some (zn v), some (zi ((size - 1 : Nat) : Int)), some (zi ((place + 1 : Nat) : Int)), some (zi ((steps + 1 : Nat) : Int)), none, none]) ⟨rfl, rfl, rfl, rfl, z_e (by omega), z_e (by omega), z_e (by omega), trivial⟩ (z_mem (M' := z_mup M (a + 1) (stk)) rfl (ih (size - 1) (place + 1) (stk) (steps + 1) (by omega) (by omega) (by omega) (by omega) ?_ hE))
                                      exact fun i hi2 => by have := hb i (by omega); omega
                                    | simp (disch := omega) only [if_pos, if_neg] at hE
                                      rw [show n = nc - (steps + 1) by omega] at hE
                                      refine z_wk (ls' := [some (zn a), some (zn c), some (zi f), some (zn v), some (zi ((size - 1 : Nat) : Int)), some (zi ((place + 1 : Nat) : Int)), some (zi ((steps + 1 : Nat) : Int)), none, none]) ⟨rfl, rfl, rfl, rfl, z_e (by omega), z_e (by omega), z_e (by omega), trivial⟩ (z_mem (M' := z_mup M (a + 1) (ku stk (size - 2) (zjoin (M c place % 16) (stk (size - 2)) (stk (size - 1))))) (by first | rfl | simp only [show ((size : Int) + -1 - 1).toNat = size - 2 by omega, z_mupm]) (ih (size - 1) (place + 1) (ku stk (size - 2) (zjoin (M c place % 16) (stk (size - 2)) (stk (size - 1)))) (steps + 1) (by omega) (by omega) (by omega) (by omega) ?_ hE))
                                      intro i hi2; simp only [ku]; split
                                      · have := zjoin_in (M c place % 16) (stk (size - 2)) (stk (size - 1)); simp only [zBK] at this; omega
                                      · have := hb i (by omega); omega
                                · refine x_iload 202 rfl dX3_value_200 rfl ?_
                                  refine y_istore 204 rfl dX3_value_202 rfl (ls' := [_, _, _, _, _, _, _, _, _]) rfl (by decide) ?_
                                  refine x_goto 274 dX3_value_204 (by decide) ?_
                                  refine w_iinc 277 rfl dX3_value_274 rfl (by decide) (by omega) rfl (ls' := [_, _, _, _, _, _, _, _, _]) rfl (by decide) ?_
                                  refine x_goto 9 dX3_value_277 (by decide) ?_
                                  first
                                    | (exfalso; omega)
                                    | simp (disch := omega) only [if_pos, if_neg] at hE
                                      rw [show n = nc - (steps + 1) by omega] at hE
                                      have e9 : M c place % 16 = 1 := by omega
                                      refine z_wk (ls' := [some (zn a), some (zn c), some (zi f), some (zn v), some (zi ((size + 1 : Nat) : Int)), some (zi ((place + 1 : Nat) : Int)), some (zi ((steps + 1 : Nat) : Int)), none, none]) ⟨rfl, rfl, rfl, rfl, z_e (by omega), z_e (by omega), z_e (by omega), trivial⟩ (z_mem (M' := z_mup M (a + 1) (ku stk size (M c place / 16))) (by simp only [Int.toNat_natCast, z_mupm]) (ih (size + 1) (place + 1) (ku stk size (M c place / 16)) (steps + 1) (by omega) (by omega) (by omega) (by omega) ?_ hE))
                                      intro i hi2; simp only [ku]; split
                                      · omega
                                      · have := hb i (by omega); omega
                                    | simp (disch := omega) only [if_pos, if_neg] at hE
                                      rw [show n = nc - (steps + 1) by omega] at hE
                                      have e9 : M c place % 16 = 2 := by omega
                                      refine z_wk (ls' := [some (zn a), some (zn c), some (zi f), some (zn v), some (zi ((size + 1 : Nat) : Int)), some (zi ((place + 1 : Nat) : Int)), some (zi ((steps + 1 : Nat) : Int)), none, none]) ⟨rfl, rfl, rfl, rfl, z_e (by omega), z_e (by omega), z_e (by omega), trivial⟩ (z_mem (M' := z_mup M (a + 1) (ku stk size (M v (M c place / 16).toNat))) (by simp only [Int.toNat_natCast, z_mupm]) (ih (size + 1) (place + 1) (ku stk size (M v (M c place / 16).toNat)) (steps + 1) (by omega) (by omega) (by omega) (by omega) ?_ hE))
                                      intro i hi2; simp only [ku]; split
                                      · omega
                                      · have := hb i (by omega); omega
                                    | simp (disch := omega) only [if_pos, if_neg] at hE
                                      rw [show n = nc - (steps + 1) by omega] at hE
                                      have e9 : M c place % 16 = 11 := by omega
                                      refine z_wk (ls' := [some (zn a), some (zn c), some (zi f), some (zn v), some (zi ((size : Nat) : Int)), some (zi ((place + 1 : Nat) : Int)), some (zi ((steps + 1 : Nat) : Int)), none, none]) ⟨rfl, rfl, rfl, rfl, z_e (by omega), z_e (by omega), z_e (by omega), trivial⟩ (z_mem (M' := z_mup M (a + 1) (ku stk (size - 1) (1 - stk (size - 1)))) (by simp only [show ((size : Int) - 1).toNat = size - 1 by omega, z_mupm]) (ih (size) (place + 1) (ku stk (size - 1) (1 - stk (size - 1))) (steps + 1) (by omega) (by omega) (by omega) (by omega) ?_ hE))
                                      intro i hi2; simp only [ku]; split
                                      · omega
                                      · have := hb i (by omega); omega
                                    | simp (disch := omega) only [if_pos, if_neg] at hE
                                      rw [show n = nc - (steps + 1) by omega] at hE
                                      refine z_wk (ls' := [some (zn a), some (zn c), some (zi f), some (zn v), some (zi ((size : Nat) : Int)), some (zi (((M c place / 16).toNat : Nat) : Int)), some (zi ((steps + 1 : Nat) : Int)), none, none]) ⟨rfl, rfl, rfl, rfl, z_e (by omega), z_e (by omega), z_e (by omega), trivial⟩ (z_mem (M' := z_mup M (a + 1) (stk)) rfl (ih (size) ((M c place / 16).toNat) (stk) (steps + 1) (by omega) (by omega) (by omega) (by omega) ?_ hE))
                                      exact fun i hi2 => by have := hb i hi2; omega
                                    | simp (disch := omega) only [if_pos, if_neg] at hE
                                      rw [show n = nc - (steps + 1) by omega] at hE
                                      refine z_wk (ls' := [some (zn a), some (zn c), some (zi f), some (zn v), some (zi ((size - 1 : Nat) : Int)), some (zi ((place + 1 : Nat) : Int)), some (zi ((steps + 1 : Nat) : Int)), none, none]) ⟨rfl, rfl, rfl, rfl, z_e (by omega), z_e (by omega), z_e (by omega), trivial⟩ (z_mem (M' := z_mup M (a + 1) (stk)) rfl (ih (size - 1) (place + 1) (stk) (steps + 1) (by omega) (by omega) (by omega) (by omega) ?_ hE))
                                      exact fun i hi2 => by have := hb i (by omega); omega
                                    | simp (disch := omega) only [if_pos, if_neg] at hE
                                      rw [show n = nc - (steps + 1) by omega] at hE
                                      refine z_wk (ls' := [some (zn a), some (zn c), some (zi f), some (zn v), some (zi ((size - 1 : Nat) : Int)), some (zi ((place + 1 : Nat) : Int)), some (zi ((steps + 1 : Nat) : Int)), none, none]) ⟨rfl, rfl, rfl, rfl, z_e (by omega), z_e (by omega), z_e (by omega), trivial⟩ (z_mem (M' := z_mup M (a + 1) (ku stk (size - 2) (zjoin (M c place % 16) (stk (size - 2)) (stk (size - 1))))) (by first | rfl | simp only [show ((size : Int) + -1 - 1).toNat = size - 2 by omega, z_mupm]) (ih (size - 1) (place + 1) (ku stk (size - 2) (zjoin (M c place % 16) (stk (size - 2)) (stk (size - 1)))) (steps + 1) (by omega) (by omega) (by omega) (by omega) ?_ hE))
                                      intro i hi2; simp only [ku]; split
                                      · have := zjoin_in (M c place % 16) (stk (size - 2)) (stk (size - 1)); simp only [zBK] at this; omega
                                      · have := hb i (by omega); omega
                        · refine x_aload_n 140 rfl dX3_value_139 0 rfl rfl ?_
                          refine x_getr 143 rfl fX3_9 dX3_value_140 (mcl0 h) (mcs0 h) (by decide) (a + 1) rfl ?_
                          refine x_iload 145 rfl dX3_value_143 rfl ?_
                          refine x_iconst 146 rfl dX3_value_145 (by decide) ?_
                          refine y_isub 147 rfl dX3_value_146 (by omega) ?_
                          refine x_iconst 148 rfl dX3_value_147 (by decide) ?_
                          refine x_aload_n 149 rfl dX3_value_148 0 rfl rfl ?_
                          refine x_getr 152 rfl fX3_9 dX3_value_149 (mcl0 h) (mcs0 h) (by decide) (a + 1) rfl ?_
                          refine x_iload 154 rfl dX3_value_152 rfl ?_
                          refine x_iconst 155 rfl dX3_value_154 (by decide) ?_
                          refine y_isub 156 rfl dX3_value_155 (by omega) ?_
                          refine x_iald 157 rfl dX3_value_156 (mcl1 h) (mcs1 h) (by omega) (by omega) ?_
                          try simp (disch := omega) only [z_up_ne, z_up_nk, z_up_eq, z_mup_ne, z_mup_eq, Int.reduceToNat, Int.toNat_natCast]
                          rw [show ((size : Int) - 1).toNat = size - 1 by omega]
                          refine y_isub 158 rfl dX3_value_157 (by omega) ?_
                          refine x_iast 159 rfl dX3_value_158 (mcl1 h) (mcs1 h) (by omega) (by omega) ?_
                          refine x_goto 274 dX3_value_159 (by decide) ?_
                          refine w_iinc 277 rfl dX3_value_274 rfl (by decide) (by omega) rfl (ls' := [_, _, _, _, _, _, _, _, _]) rfl (by decide) ?_
                          refine x_goto 9 dX3_value_277 (by decide) ?_
                          first
                            | (exfalso; omega)
                            | simp (disch := omega) only [if_pos, if_neg] at hE
                              rw [show n = nc - (steps + 1) by omega] at hE
                              have e9 : M c place % 16 = 1 := by omega
                              refine z_wk (ls' := [some (zn a), some (zn c), some (zi f), some (zn v), some (zi ((size + 1 : Nat) : Int)), some (zi ((place + 1 : Nat) : Int)), some (zi ((steps + 1 : Nat) : Int)), none, none]) ⟨rfl, rfl, rfl, rfl, z_e (by omega), z_e (by omega), z_e (by omega), trivial⟩ (z_mem (M' := z_mup M (a + 1) (ku stk size (M c place / 16))) (by simp only [Int.toNat_natCast, z_mupm]) (ih (size + 1) (place + 1) (ku stk size (M c place / 16)) (steps + 1) (by omega) (by omega) (by omega) (by omega) ?_ hE))
                              intro i hi2; simp only [ku]; split
                              · omega
                              · have := hb i (by omega); omega
                            | simp (disch := omega) only [if_pos, if_neg] at hE
                              rw [show n = nc - (steps + 1) by omega] at hE
                              have e9 : M c place % 16 = 2 := by omega
                              refine z_wk (ls' := [some (zn a), some (zn c), some (zi f), some (zn v), some (zi ((size + 1 : Nat) : Int)), some (zi ((place + 1 : Nat) : Int)), some (zi ((steps + 1 : Nat) : Int)), none, none]) ⟨rfl, rfl, rfl, rfl, z_e (by omega), z_e (by omega), z_e (by omega), trivial⟩ (z_mem (M' := z_mup M (a + 1) (ku stk size (M v (M c place / 16).toNat))) (by simp only [Int.toNat_natCast, z_mupm]) (ih (size + 1) (place + 1) (ku stk size (M v (M c place / 16).toNat)) (steps + 1) (by omega) (by omega) (by omega) (by omega) ?_ hE))
                              intro i hi2; simp only [ku]; split
                              · omega
                              · have := hb i (by omega); omega
                            | simp (disch := omega) only [if_pos, if_neg] at hE
                              rw [show n = nc - (steps + 1) by omega] at hE
                              have e9 : M c place % 16 = 11 := by omega
                              refine z_wk (ls' := [some (zn a), some (zn c), some (zi f), some (zn v), some (zi ((size : Nat) : Int)), some (zi ((place + 1 : Nat) : Int)), some (zi ((steps + 1 : Nat) : Int)), none, none]) ⟨rfl, rfl, rfl, rfl, z_e (by omega), z_e (by omega), z_e (by omega), trivial⟩ (z_mem (M' := z_mup M (a + 1) (ku stk (size - 1) (1 - stk (size - 1)))) (by simp only [show ((size : Int) - 1).toNat = size - 1 by omega, z_mupm]) (ih (size) (place + 1) (ku stk (size - 1) (1 - stk (size - 1))) (steps + 1) (by omega) (by omega) (by omega) (by omega) ?_ hE))
                              intro i hi2; simp only [ku]; split
                              · omega
                              · have := hb i (by omega); omega
                            | simp (disch := omega) only [if_pos, if_neg] at hE
                              rw [show n = nc - (steps + 1) by omega] at hE
                              refine z_wk (ls' := [some (zn a), some (zn c), some (zi f), some (zn v), some (zi ((size : Nat) : Int)), some (zi (((M c place / 16).toNat : Nat) : Int)), some (zi ((steps + 1 : Nat) : Int)), none, none]) ⟨rfl, rfl, rfl, rfl, z_e (by omega), z_e (by omega), z_e (by omega), trivial⟩ (z_mem (M' := z_mup M (a + 1) (stk)) rfl (ih (size) ((M c place / 16).toNat) (stk) (steps + 1) (by omega) (by omega) (by omega) (by omega) ?_ hE))
                              exact fun i hi2 => by have := hb i hi2; omega
                            | simp (disch := omega) only [if_pos, if_neg] at hE
                              rw [show n = nc - (steps + 1) by omega] at hE
                              refine z_wk (ls' := [some (zn a), some (zn c), some (zi f), some (zn v), some (zi ((size - 1 : Nat) : Int)), some (zi ((place + 1 : Nat) : Int)), some (zi ((steps + 1 : Nat) : Int)), none, none]) ⟨rfl, rfl, rfl, rfl, z_e (by omega), z_e (by omega), z_e (by omega), trivial⟩ (z_mem (M' := z_mup M (a + 1) (stk)) rfl (ih (size - 1) (place + 1) (stk) (steps + 1) (by omega) (by omega) (by omega) (by omega) ?_ hE))
                              exact fun i hi2 => by have := hb i (by omega); omega
                            | simp (disch := omega) only [if_pos, if_neg] at hE
                              rw [show n = nc - (steps + 1) by omega] at hE
                              refine z_wk (ls' := [some (zn a), some (zn c), some (zi f), some (zn v), some (zi ((size - 1 : Nat) : Int)), some (zi ((place + 1 : Nat) : Int)), some (zi ((steps + 1 : Nat) : Int)), none, none]) ⟨rfl, rfl, rfl, rfl, z_e (by omega), z_e (by omega), z_e (by omega), trivial⟩ (z_mem (M' := z_mup M (a + 1) (ku stk (size - 2) (zjoin (M c place % 16) (stk (size - 2)) (stk (size - 1))))) (by first | rfl | simp only [show ((size : Int) + -1 - 1).toNat = size - 2 by omega, z_mupm]) (ih (size - 1) (place + 1) (ku stk (size - 2) (zjoin (M c place % 16) (stk (size - 2)) (stk (size - 1)))) (steps + 1) (by omega) (by omega) (by omega) (by omega) ?_ hE))
                              intro i hi2; simp only [ku]; split
                              · have := zjoin_in (M c place % 16) (stk (size - 2)) (stk (size - 1)); simp only [zBK] at this; omega
                              · have := hb i (by omega); omega
                      · refine x_ldc (x := -2000000000) 131 rfl kX3_15 (by decide) dX3_value_129 ?_
                        refine x_reti dX3_value_131 rfl ?_
                        first
                          | (exfalso; omega)
                          | refine ⟨?_, _, rfl⟩
                            rw [hR, ← hE]
                            simp only [zBK]
                            repeat' split
                            all_goals first | rfl | omega | (exfalso; omega)
                    · refine x_aload_n 96 rfl dX3_value_95 0 rfl rfl ?_
                      refine x_getr 99 rfl fX3_9 dX3_value_96 (mcl0 h) (mcs0 h) (by decide) (a + 1) rfl ?_
                      refine x_iload 101 rfl dX3_value_99 rfl ?_
                      refine x_iload 103 rfl dX3_value_101 rfl ?_
                      refine x_iconst 104 rfl dX3_value_103 (by decide) ?_
                      refine x_icmp_ne 107 112 rfl dX3_value_104 (by decide) (fun c104 => ?_) (fun c104 => ?_)
                      · refine x_aload_n 113 rfl dX3_value_112 3 rfl rfl ?_
                        refine x_iload 115 rfl dX3_value_113 rfl ?_
                        refine x_iald 116 rfl dX3_value_115 hv hSv (by omega) (by omega) ?_
                        try simp (disch := omega) only [z_up_ne, z_up_nk, z_up_eq, z_mup_ne, z_mup_eq, Int.reduceToNat, Int.toNat_natCast]
                        have hv1 := hV (M c place / 16).toNat (by omega)
                        refine x_iast 117 rfl dX3_value_116 (mcl1 h) (mcs1 h) (by omega) (by omega) ?_
                        refine w_iinc 120 rfl dX3_value_117 rfl (by decide) (by omega) rfl (ls' := [_, _, _, _, _, _, _, _, _]) rfl (by decide) ?_
                        refine x_goto 274 dX3_value_120 (by decide) ?_
                        refine w_iinc 277 rfl dX3_value_274 rfl (by decide) (by omega) rfl (ls' := [_, _, _, _, _, _, _, _, _]) rfl (by decide) ?_
                        refine x_goto 9 dX3_value_277 (by decide) ?_
                        first
                          | (exfalso; omega)
                          | simp (disch := omega) only [if_pos, if_neg] at hE
                            rw [show n = nc - (steps + 1) by omega] at hE
                            have e9 : M c place % 16 = 1 := by omega
                            refine z_wk (ls' := [some (zn a), some (zn c), some (zi f), some (zn v), some (zi ((size + 1 : Nat) : Int)), some (zi ((place + 1 : Nat) : Int)), some (zi ((steps + 1 : Nat) : Int)), none, none]) ⟨rfl, rfl, rfl, rfl, z_e (by omega), z_e (by omega), z_e (by omega), trivial⟩ (z_mem (M' := z_mup M (a + 1) (ku stk size (M c place / 16))) (by simp only [Int.toNat_natCast, z_mupm]) (ih (size + 1) (place + 1) (ku stk size (M c place / 16)) (steps + 1) (by omega) (by omega) (by omega) (by omega) ?_ hE))
                            intro i hi2; simp only [ku]; split
                            · omega
                            · have := hb i (by omega); omega
                          | simp (disch := omega) only [if_pos, if_neg] at hE
                            rw [show n = nc - (steps + 1) by omega] at hE
                            have e9 : M c place % 16 = 2 := by omega
                            refine z_wk (ls' := [some (zn a), some (zn c), some (zi f), some (zn v), some (zi ((size + 1 : Nat) : Int)), some (zi ((place + 1 : Nat) : Int)), some (zi ((steps + 1 : Nat) : Int)), none, none]) ⟨rfl, rfl, rfl, rfl, z_e (by omega), z_e (by omega), z_e (by omega), trivial⟩ (z_mem (M' := z_mup M (a + 1) (ku stk size (M v (M c place / 16).toNat))) (by simp only [Int.toNat_natCast, z_mupm]) (ih (size + 1) (place + 1) (ku stk size (M v (M c place / 16).toNat)) (steps + 1) (by omega) (by omega) (by omega) (by omega) ?_ hE))
                            intro i hi2; simp only [ku]; split
                            · omega
                            · have := hb i (by omega); omega
                          | simp (disch := omega) only [if_pos, if_neg] at hE
                            rw [show n = nc - (steps + 1) by omega] at hE
                            have e9 : M c place % 16 = 11 := by omega
                            refine z_wk (ls' := [some (zn a), some (zn c), some (zi f), some (zn v), some (zi ((size : Nat) : Int)), some (zi ((place + 1 : Nat) : Int)), some (zi ((steps + 1 : Nat) : Int)), none, none]) ⟨rfl, rfl, rfl, rfl, z_e (by omega), z_e (by omega), z_e (by omega), trivial⟩ (z_mem (M' := z_mup M (a + 1) (ku stk (size - 1) (1 - stk (size - 1)))) (by simp only [show ((size : Int) - 1).toNat = size - 1 by omega, z_mupm]) (ih (size) (place + 1) (ku stk (size - 1) (1 - stk (size - 1))) (steps + 1) (by omega) (by omega) (by omega) (by omega) ?_ hE))
                            intro i hi2; simp only [ku]; split
                            · omega
                            · have := hb i (by omega); omega
                          | simp (disch := omega) only [if_pos, if_neg] at hE
                            rw [show n = nc - (steps + 1) by omega] at hE
                            refine z_wk (ls' := [some (zn a), some (zn c), some (zi f), some (zn v), some (zi ((size : Nat) : Int)), some (zi (((M c place / 16).toNat : Nat) : Int)), some (zi ((steps + 1 : Nat) : Int)), none, none]) ⟨rfl, rfl, rfl, rfl, z_e (by omega), z_e (by omega), z_e (by omega), trivial⟩ (z_mem (M' := z_mup M (a + 1) (stk)) rfl (ih (size) ((M c place / 16).toNat) (stk) (steps + 1) (by omega) (by omega) (by omega) (by omega) ?_ hE))
                            exact fun i hi2 => by have := hb i hi2; omega
                          | simp (disch := omega) only [if_pos, if_neg] at hE
                            rw [show n = nc - (steps + 1) by omega] at hE
                            refine z_wk (ls' := [some (zn a), some (zn c), some (zi f), some (zn v), some (zi ((size - 1 : Nat) : Int)), some (zi ((place + 1 : Nat) : Int)), some (zi ((steps + 1 : Nat) : Int)), none, none]) ⟨rfl, rfl, rfl, rfl, z_e (by omega), z_e (by omega), z_e (by omega), trivial⟩ (z_mem (M' := z_mup M (a + 1) (stk)) rfl (ih (size - 1) (place + 1) (stk) (steps + 1) (by omega) (by omega) (by omega) (by omega) ?_ hE))
                            exact fun i hi2 => by have := hb i (by omega); omega
                          | simp (disch := omega) only [if_pos, if_neg] at hE
                            rw [show n = nc - (steps + 1) by omega] at hE
                            refine z_wk (ls' := [some (zn a), some (zn c), some (zi f), some (zn v), some (zi ((size - 1 : Nat) : Int)), some (zi ((place + 1 : Nat) : Int)), some (zi ((steps + 1 : Nat) : Int)), none, none]) ⟨rfl, rfl, rfl, rfl, z_e (by omega), z_e (by omega), z_e (by omega), trivial⟩ (z_mem (M' := z_mup M (a + 1) (ku stk (size - 2) (zjoin (M c place % 16) (stk (size - 2)) (stk (size - 1))))) (by first | rfl | simp only [show ((size : Int) + -1 - 1).toNat = size - 2 by omega, z_mupm]) (ih (size - 1) (place + 1) (ku stk (size - 2) (zjoin (M c place % 16) (stk (size - 2)) (stk (size - 1)))) (steps + 1) (by omega) (by omega) (by omega) (by omega) ?_ hE))
                            intro i hi2; simp only [ku]; split
                            · have := zjoin_in (M c place % 16) (stk (size - 2)) (stk (size - 1)); simp only [zBK] at this; omega
                            · have := hb i (by omega); omega
                      · refine x_iload 109 rfl dX3_value_107 rfl ?_
                        refine x_goto 116 dX3_value_109 (by decide) ?_
                        refine x_iast 117 rfl dX3_value_116 (mcl1 h) (mcs1 h) (by omega) (by omega) ?_
                        refine w_iinc 120 rfl dX3_value_117 rfl (by decide) (by omega) rfl (ls' := [_, _, _, _, _, _, _, _, _]) rfl (by decide) ?_
                        refine x_goto 274 dX3_value_120 (by decide) ?_
                        refine w_iinc 277 rfl dX3_value_274 rfl (by decide) (by omega) rfl (ls' := [_, _, _, _, _, _, _, _, _]) rfl (by decide) ?_
                        refine x_goto 9 dX3_value_277 (by decide) ?_
                        first
                          | (exfalso; omega)
                          | simp (disch := omega) only [if_pos, if_neg] at hE
                            rw [show n = nc - (steps + 1) by omega] at hE
                            have e9 : M c place % 16 = 1 := by omega
                            refine z_wk (ls' := [some (zn a), some (zn c), some (zi f), some (zn v), some (zi ((size + 1 : Nat) : Int)), some (zi ((place + 1 : Nat) : Int)), some (zi ((steps + 1 : Nat) : Int)), none, none]) ⟨rfl, rfl, rfl, rfl, z_e (by omega), z_e (by omega), z_e (by omega), trivial⟩ (z_mem (M' := z_mup M (a + 1) (ku stk size (M c place / 16))) (by simp only [Int.toNat_natCast, z_mupm]) (ih (size + 1) (place + 1) (ku stk size (M c place / 16)) (steps + 1) (by omega) (by omega) (by omega) (by omega) ?_ hE))
                            intro i hi2; simp only [ku]; split
                            · omega
                            · have := hb i (by omega); omega
                          | simp (disch := omega) only [if_pos, if_neg] at hE
                            rw [show n = nc - (steps + 1) by omega] at hE
                            have e9 : M c place % 16 = 2 := by omega
                            refine z_wk (ls' := [some (zn a), some (zn c), some (zi f), some (zn v), some (zi ((size + 1 : Nat) : Int)), some (zi ((place + 1 : Nat) : Int)), some (zi ((steps + 1 : Nat) : Int)), none, none]) ⟨rfl, rfl, rfl, rfl, z_e (by omega), z_e (by omega), z_e (by omega), trivial⟩ (z_mem (M' := z_mup M (a + 1) (ku stk size (M v (M c place / 16).toNat))) (by simp only [Int.toNat_natCast, z_mupm]) (ih (size + 1) (place + 1) (ku stk size (M v (M c place / 16).toNat)) (steps + 1) (by omega) (by omega) (by omega) (by omega) ?_ hE))
                            intro i hi2; simp only [ku]; split
                            · omega
                            · have := hb i (by omega); omega
                          | simp (disch := omega) only [if_pos, if_neg] at hE
                            rw [show n = nc - (steps + 1) by omega] at hE
                            have e9 : M c place % 16 = 11 := by omega
                            refine z_wk (ls' := [some (zn a), some (zn c), some (zi f), some (zn v), some (zi ((size : Nat) : Int)), some (zi ((place + 1 : Nat) : Int)), some (zi ((steps + 1 : Nat) : Int)), none, none]) ⟨rfl, rfl, rfl, rfl, z_e (by omega), z_e (by omega), z_e (by omega), trivial⟩ (z_mem (M' := z_mup M (a + 1) (ku stk (size - 1) (1 - stk (size - 1)))) (by simp only [show ((size : Int) - 1).toNat = size - 1 by omega, z_mupm]) (ih (size) (place + 1) (ku stk (size - 1) (1 - stk (size - 1))) (steps + 1) (by omega) (by omega) (by omega) (by omega) ?_ hE))
                            intro i hi2; simp only [ku]; split
                            · omega
                            · have := hb i (by omega); omega
                          | simp (disch := omega) only [if_pos, if_neg] at hE
                            rw [show n = nc - (steps + 1) by omega] at hE
                            refine z_wk (ls' := [some (zn a), some (zn c), some (zi f), some (zn v), some (zi ((size : Nat) : Int)), some (zi (((M c place / 16).toNat : Nat) : Int)), some (zi ((steps + 1 : Nat) : Int)), none, none]) ⟨rfl, rfl, rfl, rfl, z_e (by omega), z_e (by omega), z_e (by omega), trivial⟩ (z_mem (M' := z_mup M (a + 1) (stk)) rfl (ih (size) ((M c place / 16).toNat) (stk) (steps + 1) (by omega) (by omega) (by omega) (by omega) ?_ hE))
                            exact fun i hi2 => by have := hb i hi2; omega
                          | simp (disch := omega) only [if_pos, if_neg] at hE
                            rw [show n = nc - (steps + 1) by omega] at hE
                            refine z_wk (ls' := [some (zn a), some (zn c), some (zi f), some (zn v), some (zi ((size - 1 : Nat) : Int)), some (zi ((place + 1 : Nat) : Int)), some (zi ((steps + 1 : Nat) : Int)), none, none]) ⟨rfl, rfl, rfl, rfl, z_e (by omega), z_e (by omega), z_e (by omega), trivial⟩ (z_mem (M' := z_mup M (a + 1) (stk)) rfl (ih (size - 1) (place + 1) (stk) (steps + 1) (by omega) (by omega) (by omega) (by omega) ?_ hE))
                            exact fun i hi2 => by have := hb i (by omega); omega
                          | simp (disch := omega) only [if_pos, if_neg] at hE
                            rw [show n = nc - (steps + 1) by omega] at hE
                            refine z_wk (ls' := [some (zn a), some (zn c), some (zi f), some (zn v), some (zi ((size - 1 : Nat) : Int)), some (zi ((place + 1 : Nat) : Int)), some (zi ((steps + 1 : Nat) : Int)), none, none]) ⟨rfl, rfl, rfl, rfl, z_e (by omega), z_e (by omega), z_e (by omega), trivial⟩ (z_mem (M' := z_mup M (a + 1) (ku stk (size - 2) (zjoin (M c place % 16) (stk (size - 2)) (stk (size - 1))))) (by first | rfl | simp only [show ((size : Int) + -1 - 1).toNat = size - 2 by omega, z_mupm]) (ih (size - 1) (place + 1) (ku stk (size - 2) (zjoin (M c place % 16) (stk (size - 2)) (stk (size - 1)))) (steps + 1) (by omega) (by omega) (by omega) (by omega) ?_ hE))
                            intro i hi2; simp only [ku]; split
                            · have := zjoin_in (M c place % 16) (stk (size - 2)) (stk (size - 1)); simp only [zBK] at this; omega
                            · have := hb i (by omega); omega
                · refine x_iload 75 rfl dX3_value_73 rfl ?_
                  refine x_aload_n 76 rfl dX3_value_75 3 rfl rfl ?_
                  refine x_alen (t := 0) 77 rfl dX3_value_76 hv hSv (Or.inl rfl) (by decide) ?_
                  refine x_icmp_lt 80 83 rfl dX3_value_77 (by decide) (fun c77 => ?_) (fun c77 => ?_)
                  · refine x_iload 85 rfl dX3_value_83 rfl ?_
                    refine x_iconst 86 rfl dX3_value_85 (by decide) ?_
                    refine x_icmp_eq 89 95 rfl dX3_value_86 (by decide) (fun c86 => ?_) (fun c86 => ?_)
                    · refine x_aload_n 96 rfl dX3_value_95 0 rfl rfl ?_
                      refine x_getr 99 rfl fX3_9 dX3_value_96 (mcl0 h) (mcs0 h) (by decide) (a + 1) rfl ?_
                      refine x_iload 101 rfl dX3_value_99 rfl ?_
                      refine x_iload 103 rfl dX3_value_101 rfl ?_
                      refine x_iconst 104 rfl dX3_value_103 (by decide) ?_
                      refine x_icmp_ne 107 112 rfl dX3_value_104 (by decide) (fun c104 => ?_) (fun c104 => ?_)
                      · refine x_aload_n 113 rfl dX3_value_112 3 rfl rfl ?_
                        refine x_iload 115 rfl dX3_value_113 rfl ?_
                        refine x_iald 116 rfl dX3_value_115 hv hSv (by omega) (by omega) ?_
                        try simp (disch := omega) only [z_up_ne, z_up_nk, z_up_eq, z_mup_ne, z_mup_eq, Int.reduceToNat, Int.toNat_natCast]
                        have hv1 := hV (M c place / 16).toNat (by omega)
                        refine x_iast 117 rfl dX3_value_116 (mcl1 h) (mcs1 h) (by omega) (by omega) ?_
                        refine w_iinc 120 rfl dX3_value_117 rfl (by decide) (by omega) rfl (ls' := [_, _, _, _, _, _, _, _, _]) rfl (by decide) ?_
                        refine x_goto 274 dX3_value_120 (by decide) ?_
                        refine w_iinc 277 rfl dX3_value_274 rfl (by decide) (by omega) rfl (ls' := [_, _, _, _, _, _, _, _, _]) rfl (by decide) ?_
                        refine x_goto 9 dX3_value_277 (by decide) ?_
                        first
                          | (exfalso; omega)
                          | simp (disch := omega) only [if_pos, if_neg] at hE
                            rw [show n = nc - (steps + 1) by omega] at hE
                            have e9 : M c place % 16 = 1 := by omega
                            refine z_wk (ls' := [some (zn a), some (zn c), some (zi f), some (zn v), some (zi ((size + 1 : Nat) : Int)), some (zi ((place + 1 : Nat) : Int)), some (zi ((steps + 1 : Nat) : Int)), none, none]) ⟨rfl, rfl, rfl, rfl, z_e (by omega), z_e (by omega), z_e (by omega), trivial⟩ (z_mem (M' := z_mup M (a + 1) (ku stk size (M c place / 16))) (by simp only [Int.toNat_natCast, z_mupm]) (ih (size + 1) (place + 1) (ku stk size (M c place / 16)) (steps + 1) (by omega) (by omega) (by omega) (by omega) ?_ hE))
                            intro i hi2; simp only [ku]; split
                            · omega
                            · have := hb i (by omega); omega
                          | simp (disch := omega) only [if_pos, if_neg] at hE
                            rw [show n = nc - (steps + 1) by omega] at hE
                            have e9 : M c place % 16 = 2 := by omega
                            refine z_wk (ls' := [some (zn a), some (zn c), some (zi f), some (zn v), some (zi ((size + 1 : Nat) : Int)), some (zi ((place + 1 : Nat) : Int)), some (zi ((steps + 1 : Nat) : Int)), none, none]) ⟨rfl, rfl, rfl, rfl, z_e (by omega), z_e (by omega), z_e (by omega), trivial⟩ (z_mem (M' := z_mup M (a + 1) (ku stk size (M v (M c place / 16).toNat))) (by simp only [Int.toNat_natCast, z_mupm]) (ih (size + 1) (place + 1) (ku stk size (M v (M c place / 16).toNat)) (steps + 1) (by omega) (by omega) (by omega) (by omega) ?_ hE))
                            intro i hi2; simp only [ku]; split
                            · omega
                            · have := hb i (by omega); omega
                          | simp (disch := omega) only [if_pos, if_neg] at hE
                            rw [show n = nc - (steps + 1) by omega] at hE
                            have e9 : M c place % 16 = 11 := by omega
                            refine z_wk (ls' := [some (zn a), some (zn c), some (zi f), some (zn v), some (zi ((size : Nat) : Int)), some (zi ((place + 1 : Nat) : Int)), some (zi ((steps + 1 : Nat) : Int)), none, none]) ⟨rfl, rfl, rfl, rfl, z_e (by omega), z_e (by omega), z_e (by omega), trivial⟩ (z_mem (M' := z_mup M (a + 1) (ku stk (size - 1) (1 - stk (size - 1)))) (by simp only [show ((size : Int) - 1).toNat = size - 1 by omega, z_mupm]) (ih (size) (place + 1) (ku stk (size - 1) (1 - stk (size - 1))) (steps + 1) (by omega) (by omega) (by omega) (by omega) ?_ hE))
                            intro i hi2; simp only [ku]; split
                            · omega
                            · have := hb i (by omega); omega
                          | simp (disch := omega) only [if_pos, if_neg] at hE
                            rw [show n = nc - (steps + 1) by omega] at hE
                            refine z_wk (ls' := [some (zn a), some (zn c), some (zi f), some (zn v), some (zi ((size : Nat) : Int)), some (zi (((M c place / 16).toNat : Nat) : Int)), some (zi ((steps + 1 : Nat) : Int)), none, none]) ⟨rfl, rfl, rfl, rfl, z_e (by omega), z_e (by omega), z_e (by omega), trivial⟩ (z_mem (M' := z_mup M (a + 1) (stk)) rfl (ih (size) ((M c place / 16).toNat) (stk) (steps + 1) (by omega) (by omega) (by omega) (by omega) ?_ hE))
                            exact fun i hi2 => by have := hb i hi2; omega
                          | simp (disch := omega) only [if_pos, if_neg] at hE
                            rw [show n = nc - (steps + 1) by omega] at hE
                            refine z_wk (ls' := [some (zn a), some (zn c), some (zi f), some (zn v), some (zi ((size - 1 : Nat) : Int)), some (zi ((place + 1 : Nat) : Int)), some (zi ((steps + 1 : Nat) : Int)), none, none]) ⟨rfl, rfl, rfl, rfl, z_e (by omega), z_e (by omega), z_e (by omega), trivial⟩ (z_mem (M' := z_mup M (a + 1) (stk)) rfl (ih (size - 1) (place + 1) (stk) (steps + 1) (by omega) (by omega) (by omega) (by omega) ?_ hE))
                            exact fun i hi2 => by have := hb i (by omega); omega
                          | simp (disch := omega) only [if_pos, if_neg] at hE
                            rw [show n = nc - (steps + 1) by omega] at hE
                            refine z_wk (ls' := [some (zn a), some (zn c), some (zi f), some (zn v), some (zi ((size - 1 : Nat) : Int)), some (zi ((place + 1 : Nat) : Int)), some (zi ((steps + 1 : Nat) : Int)), none, none]) ⟨rfl, rfl, rfl, rfl, z_e (by omega), z_e (by omega), z_e (by omega), trivial⟩ (z_mem (M' := z_mup M (a + 1) (ku stk (size - 2) (zjoin (M c place % 16) (stk (size - 2)) (stk (size - 1))))) (by first | rfl | simp only [show ((size : Int) + -1 - 1).toNat = size - 2 by omega, z_mupm]) (ih (size - 1) (place + 1) (ku stk (size - 2) (zjoin (M c place % 16) (stk (size - 2)) (stk (size - 1)))) (steps + 1) (by omega) (by omega) (by omega) (by omega) ?_ hE))
                            intro i hi2; simp only [ku]; split
                            · have := zjoin_in (M c place % 16) (stk (size - 2)) (stk (size - 1)); simp only [zBK] at this; omega
                            · have := hb i (by omega); omega
                      · refine x_iload 109 rfl dX3_value_107 rfl ?_
                        refine x_goto 116 dX3_value_109 (by decide) ?_
                        refine x_iast 117 rfl dX3_value_116 (mcl1 h) (mcs1 h) (by omega) (by omega) ?_
                        refine w_iinc 120 rfl dX3_value_117 rfl (by decide) (by omega) rfl (ls' := [_, _, _, _, _, _, _, _, _]) rfl (by decide) ?_
                        refine x_goto 274 dX3_value_120 (by decide) ?_
                        refine w_iinc 277 rfl dX3_value_274 rfl (by decide) (by omega) rfl (ls' := [_, _, _, _, _, _, _, _, _]) rfl (by decide) ?_
                        refine x_goto 9 dX3_value_277 (by decide) ?_
                        first
                          | (exfalso; omega)
                          | simp (disch := omega) only [if_pos, if_neg] at hE
                            rw [show n = nc - (steps + 1) by omega] at hE
                            have e9 : M c place % 16 = 1 := by omega
                            refine z_wk (ls' := [some (zn a), some (zn c), some (zi f), some (zn v), some (zi ((size + 1 : Nat) : Int)), some (zi ((place + 1 : Nat) : Int)), some (zi ((steps + 1 : Nat) : Int)), none, none]) ⟨rfl, rfl, rfl, rfl, z_e (by omega), z_e (by omega), z_e (by omega), trivial⟩ (z_mem (M' := z_mup M (a + 1) (ku stk size (M c place / 16))) (by simp only [Int.toNat_natCast, z_mupm]) (ih (size + 1) (place + 1) (ku stk size (M c place / 16)) (steps + 1) (by omega) (by omega) (by omega) (by omega) ?_ hE))
                            intro i hi2; simp only [ku]; split
                            · omega
                            · have := hb i (by omega); omega
                          | simp (disch := omega) only [if_pos, if_neg] at hE
                            rw [show n = nc - (steps + 1) by omega] at hE
                            have e9 : M c place % 16 = 2 := by omega
                            refine z_wk (ls' := [some (zn a), some (zn c), some (zi f), some (zn v), some (zi ((size + 1 : Nat) : Int)), some (zi ((place + 1 : Nat) : Int)), some (zi ((steps + 1 : Nat) : Int)), none, none]) ⟨rfl, rfl, rfl, rfl, z_e (by omega), z_e (by omega), z_e (by omega), trivial⟩ (z_mem (M' := z_mup M (a + 1) (ku stk size (M v (M c place / 16).toNat))) (by simp only [Int.toNat_natCast, z_mupm]) (ih (size + 1) (place + 1) (ku stk size (M v (M c place / 16).toNat)) (steps + 1) (by omega) (by omega) (by omega) (by omega) ?_ hE))
                            intro i hi2; simp only [ku]; split
                            · omega
                            · have := hb i (by omega); omega
                          | simp (disch := omega) only [if_pos, if_neg] at hE
                            rw [show n = nc - (steps + 1) by omega] at hE
                            have e9 : M c place % 16 = 11 := by omega
                            refine z_wk (ls' := [some (zn a), some (zn c), some (zi f), some (zn v), some (zi ((size : Nat) : Int)), some (zi ((place + 1 : Nat) : Int)), some (zi ((steps + 1 : Nat) : Int)), none, none]) ⟨rfl, rfl, rfl, rfl, z_e (by omega), z_e (by omega), z_e (by omega), trivial⟩ (z_mem (M' := z_mup M (a + 1) (ku stk (size - 1) (1 - stk (size - 1)))) (by simp only [show ((size : Int) - 1).toNat = size - 1 by omega, z_mupm]) (ih (size) (place + 1) (ku stk (size - 1) (1 - stk (size - 1))) (steps + 1) (by omega) (by omega) (by omega) (by omega) ?_ hE))
                            intro i hi2; simp only [ku]; split
                            · omega
                            · have := hb i (by omega); omega
                          | simp (disch := omega) only [if_pos, if_neg] at hE
                            rw [show n = nc - (steps + 1) by omega] at hE
                            refine z_wk (ls' := [some (zn a), some (zn c), some (zi f), some (zn v), some (zi ((size : Nat) : Int)), some (zi (((M c place / 16).toNat : Nat) : Int)), some (zi ((steps + 1 : Nat) : Int)), none, none]) ⟨rfl, rfl, rfl, rfl, z_e (by omega), z_e (by omega), z_e (by omega), trivial⟩ (z_mem (M' := z_mup M (a + 1) (stk)) rfl (ih (size) ((M c place / 16).toNat) (stk) (steps + 1) (by omega) (by omega) (by omega) (by omega) ?_ hE))
                            exact fun i hi2 => by have := hb i hi2; omega
                          | simp (disch := omega) only [if_pos, if_neg] at hE
                            rw [show n = nc - (steps + 1) by omega] at hE
                            refine z_wk (ls' := [some (zn a), some (zn c), some (zi f), some (zn v), some (zi ((size - 1 : Nat) : Int)), some (zi ((place + 1 : Nat) : Int)), some (zi ((steps + 1 : Nat) : Int)), none, none]) ⟨rfl, rfl, rfl, rfl, z_e (by omega), z_e (by omega), z_e (by omega), trivial⟩ (z_mem (M' := z_mup M (a + 1) (stk)) rfl (ih (size - 1) (place + 1) (stk) (steps + 1) (by omega) (by omega) (by omega) (by omega) ?_ hE))
                            exact fun i hi2 => by have := hb i (by omega); omega
                          | simp (disch := omega) only [if_pos, if_neg] at hE
                            rw [show n = nc - (steps + 1) by omega] at hE
                            refine z_wk (ls' := [some (zn a), some (zn c), some (zi f), some (zn v), some (zi ((size - 1 : Nat) : Int)), some (zi ((place + 1 : Nat) : Int)), some (zi ((steps + 1 : Nat) : Int)), none, none]) ⟨rfl, rfl, rfl, rfl, z_e (by omega), z_e (by omega), z_e (by omega), trivial⟩ (z_mem (M' := z_mup M (a + 1) (ku stk (size - 2) (zjoin (M c place % 16) (stk (size - 2)) (stk (size - 1))))) (by first | rfl | simp only [show ((size : Int) + -1 - 1).toNat = size - 2 by omega, z_mupm]) (ih (size - 1) (place + 1) (ku stk (size - 2) (zjoin (M c place % 16) (stk (size - 2)) (stk (size - 1)))) (steps + 1) (by omega) (by omega) (by omega) (by omega) ?_ hE))
                            intro i hi2; simp only [ku]; split
                            · have := zjoin_in (M c place % 16) (stk (size - 2)) (stk (size - 1)); simp only [zBK] at this; omega
                            · have := hb i (by omega); omega
                    · refine x_iload 91 rfl dX3_value_89 rfl ?_
                      refine x_iconst 92 rfl dX3_value_91 (by decide) ?_
                      refine x_icmp_ne 95 123 rfl dX3_value_92 (by decide) (fun c92 => ?_) (fun c92 => ?_)
                      · refine x_iload 125 rfl dX3_value_123 rfl ?_
                        refine x_iconst 126 rfl dX3_value_125 (by decide) ?_
                        refine x_icmp_ge 129 132 rfl dX3_value_126 (by decide) (fun c126 => ?_) (fun c126 => ?_)
                        · have hb1 := hb (size - 1) (by omega)
                          refine x_iload 134 rfl dX3_value_132 rfl ?_
                          refine x_bipush 136 rfl dX3_value_134 (by decide) ?_
                          refine x_icmp_ne 139 162 rfl dX3_value_136 (by decide) (fun c136 => ?_) (fun c136 => ?_)
                          · refine x_iload 164 rfl dX3_value_162 rfl ?_
                            refine x_bipush 166 rfl dX3_value_164 (by decide) ?_
                            refine x_icmp_eq 169 176 rfl dX3_value_166 (by decide) (fun c166 => ?_) (fun c166 => ?_)
                            · refine x_aload_n 177 rfl dX3_value_176 0 rfl rfl ?_
                              refine x_getr 180 rfl fX3_9 dX3_value_177 (mcl0 h) (mcs0 h) (by decide) (a + 1) rfl ?_
                              refine x_iload 182 rfl dX3_value_180 rfl ?_
                              refine x_iconst 183 rfl dX3_value_182 (by decide) ?_
                              refine y_isub 184 rfl dX3_value_183 (by omega) ?_
                              refine x_iald 185 rfl dX3_value_184 (mcl1 h) (mcs1 h) (by omega) (by omega) ?_
                              try simp (disch := omega) only [z_up_ne, z_up_nk, z_up_eq, z_mup_ne, z_mup_eq, Int.reduceToNat, Int.toNat_natCast]
                              rw [show ((size : Int) - 1).toNat = size - 1 by omega]
                              refine x_iload 187 rfl dX3_value_185 rfl ?_
                              refine x_bipush 189 rfl dX3_value_187 (by decide) ?_
                              refine x_icmp_ne 192 196 rfl dX3_value_189 (by decide) (fun c189 => ?_) (fun c189 => ?_)
                              · refine x_iconst 197 rfl dX3_value_196 (by decide) ?_
                                refine x_icmp_ne 200 207 rfl dX3_value_197 (by decide) (fun c197 => ?_) (fun c197 => ?_)
                                · refine w_iinc 210 rfl dX3_value_207 rfl (by decide) (by omega) rfl (ls' := [_, _, _, _, _, _, _, _, _]) rfl (by decide) ?_
                                  refine x_goto 274 dX3_value_210 (by decide) ?_
                                  refine w_iinc 277 rfl dX3_value_274 rfl (by decide) (by omega) rfl (ls' := [_, _, _, _, _, _, _, _, _]) rfl (by decide) ?_
                                  refine x_goto 9 dX3_value_277 (by decide) ?_
                                  first
                                    | (exfalso; omega)
                                    | simp (disch := omega) only [if_pos, if_neg] at hE
                                      rw [show n = nc - (steps + 1) by omega] at hE
                                      have e9 : M c place % 16 = 1 := by omega
                                      refine z_wk (ls' := [some (zn a), some (zn c), some (zi f), some (zn v), some (zi ((size + 1 : Nat) : Int)), some (zi ((place + 1 : Nat) : Int)), some (zi ((steps + 1 : Nat) : Int)), none, none]) ⟨rfl, rfl, rfl, rfl, z_e (by omega), z_e (by omega), z_e (by omega), trivial⟩ (z_mem (M' := z_mup M (a + 1) (ku stk size (M c place / 16))) (by simp only [Int.toNat_natCast, z_mupm]) (ih (size + 1) (place + 1) (ku stk size (M c place / 16)) (steps + 1) (by omega) (by omega) (by omega) (by omega) ?_ hE))
                                      intro i hi2; simp only [ku]; split
                                      · omega
                                      · have := hb i (by omega); omega
                                    | simp (disch := omega) only [if_pos, if_neg] at hE
                                      rw [show n = nc - (steps + 1) by omega] at hE
                                      have e9 : M c place % 16 = 2 := by omega
                                      refine z_wk (ls' := [some (zn a), some (zn c), some (zi f), some (zn v), some (zi ((size + 1 : Nat) : Int)), some (zi ((place + 1 : Nat) : Int)), some (zi ((steps + 1 : Nat) : Int)), none, none]) ⟨rfl, rfl, rfl, rfl, z_e (by omega), z_e (by omega), z_e (by omega), trivial⟩ (z_mem (M' := z_mup M (a + 1) (ku stk size (M v (M c place / 16).toNat))) (by simp only [Int.toNat_natCast, z_mupm]) (ih (size + 1) (place + 1) (ku stk size (M v (M c place / 16).toNat)) (steps + 1) (by omega) (by omega) (by omega) (by omega) ?_ hE))
                                      intro i hi2; simp only [ku]; split
                                      · omega
                                      · have := hb i (by omega); omega
                                    | simp (disch := omega) only [if_pos, if_neg] at hE
                                      rw [show n = nc - (steps + 1) by omega] at hE
                                      have e9 : M c place % 16 = 11 := by omega
                                      refine z_wk (ls' := [some (zn a), some (zn c), some (zi f), some (zn v), some (zi ((size : Nat) : Int)), some (zi ((place + 1 : Nat) : Int)), some (zi ((steps + 1 : Nat) : Int)), none, none]) ⟨rfl, rfl, rfl, rfl, z_e (by omega), z_e (by omega), z_e (by omega), trivial⟩ (z_mem (M' := z_mup M (a + 1) (ku stk (size - 1) (1 - stk (size - 1)))) (by simp only [show ((size : Int) - 1).toNat = size - 1 by omega, z_mupm]) (ih (size) (place + 1) (ku stk (size - 1) (1 - stk (size - 1))) (steps + 1) (by omega) (by omega) (by omega) (by omega) ?_ hE))
                                      intro i hi2; simp only [ku]; split
                                      · omega
                                      · have := hb i (by omega); omega
                                    | simp (disch := omega) only [if_pos, if_neg] at hE
                                      rw [show n = nc - (steps + 1) by omega] at hE
                                      refine z_wk (ls' := [some (zn a), some (zn c), some (zi f), some (zn v), some (zi ((size : Nat) : Int)), some (zi (((M c place / 16).toNat : Nat) : Int)), some (zi ((steps + 1 : Nat) : Int)), none, none]) ⟨rfl, rfl, rfl, rfl, z_e (by omega), z_e (by omega), z_e (by omega), trivial⟩ (z_mem (M' := z_mup M (a + 1) (stk)) rfl (ih (size) ((M c place / 16).toNat) (stk) (steps + 1) (by omega) (by omega) (by omega) (by omega) ?_ hE))
                                      exact fun i hi2 => by have := hb i hi2; omega
                                    | simp (disch := omega) only [if_pos, if_neg] at hE
                                      rw [show n = nc - (steps + 1) by omega] at hE
                                      refine z_wk (ls' := [some (zn a), some (zn c), some (zi f), some (zn v), some (zi ((size - 1 : Nat) : Int)), some (zi ((place + 1 : Nat) : Int)), some (zi ((steps + 1 : Nat) : Int)), none, none]) ⟨rfl, rfl, rfl, rfl, z_e (by omega), z_e (by omega), z_e (by omega), trivial⟩ (z_mem (M' := z_mup M (a + 1) (stk)) rfl (ih (size - 1) (place + 1) (stk) (steps + 1) (by omega) (by omega) (by omega) (by omega) ?_ hE))
                                      exact fun i hi2 => by have := hb i (by omega); omega
                                    | simp (disch := omega) only [if_pos, if_neg] at hE
                                      rw [show n = nc - (steps + 1) by omega] at hE
                                      refine z_wk (ls' := [some (zn a), some (zn c), some (zi f), some (zn v), some (zi ((size - 1 : Nat) : Int)), some (zi ((place + 1 : Nat) : Int)), some (zi ((steps + 1 : Nat) : Int)), none, none]) ⟨rfl, rfl, rfl, rfl, z_e (by omega), z_e (by omega), z_e (by omega), trivial⟩ (z_mem (M' := z_mup M (a + 1) (ku stk (size - 2) (zjoin (M c place % 16) (stk (size - 2)) (stk (size - 1))))) (by first | rfl | simp only [show ((size : Int) + -1 - 1).toNat = size - 2 by omega, z_mupm]) (ih (size - 1) (place + 1) (ku stk (size - 2) (zjoin (M c place % 16) (stk (size - 2)) (stk (size - 1)))) (steps + 1) (by omega) (by omega) (by omega) (by omega) ?_ hE))
                                      intro i hi2; simp only [ku]; split
                                      · have := zjoin_in (M c place % 16) (stk (size - 2)) (stk (size - 1)); simp only [zBK] at this; omega
                                      · have := hb i (by omega); omega
                                · refine x_iload 202 rfl dX3_value_200 rfl ?_
                                  refine y_istore 204 rfl dX3_value_202 rfl (ls' := [_, _, _, _, _, _, _, _, _]) rfl (by decide) ?_
                                  refine x_goto 274 dX3_value_204 (by decide) ?_
                                  refine w_iinc 277 rfl dX3_value_274 rfl (by decide) (by omega) rfl (ls' := [_, _, _, _, _, _, _, _, _]) rfl (by decide) ?_
                                  refine x_goto 9 dX3_value_277 (by decide) ?_
                                  first
                                    | (exfalso; omega)
                                    | simp (disch := omega) only [if_pos, if_neg] at hE
                                      rw [show n = nc - (steps + 1) by omega] at hE
                                      have e9 : M c place % 16 = 1 := by omega
                                      refine z_wk (ls' := [some (zn a), some (zn c), some (zi f), some (zn v), some (zi ((size + 1 : Nat) : Int)), some (zi ((place + 1 : Nat) : Int)), some (zi ((steps + 1 : Nat) : Int)), none, none]) ⟨rfl, rfl, rfl, rfl, z_e (by omega), z_e (by omega), z_e (by omega), trivial⟩ (z_mem (M' := z_mup M (a + 1) (ku stk size (M c place / 16))) (by simp only [Int.toNat_natCast, z_mupm]) (ih (size + 1) (place + 1) (ku stk size (M c place / 16)) (steps + 1) (by omega) (by omega) (by omega) (by omega) ?_ hE))
                                      intro i hi2; simp only [ku]; split
                                      · omega
                                      · have := hb i (by omega); omega
                                    | simp (disch := omega) only [if_pos, if_neg] at hE
                                      rw [show n = nc - (steps + 1) by omega] at hE
                                      have e9 : M c place % 16 = 2 := by omega
                                      refine z_wk (ls' := [some (zn a), some (zn c), some (zi f), some (zn v), some (zi ((size + 1 : Nat) : Int)), some (zi ((place + 1 : Nat) : Int)), some (zi ((steps + 1 : Nat) : Int)), none, none]) ⟨rfl, rfl, rfl, rfl, z_e (by omega), z_e (by omega), z_e (by omega), trivial⟩ (z_mem (M' := z_mup M (a + 1) (ku stk size (M v (M c place / 16).toNat))) (by simp only [Int.toNat_natCast, z_mupm]) (ih (size + 1) (place + 1) (ku stk size (M v (M c place / 16).toNat)) (steps + 1) (by omega) (by omega) (by omega) (by omega) ?_ hE))
                                      intro i hi2; simp only [ku]; split
                                      · omega
                                      · have := hb i (by omega); omega
                                    | simp (disch := omega) only [if_pos, if_neg] at hE
                                      rw [show n = nc - (steps + 1) by omega] at hE
                                      have e9 : M c place % 16 = 11 := by omega
                                      refine z_wk (ls' := [some (zn a), some (zn c), some (zi f), some (zn v), some (zi ((size : Nat) : Int)), some (zi ((place + 1 : Nat) : Int)), some (zi ((steps + 1 : Nat) : Int)), none, none]) ⟨rfl, rfl, rfl, rfl, z_e (by omega), z_e (by omega), z_e (by omega), trivial⟩ (z_mem (M' := z_mup M (a + 1) (ku stk (size - 1) (1 - stk (size - 1)))) (by simp only [show ((size : Int) - 1).toNat = size - 1 by omega, z_mupm]) (ih (size) (place + 1) (ku stk (size - 1) (1 - stk (size - 1))) (steps + 1) (by omega) (by omega) (by omega) (by omega) ?_ hE))
                                      intro i hi2; simp only [ku]; split
                                      · omega
                                      · have := hb i (by omega); omega
                                    | simp (disch := omega) only [if_pos, if_neg] at hE
                                      rw [show n = nc - (steps + 1) by omega] at hE
                                      refine z_wk (ls' := [some (zn a), some (zn c), some (zi f), some (zn v), some (zi ((size : Nat) : Int)), some (zi (((M c place / 16).toNat : Nat) : Int)), some (zi ((steps + 1 : Nat) : Int)), none, none]) ⟨rfl, rfl, rfl, rfl, z_e (by omega), z_e (by omega), z_e (by omega), trivial⟩ (z_mem (M' := z_mup M (a + 1) (stk)) rfl (ih (size) ((M c place / 16).toNat) (stk) (steps + 1) (by omega) (by omega) (by omega) (by omega) ?_ hE))
                                      exact fun i hi2 => by have := hb i hi2; omega
                                    | simp (disch := omega) only [if_pos, if_neg] at hE
                                      rw [show n = nc - (steps + 1) by omega] at hE
                                      refine z_wk (ls' := [some (zn a), some (zn c), some (zi f), some (zn v), some (zi ((size - 1 : Nat) : Int)), some (zi ((place + 1 : Nat) : Int)), some (zi ((steps + 1 : Nat) : Int)), none, none]) ⟨rfl, rfl, rfl, rfl, z_e (by omega), z_e (by omega), z_e (by omega), trivial⟩ (z_mem (M' := z_mup M (a + 1) (stk)) rfl (ih (size - 1) (place + 1) (stk) (steps + 1) (by omega) (by omega) (by omega) (by omega) ?_ hE))
                                      exact fun i hi2 => by have := hb i (by omega); omega
                                    | simp (disch := omega) only [if_pos, if_neg] at hE
                                      rw [show n = nc - (steps + 1) by omega] at hE
                                      refine z_wk (ls' := [some (zn a), some (zn c), some (zi f), some (zn v), some (zi ((size - 1 : Nat) : Int)), some (zi ((place + 1 : Nat) : Int)), some (zi ((steps + 1 : Nat) : Int)), none, none]) ⟨rfl, rfl, rfl, rfl, z_e (by omega), z_e (by omega), z_e (by omega), trivial⟩ (z_mem (M' := z_mup M (a + 1) (ku stk (size - 2) (zjoin (M c place % 16) (stk (size - 2)) (stk (size - 1))))) (by first | rfl | simp only [show ((size : Int) + -1 - 1).toNat = size - 2 by omega, z_mupm]) (ih (size - 1) (place + 1) (ku stk (size - 2) (zjoin (M c place % 16) (stk (size - 2)) (stk (size - 1)))) (steps + 1) (by omega) (by omega) (by omega) (by omega) ?_ hE))
                                      intro i hi2; simp only [ku]; split
                                      · have := zjoin_in (M c place % 16) (stk (size - 2)) (stk (size - 1)); simp only [zBK] at this; omega
                                      · have := hb i (by omega); omega
                              · refine x_iconst 193 rfl dX3_value_192 (by decide) ?_
                                refine x_goto 197 dX3_value_193 (by decide) ?_
                                refine x_icmp_ne 200 207 rfl dX3_value_197 (by decide) (fun c197 => ?_) (fun c197 => ?_)
                                · refine w_iinc 210 rfl dX3_value_207 rfl (by decide) (by omega) rfl (ls' := [_, _, _, _, _, _, _, _, _]) rfl (by decide) ?_
                                  refine x_goto 274 dX3_value_210 (by decide) ?_
                                  refine w_iinc 277 rfl dX3_value_274 rfl (by decide) (by omega) rfl (ls' := [_, _, _, _, _, _, _, _, _]) rfl (by decide) ?_
                                  refine x_goto 9 dX3_value_277 (by decide) ?_
                                  first
                                    | (exfalso; omega)
                                    | simp (disch := omega) only [if_pos, if_neg] at hE
                                      rw [show n = nc - (steps + 1) by omega] at hE
                                      have e9 : M c place % 16 = 1 := by omega
                                      refine z_wk (ls' := [some (zn a), some (zn c), some (zi f), some (zn v), some (zi ((size + 1 : Nat) : Int)), some (zi ((place + 1 : Nat) : Int)), some (zi ((steps + 1 : Nat) : Int)), none, none]) ⟨rfl, rfl, rfl, rfl, z_e (by omega), z_e (by omega), z_e (by omega), trivial⟩ (z_mem (M' := z_mup M (a + 1) (ku stk size (M c place / 16))) (by simp only [Int.toNat_natCast, z_mupm]) (ih (size + 1) (place + 1) (ku stk size (M c place / 16)) (steps + 1) (by omega) (by omega) (by omega) (by omega) ?_ hE))
                                      intro i hi2; simp only [ku]; split
                                      · omega
                                      · have := hb i (by omega); omega
                                    | simp (disch := omega) only [if_pos, if_neg] at hE
                                      rw [show n = nc - (steps + 1) by omega] at hE
                                      have e9 : M c place % 16 = 2 := by omega
                                      refine z_wk (ls' := [some (zn a), some (zn c), some (zi f), some (zn v), some (zi ((size + 1 : Nat) : Int)), some (zi ((place + 1 : Nat) : Int)), some (zi ((steps + 1 : Nat) : Int)), none, none]) ⟨rfl, rfl, rfl, rfl, z_e (by omega), z_e (by omega), z_e (by omega), trivial⟩ (z_mem (M' := z_mup M (a + 1) (ku stk size (M v (M c place / 16).toNat))) (by simp only [Int.toNat_natCast, z_mupm]) (ih (size + 1) (place + 1) (ku stk size (M v (M c place / 16).toNat)) (steps + 1) (by omega) (by omega) (by omega) (by omega) ?_ hE))
                                      intro i hi2; simp only [ku]; split
                                      · omega
                                      · have := hb i (by omega); omega
                                    | simp (disch := omega) only [if_pos, if_neg] at hE
                                      rw [show n = nc - (steps + 1) by omega] at hE
                                      have e9 : M c place % 16 = 11 := by omega
                                      refine z_wk (ls' := [some (zn a), some (zn c), some (zi f), some (zn v), some (zi ((size : Nat) : Int)), some (zi ((place + 1 : Nat) : Int)), some (zi ((steps + 1 : Nat) : Int)), none, none]) ⟨rfl, rfl, rfl, rfl, z_e (by omega), z_e (by omega), z_e (by omega), trivial⟩ (z_mem (M' := z_mup M (a + 1) (ku stk (size - 1) (1 - stk (size - 1)))) (by simp only [show ((size : Int) - 1).toNat = size - 1 by omega, z_mupm]) (ih (size) (place + 1) (ku stk (size - 1) (1 - stk (size - 1))) (steps + 1) (by omega) (by omega) (by omega) (by omega) ?_ hE))
                                      intro i hi2; simp only [ku]; split
                                      · omega
                                      · have := hb i (by omega); omega
                                    | simp (disch := omega) only [if_pos, if_neg] at hE
                                      rw [show n = nc - (steps + 1) by omega] at hE
                                      refine z_wk (ls' := [some (zn a), some (zn c), some (zi f), some (zn v), some (zi ((size : Nat) : Int)), some (zi (((M c place / 16).toNat : Nat) : Int)), some (zi ((steps + 1 : Nat) : Int)), none, none]) ⟨rfl, rfl, rfl, rfl, z_e (by omega), z_e (by omega), z_e (by omega), trivial⟩ (z_mem (M' := z_mup M (a + 1) (stk)) rfl (ih (size) ((M c place / 16).toNat) (stk) (steps + 1) (by omega) (by omega) (by omega) (by omega) ?_ hE))
                                      exact fun i hi2 => by have := hb i hi2; omega
                                    | simp (disch := omega) only [if_pos, if_neg] at hE
                                      rw [show n = nc - (steps + 1) by omega] at hE
                                      refine z_wk (ls' := [some (zn a), some (zn c), some (zi f), some (zn v), some (zi ((size - 1 : Nat) : Int)), some (zi ((place + 1 : Nat) : Int)), some (zi ((steps + 1 : Nat) : Int)), none, none]) ⟨rfl, rfl, rfl, rfl, z_e (by omega), z_e (by omega), z_e (by omega), trivial⟩ (z_mem (M' := z_mup M (a + 1) (stk)) rfl (ih (size - 1) (place + 1) (stk) (steps + 1) (by omega) (by omega) (by omega) (by omega) ?_ hE))
                                      exact fun i hi2 => by have := hb i (by omega); omega
                                    | simp (disch := omega) only [if_pos, if_neg] at hE
                                      rw [show n = nc - (steps + 1) by omega] at hE
                                      refine z_wk (ls' := [some (zn a), some (zn c), some (zi f), some (zn v), some (zi ((size - 1 : Nat) : Int)), some (zi ((place + 1 : Nat) : Int)), some (zi ((steps + 1 : Nat) : Int)), none, none]) ⟨rfl, rfl, rfl, rfl, z_e (by omega), z_e (by omega), z_e (by omega), trivial⟩ (z_mem (M' := z_mup M (a + 1) (ku stk (size - 2) (zjoin (M c place % 16) (stk (size - 2)) (stk (size - 1))))) (by first | rfl | simp only [show ((size : Int) + -1 - 1).toNat = size - 2 by omega, z_mupm]) (ih (size - 1) (place + 1) (ku stk (size - 2) (zjoin (M c place % 16) (stk (size - 2)) (stk (size - 1)))) (steps + 1) (by omega) (by omega) (by omega) (by omega) ?_ hE))
                                      intro i hi2; simp only [ku]; split
                                      · have := zjoin_in (M c place % 16) (stk (size - 2)) (stk (size - 1)); simp only [zBK] at this; omega
                                      · have := hb i (by omega); omega
                                · refine x_iload 202 rfl dX3_value_200 rfl ?_
                                  refine y_istore 204 rfl dX3_value_202 rfl (ls' := [_, _, _, _, _, _, _, _, _]) rfl (by decide) ?_
                                  refine x_goto 274 dX3_value_204 (by decide) ?_
                                  refine w_iinc 277 rfl dX3_value_274 rfl (by decide) (by omega) rfl (ls' := [_, _, _, _, _, _, _, _, _]) rfl (by decide) ?_
                                  refine x_goto 9 dX3_value_277 (by decide) ?_
                                  first
                                    | (exfalso; omega)
                                    | simp (disch := omega) only [if_pos, if_neg] at hE
                                      rw [show n = nc - (steps + 1) by omega] at hE
                                      have e9 : M c place % 16 = 1 := by omega
                                      refine z_wk (ls' := [some (zn a), some (zn c), some (zi f), some (zn v), some (zi ((size + 1 : Nat) : Int)), some (zi ((place + 1 : Nat) : Int)), some (zi ((steps + 1 : Nat) : Int)), none, none]) ⟨rfl, rfl, rfl, rfl, z_e (by omega), z_e (by omega), z_e (by omega), trivial⟩ (z_mem (M' := z_mup M (a + 1) (ku stk size (M c place / 16))) (by simp only [Int.toNat_natCast, z_mupm]) (ih (size + 1) (place + 1) (ku stk size (M c place / 16)) (steps + 1) (by omega) (by omega) (by omega) (by omega) ?_ hE))
                                      intro i hi2; simp only [ku]; split
                                      · omega
                                      · have := hb i (by omega); omega
                                    | simp (disch := omega) only [if_pos, if_neg] at hE
                                      rw [show n = nc - (steps + 1) by omega] at hE
                                      have e9 : M c place % 16 = 2 := by omega
                                      refine z_wk (ls' := [some (zn a), some (zn c), some (zi f), some (zn v), some (zi ((size + 1 : Nat) : Int)), some (zi ((place + 1 : Nat) : Int)), some (zi ((steps + 1 : Nat) : Int)), none, none]) ⟨rfl, rfl, rfl, rfl, z_e (by omega), z_e (by omega), z_e (by omega), trivial⟩ (z_mem (M' := z_mup M (a + 1) (ku stk size (M v (M c place / 16).toNat))) (by simp only [Int.toNat_natCast, z_mupm]) (ih (size + 1) (place + 1) (ku stk size (M v (M c place / 16).toNat)) (steps + 1) (by omega) (by omega) (by omega) (by omega) ?_ hE))
                                      intro i hi2; simp only [ku]; split
                                      · omega
                                      · have := hb i (by omega); omega
                                    | simp (disch := omega) only [if_pos, if_neg] at hE
                                      rw [show n = nc - (steps + 1) by omega] at hE
                                      have e9 : M c place % 16 = 11 := by omega
                                      refine z_wk (ls' := [some (zn a), some (zn c), some (zi f), some (zn v), some (zi ((size : Nat) : Int)), some (zi ((place + 1 : Nat) : Int)), some (zi ((steps + 1 : Nat) : Int)), none, none]) ⟨rfl, rfl, rfl, rfl, z_e (by omega), z_e (by omega), z_e (by omega), trivial⟩ (z_mem (M' := z_mup M (a + 1) (ku stk (size - 1) (1 - stk (size - 1)))) (by simp only [show ((size : Int) - 1).toNat = size - 1 by omega, z_mupm]) (ih (size) (place + 1) (ku stk (size - 1) (1 - stk (size - 1))) (steps + 1) (by omega) (by omega) (by omega) (by omega) ?_ hE))
                                      intro i hi2; simp only [ku]; split
                                      · omega
                                      · have := hb i (by omega); omega
                                    | simp (disch := omega) only [if_pos, if_neg] at hE
                                      rw [show n = nc - (steps + 1) by omega] at hE
                                      refine z_wk (ls' := [some (zn a), some (zn c), some (zi f), some (zn v), some (zi ((size : Nat) : Int)), some (zi (((M c place / 16).toNat : Nat) : Int)), some (zi ((steps + 1 : Nat) : Int)), none, none]) ⟨rfl, rfl, rfl, rfl, z_e (by omega), z_e (by omega), z_e (by omega), trivial⟩ (z_mem (M' := z_mup M (a + 1) (stk)) rfl (ih (size) ((M c place / 16).toNat) (stk) (steps + 1) (by omega) (by omega) (by omega) (by omega) ?_ hE))
                                      exact fun i hi2 => by have := hb i hi2; omega
                                    | simp (disch := omega) only [if_pos, if_neg] at hE
                                      rw [show n = nc - (steps + 1) by omega] at hE
                                      refine z_wk (ls' := [some (zn a), some (zn c), some (zi f), some (zn v), some (zi ((size - 1 : Nat) : Int)), some (zi ((place + 1 : Nat) : Int)), some (zi ((steps + 1 : Nat) : Int)), none, none]) ⟨rfl, rfl, rfl, rfl, z_e (by omega), z_e (by omega), z_e (by omega), trivial⟩ (z_mem (M' := z_mup M (a + 1) (stk)) rfl (ih (size - 1) (place + 1) (stk) (steps + 1) (by omega) (by omega) (by omega) (by omega) ?_ hE))
                                      exact fun i hi2 => by have := hb i (by omega); omega
                                    | simp (disch := omega) only [if_pos, if_neg] at hE
                                      rw [show n = nc - (steps + 1) by omega] at hE
                                      refine z_wk (ls' := [some (zn a), some (zn c), some (zi f), some (zn v), some (zi ((size - 1 : Nat) : Int)), some (zi ((place + 1 : Nat) : Int)), some (zi ((steps + 1 : Nat) : Int)), none, none]) ⟨rfl, rfl, rfl, rfl, z_e (by omega), z_e (by omega), z_e (by omega), trivial⟩ (z_mem (M' := z_mup M (a + 1) (ku stk (size - 2) (zjoin (M c place % 16) (stk (size - 2)) (stk (size - 1))))) (by first | rfl | simp only [show ((size : Int) + -1 - 1).toNat = size - 2 by omega, z_mupm]) (ih (size - 1) (place + 1) (ku stk (size - 2) (zjoin (M c place % 16) (stk (size - 2)) (stk (size - 1)))) (steps + 1) (by omega) (by omega) (by omega) (by omega) ?_ hE))
                                      intro i hi2; simp only [ku]; split
                                      · have := zjoin_in (M c place % 16) (stk (size - 2)) (stk (size - 1)); simp only [zBK] at this; omega
                                      · have := hb i (by omega); omega
                            · refine x_iload 171 rfl dX3_value_169 rfl ?_
                              refine x_bipush 173 rfl dX3_value_171 (by decide) ?_
                              refine x_icmp_ne 176 213 rfl dX3_value_173 (by decide) (fun c173 => ?_) (fun c173 => ?_)
                              · refine x_iload 215 rfl dX3_value_213 rfl ?_
                                refine x_iconst 216 rfl dX3_value_215 (by decide) ?_
                                refine x_icmp_ge 219 222 rfl dX3_value_216 (by decide) (fun c216 => ?_) (fun c216 => ?_)
                                · have hb1 := hb (size - 1) (by omega)
                                  have hb2 := hb (size - 2) (by omega)
                                  refine w_iinc 225 rfl dX3_value_222 rfl (by decide) (by omega) rfl (ls' := [_, _, _, _, _, _, _, _, _]) rfl (by decide) ?_
                                  refine x_aload_n 226 rfl dX3_value_225 0 rfl rfl ?_
                                  refine x_getr 229 rfl fX3_9 dX3_value_226 (mcl0 h) (mcs0 h) (by decide) (a + 1) rfl ?_
                                  refine x_iload 231 rfl dX3_value_229 rfl ?_
                                  refine x_iconst 232 rfl dX3_value_231 (by decide) ?_
                                  refine y_isub 233 rfl dX3_value_232 (by omega) ?_
                                  refine x_iload 235 rfl dX3_value_233 rfl ?_
                                  refine x_aload_n 236 rfl dX3_value_235 0 rfl rfl ?_
                                  refine x_getr 239 rfl fX3_9 dX3_value_236 (mcl0 h) (mcs0 h) (by decide) (a + 1) rfl ?_
                                  refine x_iload 241 rfl dX3_value_239 rfl ?_
                                  refine x_iconst 242 rfl dX3_value_241 (by decide) ?_
                                  refine y_isub 243 rfl dX3_value_242 (by omega) ?_
                                  refine x_iald 244 rfl dX3_value_243 (mcl1 h) (mcs1 h) (by omega) (by omega) ?_
                                  try simp (disch := omega) only [z_up_ne, z_up_nk, z_up_eq, z_mup_ne, z_mup_eq, Int.reduceToNat, Int.toNat_natCast]
                                  rw [show ((size : Int) + -1 - 1).toNat = size - 2 by omega]
                                  refine x_i2l 245 rfl dX3_value_244 ?_
                                  refine x_aload_n 246 rfl dX3_value_245 0 rfl rfl ?_
                                  refine x_getr 249 rfl fX3_9 dX3_value_246 (mcl0 h) (mcs0 h) (by decide) (a + 1) rfl ?_
                                  refine x_iload 251 rfl dX3_value_249 rfl ?_
                                  refine x_iald 252 rfl dX3_value_251 (mcl1 h) (mcs1 h) (by omega) (by omega) ?_
                                  try simp (disch := omega) only [z_up_ne, z_up_nk, z_up_eq, z_mup_ne, z_mup_eq, Int.reduceToNat, Int.toNat_natCast]
                                  rw [show ((size : Int) + -1).toNat = size - 1 by omega]
                                  refine x_i2l 253 rfl dX3_value_252 ?_
                                  refine x_cSi 256 rfl lX3_16 dX3_value_253 (c_X3_joined (by omega) (by omega)) rfl rfl (Nat.le_of_ble_eq_true rfl) (fun r M1 hr1 => ?_)
                                  obtain ⟨rfl, hM1⟩ := hr1
                                  rw [hM1]
                                  refine x_iast 257 rfl dX3_value_256 (mcl1 h) (mcs1 h) (by omega) (by omega) ?_
                                  try rw [show ((size : Int) + -1 - 1).toNat = size - 2 by omega, z_mupm]
                                  refine x_aload_n 258 rfl dX3_value_257 0 rfl rfl ?_
                                  refine x_getr 261 rfl fX3_9 dX3_value_258 (mcl0 h) (mcs0 h) (by decide) (a + 1) rfl ?_
                                  refine x_iload 263 rfl dX3_value_261 rfl ?_
                                  refine x_iconst 264 rfl dX3_value_263 (by decide) ?_
                                  refine y_isub 265 rfl dX3_value_264 (by omega) ?_
                                  refine x_iald 266 rfl dX3_value_265 (mcl1 h) (mcs1 h) (by omega) (by omega) ?_
                                  try simp (disch := omega) only [z_up_ne, z_up_nk, z_up_eq, z_mup_ne, z_mup_eq, Int.reduceToNat, Int.toNat_natCast]
                                  try rw [show ((size : Int) + -1 - 1).toNat = size - 2 by omega]
                                  try rw [ku_eq]
                                  refine x_ldc (x := -2000000000) 268 rfl kX3_15 (by decide) dX3_value_266 ?_
                                  refine x_icmp_ne 271 274 rfl dX3_value_268 (by decide) (fun c268 => ?_) (fun c268 => ?_)
                                  · have c9 : ¬ zjoin (M c place % 16) (stk (size - 2)) (stk (size - 1)) = zBK := by unfold zBK; first | exact c268 | (intro hh; exact c268 (by rw [show ((size : Int) + -1 - 1).toNat = size - 2 by omega]; simp [ku, z_mup, z_up, hh])) | (exfalso; omega)
                                    refine w_iinc 277 rfl dX3_value_274 rfl (by decide) (by omega) rfl (ls' := [_, _, _, _, _, _, _, _, _]) rfl (by decide) ?_
                                    refine x_goto 9 dX3_value_277 (by decide) ?_
                                    first
                                      | (exfalso; omega)
                                      | simp (disch := omega) only [if_pos, if_neg] at hE
                                        rw [show n = nc - (steps + 1) by omega] at hE
                                        have e9 : M c place % 16 = 1 := by omega
                                        refine z_wk (ls' := [some (zn a), some (zn c), some (zi f), some (zn v), some (zi ((size + 1 : Nat) : Int)), some (zi ((place + 1 : Nat) : Int)), some (zi ((steps + 1 : Nat) : Int)), none, none]) ⟨rfl, rfl, rfl, rfl, z_e (by omega), z_e (by omega), z_e (by omega), trivial⟩ (z_mem (M' := z_mup M (a + 1) (ku stk size (M c place / 16))) (by simp only [Int.toNat_natCast, z_mupm]) (ih (size + 1) (place + 1) (ku stk size (M c place / 16)) (steps + 1) (by omega) (by omega) (by omega) (by omega) ?_ hE))
                                        intro i hi2; simp only [ku]; split
                                        · omega
                                        · have := hb i (by omega); omega
                                      | simp (disch := omega) only [if_pos, if_neg] at hE
                                        rw [show n = nc - (steps + 1) by omega] at hE
                                        have e9 : M c place % 16 = 2 := by omega
                                        refine z_wk (ls' := [some (zn a), some (zn c), some (zi f), some (zn v), some (zi ((size + 1 : Nat) : Int)), some (zi ((place + 1 : Nat) : Int)), some (zi ((steps + 1 : Nat) : Int)), none, none]) ⟨rfl, rfl, rfl, rfl, z_e (by omega), z_e (by omega), z_e (by omega), trivial⟩ (z_mem (M' := z_mup M (a + 1) (ku stk size (M v (M c place / 16).toNat))) (by simp only [Int.toNat_natCast, z_mupm]) (ih (size + 1) (place + 1) (ku stk size (M v (M c place / 16).toNat)) (steps + 1) (by omega) (by omega) (by omega) (by omega) ?_ hE))
                                        intro i hi2; simp only [ku]; split
                                        · omega
                                        · have := hb i (by omega); omega
                                      | simp (disch := omega) only [if_pos, if_neg] at hE
                                        rw [show n = nc - (steps + 1) by omega] at hE
                                        have e9 : M c place % 16 = 11 := by omega
                                        refine z_wk (ls' := [some (zn a), some (zn c), some (zi f), some (zn v), some (zi ((size : Nat) : Int)), some (zi ((place + 1 : Nat) : Int)), some (zi ((steps + 1 : Nat) : Int)), none, none]) ⟨rfl, rfl, rfl, rfl, z_e (by omega), z_e (by omega), z_e (by omega), trivial⟩ (z_mem (M' := z_mup M (a + 1) (ku stk (size - 1) (1 - stk (size - 1)))) (by simp only [show ((size : Int) - 1).toNat = size - 1 by omega, z_mupm]) (ih (size) (place + 1) (ku stk (size - 1) (1 - stk (size - 1))) (steps + 1) (by omega) (by omega) (by omega) (by omega) ?_ hE))
                                        intro i hi2; simp only [ku]; split
                                        · omega
                                        · have := hb i (by omega); omega
                                      | simp (disch := omega) only [if_pos, if_neg] at hE
                                        rw [show n = nc - (steps + 1) by omega] at hE
                                        refine z_wk (ls' := [some (zn a), some (zn c), some (zi f), some (zn v), some (zi ((size : Nat) : Int)), some (zi (((M c place / 16).toNat : Nat) : Int)), some (zi ((steps + 1 : Nat) : Int)), none, none]) ⟨rfl, rfl, rfl, rfl, z_e (by omega), z_e (by omega), z_e (by omega), trivial⟩ (z_mem (M' := z_mup M (a + 1) (stk)) rfl (ih (size) ((M c place / 16).toNat) (stk) (steps + 1) (by omega) (by omega) (by omega) (by omega) ?_ hE))
                                        exact fun i hi2 => by have := hb i hi2; omega
                                      | simp (disch := omega) only [if_pos, if_neg] at hE
                                        rw [show n = nc - (steps + 1) by omega] at hE
                                        refine z_wk (ls' := [some (zn a), some (zn c), some (zi f), some (zn v), some (zi ((size - 1 : Nat) : Int)), some (zi ((place + 1 : Nat) : Int)), some (zi ((steps + 1 : Nat) : Int)), none, none]) ⟨rfl, rfl, rfl, rfl, z_e (by omega), z_e (by omega), z_e (by omega), trivial⟩ (z_mem (M' := z_mup M (a + 1) (stk)) rfl (ih (size - 1) (place + 1) (stk) (steps + 1) (by omega) (by omega) (by omega) (by omega) ?_ hE))
                                        exact fun i hi2 => by have := hb i (by omega); omega
                                      | simp (disch := omega) only [if_pos, if_neg] at hE
                                        rw [show n = nc - (steps + 1) by omega] at hE
                                        refine z_wk (ls' := [some (zn a), some (zn c), some (zi f), some (zn v), some (zi ((size - 1 : Nat) : Int)), some (zi ((place + 1 : Nat) : Int)), some (zi ((steps + 1 : Nat) : Int)), none, none]) ⟨rfl, rfl, rfl, rfl, z_e (by omega), z_e (by omega), z_e (by omega), trivial⟩ (z_mem (M' := z_mup M (a + 1) (ku stk (size - 2) (zjoin (M c place % 16) (stk (size - 2)) (stk (size - 1))))) (by first | rfl | simp only [show ((size : Int) + -1 - 1).toNat = size - 2 by omega, z_mupm]) (ih (size - 1) (place + 1) (ku stk (size - 2) (zjoin (M c place % 16) (stk (size - 2)) (stk (size - 1)))) (steps + 1) (by omega) (by omega) (by omega) (by omega) ?_ hE))
                                        intro i hi2; simp only [ku]; split
                                        · have := zjoin_in (M c place % 16) (stk (size - 2)) (stk (size - 1)); simp only [zBK] at this; omega
                                        · have := hb i (by omega); omega
                                  · refine x_ldc (x := -2000000000) 273 rfl kX3_15 (by decide) dX3_value_271 ?_
                                    refine x_reti dX3_value_273 rfl ?_
                                    first
                                      | (exfalso; omega)
                                      | refine ⟨?_, _, rfl⟩
                                        rw [hR, ← hE]
                                        simp only [zBK]
                                        repeat' split
                                        all_goals first | rfl | omega | (exfalso; omega)
                                · refine x_ldc (x := -2000000000) 221 rfl kX3_15 (by decide) dX3_value_219 ?_
                                  refine x_reti dX3_value_221 rfl ?_
                                  first
                                    | (exfalso; omega)
                                    | refine ⟨?_, _, rfl⟩
                                      rw [hR, ← hE]
                                      simp only [zBK]
                                      repeat' split
                                      all_goals first | rfl | omega | (exfalso; omega)
                              · refine x_aload_n 177 rfl dX3_value_176 0 rfl rfl ?_
                                refine x_getr 180 rfl fX3_9 dX3_value_177 (mcl0 h) (mcs0 h) (by decide) (a + 1) rfl ?_
                                refine x_iload 182 rfl dX3_value_180 rfl ?_
                                refine x_iconst 183 rfl dX3_value_182 (by decide) ?_
                                refine y_isub 184 rfl dX3_value_183 (by omega) ?_
                                refine x_iald 185 rfl dX3_value_184 (mcl1 h) (mcs1 h) (by omega) (by omega) ?_
                                try simp (disch := omega) only [z_up_ne, z_up_nk, z_up_eq, z_mup_ne, z_mup_eq, Int.reduceToNat, Int.toNat_natCast]
                                rw [show ((size : Int) - 1).toNat = size - 1 by omega]
                                refine x_iload 187 rfl dX3_value_185 rfl ?_
                                refine x_bipush 189 rfl dX3_value_187 (by decide) ?_
                                refine x_icmp_ne 192 196 rfl dX3_value_189 (by decide) (fun c189 => ?_) (fun c189 => ?_)
                                · refine x_iconst 197 rfl dX3_value_196 (by decide) ?_
                                  refine x_icmp_ne 200 207 rfl dX3_value_197 (by decide) (fun c197 => ?_) (fun c197 => ?_)
                                  · refine w_iinc 210 rfl dX3_value_207 rfl (by decide) (by omega) rfl (ls' := [_, _, _, _, _, _, _, _, _]) rfl (by decide) ?_
                                    refine x_goto 274 dX3_value_210 (by decide) ?_
                                    refine w_iinc 277 rfl dX3_value_274 rfl (by decide) (by omega) rfl (ls' := [_, _, _, _, _, _, _, _, _]) rfl (by decide) ?_
                                    refine x_goto 9 dX3_value_277 (by decide) ?_
                                    first
                                      | (exfalso; omega)
                                      | simp (disch := omega) only [if_pos, if_neg] at hE
                                        rw [show n = nc - (steps + 1) by omega] at hE
                                        have e9 : M c place % 16 = 1 := by omega
                                        refine z_wk (ls' := [some (zn a), some (zn c), some (zi f), some (zn v), some (zi ((size + 1 : Nat) : Int)), some (zi ((place + 1 : Nat) : Int)), some (zi ((steps + 1 : Nat) : Int)), none, none]) ⟨rfl, rfl, rfl, rfl, z_e (by omega), z_e (by omega), z_e (by omega), trivial⟩ (z_mem (M' := z_mup M (a + 1) (ku stk size (M c place / 16))) (by simp only [Int.toNat_natCast, z_mupm]) (ih (size + 1) (place + 1) (ku stk size (M c place / 16)) (steps + 1) (by omega) (by omega) (by omega) (by omega) ?_ hE))
                                        intro i hi2; simp only [ku]; split
                                        · omega
                                        · have := hb i (by omega); omega
                                      | simp (disch := omega) only [if_pos, if_neg] at hE
                                        rw [show n = nc - (steps + 1) by omega] at hE
                                        have e9 : M c place % 16 = 2 := by omega
                                        refine z_wk (ls' := [some (zn a), some (zn c), some (zi f), some (zn v), some (zi ((size + 1 : Nat) : Int)), some (zi ((place + 1 : Nat) : Int)), some (zi ((steps + 1 : Nat) : Int)), none, none]) ⟨rfl, rfl, rfl, rfl, z_e (by omega), z_e (by omega), z_e (by omega), trivial⟩ (z_mem (M' := z_mup M (a + 1) (ku stk size (M v (M c place / 16).toNat))) (by simp only [Int.toNat_natCast, z_mupm]) (ih (size + 1) (place + 1) (ku stk size (M v (M c place / 16).toNat)) (steps + 1) (by omega) (by omega) (by omega) (by omega) ?_ hE))
                                        intro i hi2; simp only [ku]; split
                                        · omega
                                        · have := hb i (by omega); omega
                                      | simp (disch := omega) only [if_pos, if_neg] at hE
                                        rw [show n = nc - (steps + 1) by omega] at hE
                                        have e9 : M c place % 16 = 11 := by omega
                                        refine z_wk (ls' := [some (zn a), some (zn c), some (zi f), some (zn v), some (zi ((size : Nat) : Int)), some (zi ((place + 1 : Nat) : Int)), some (zi ((steps + 1 : Nat) : Int)), none, none]) ⟨rfl, rfl, rfl, rfl, z_e (by omega), z_e (by omega), z_e (by omega), trivial⟩ (z_mem (M' := z_mup M (a + 1) (ku stk (size - 1) (1 - stk (size - 1)))) (by simp only [show ((size : Int) - 1).toNat = size - 1 by omega, z_mupm]) (ih (size) (place + 1) (ku stk (size - 1) (1 - stk (size - 1))) (steps + 1) (by omega) (by omega) (by omega) (by omega) ?_ hE))
                                        intro i hi2; simp only [ku]; split
                                        · omega
                                        · have := hb i (by omega); omega
                                      | simp (disch := omega) only [if_pos, if_neg] at hE
                                        rw [show n = nc - (steps + 1) by omega] at hE
                                        refine z_wk (ls' := [some (zn a), some (zn c), some (zi f), some (zn v), some (zi ((size : Nat) : Int)), some (zi (((M c place / 16).toNat : Nat) : Int)), some (zi ((steps + 1 : Nat) : Int)), none, none]) ⟨rfl, rfl, rfl, rfl, z_e (by omega), z_e (by omega), z_e (by omega), trivial⟩ (z_mem (M' := z_mup M (a + 1) (stk)) rfl (ih (size) ((M c place / 16).toNat) (stk) (steps + 1) (by omega) (by omega) (by omega) (by omega) ?_ hE))
                                        exact fun i hi2 => by have := hb i hi2; omega
                                      | simp (disch := omega) only [if_pos, if_neg] at hE
                                        rw [show n = nc - (steps + 1) by omega] at hE
                                        refine z_wk (ls' := [some (zn a), some (zn c), some (zi f), some (zn v), some (zi ((size - 1 : Nat) : Int)), some (zi ((place + 1 : Nat) : Int)), some (zi ((steps + 1 : Nat) : Int)), none, none]) ⟨rfl, rfl, rfl, rfl, z_e (by omega), z_e (by omega), z_e (by omega), trivial⟩ (z_mem (M' := z_mup M (a + 1) (stk)) rfl (ih (size - 1) (place + 1) (stk) (steps + 1) (by omega) (by omega) (by omega) (by omega) ?_ hE))
                                        exact fun i hi2 => by have := hb i (by omega); omega
                                      | simp (disch := omega) only [if_pos, if_neg] at hE
                                        rw [show n = nc - (steps + 1) by omega] at hE
                                        refine z_wk (ls' := [some (zn a), some (zn c), some (zi f), some (zn v), some (zi ((size - 1 : Nat) : Int)), some (zi ((place + 1 : Nat) : Int)), some (zi ((steps + 1 : Nat) : Int)), none, none]) ⟨rfl, rfl, rfl, rfl, z_e (by omega), z_e (by omega), z_e (by omega), trivial⟩ (z_mem (M' := z_mup M (a + 1) (ku stk (size - 2) (zjoin (M c place % 16) (stk (size - 2)) (stk (size - 1))))) (by first | rfl | simp only [show ((size : Int) + -1 - 1).toNat = size - 2 by omega, z_mupm]) (ih (size - 1) (place + 1) (ku stk (size - 2) (zjoin (M c place % 16) (stk (size - 2)) (stk (size - 1)))) (steps + 1) (by omega) (by omega) (by omega) (by omega) ?_ hE))
                                        intro i hi2; simp only [ku]; split
                                        · have := zjoin_in (M c place % 16) (stk (size - 2)) (stk (size - 1)); simp only [zBK] at this; omega
                                        · have := hb i (by omega); omega
                                  · refine x_iload 202 rfl dX3_value_200 rfl ?_
                                    refine y_istore 204 rfl dX3_value_202 rfl (ls' := [_, _, _, _, _, _, _, _, _]) rfl (by decide) ?_
                                    refine x_goto 274 dX3_value_204 (by decide) ?_
                                    refine w_iinc 277 rfl dX3_value_274 rfl (by decide) (by omega) rfl (ls' := [_, _, _, _, _, _, _, _, _]) rfl (by decide) ?_
                                    refine x_goto 9 dX3_value_277 (by decide) ?_
                                    first
                                      | (exfalso; omega)
                                      | simp (disch := omega) only [if_pos, if_neg] at hE
                                        rw [show n = nc - (steps + 1) by omega] at hE
                                        have e9 : M c place % 16 = 1 := by omega
                                        refine z_wk (ls' := [some (zn a), some (zn c), some (zi f), some (zn v), some (zi ((size + 1 : Nat) : Int)), some (zi ((place + 1 : Nat) : Int)), some (zi ((steps + 1 : Nat) : Int)), none, none]) ⟨rfl, rfl, rfl, rfl, z_e (by omega), z_e (by omega), z_e (by omega), trivial⟩ (z_mem (M' := z_mup M (a + 1) (ku stk size (M c place / 16))) (by simp only [Int.toNat_natCast, z_mupm]) (ih (size + 1) (place + 1) (ku stk size (M c place / 16)) (steps + 1) (by omega) (by omega) (by omega) (by omega) ?_ hE))
                                        intro i hi2; simp only [ku]; split
                                        · omega
                                        · have := hb i (by omega); omega
                                      | simp (disch := omega) only [if_pos, if_neg] at hE
                                        rw [show n = nc - (steps + 1) by omega] at hE
                                        have e9 : M c place % 16 = 2 := by omega
                                        refine z_wk (ls' := [some (zn a), some (zn c), some (zi f), some (zn v), some (zi ((size + 1 : Nat) : Int)), some (zi ((place + 1 : Nat) : Int)), some (zi ((steps + 1 : Nat) : Int)), none, none]) ⟨rfl, rfl, rfl, rfl, z_e (by omega), z_e (by omega), z_e (by omega), trivial⟩ (z_mem (M' := z_mup M (a + 1) (ku stk size (M v (M c place / 16).toNat))) (by simp only [Int.toNat_natCast, z_mupm]) (ih (size + 1) (place + 1) (ku stk size (M v (M c place / 16).toNat)) (steps + 1) (by omega) (by omega) (by omega) (by omega) ?_ hE))
                                        intro i hi2; simp only [ku]; split
                                        · omega
                                        · have := hb i (by omega); omega
                                      | simp (disch := omega) only [if_pos, if_neg] at hE
                                        rw [show n = nc - (steps + 1) by omega] at hE
                                        have e9 : M c place % 16 = 11 := by omega
                                        refine z_wk (ls' := [some (zn a), some (zn c), some (zi f), some (zn v), some (zi ((size : Nat) : Int)), some (zi ((place + 1 : Nat) : Int)), some (zi ((steps + 1 : Nat) : Int)), none, none]) ⟨rfl, rfl, rfl, rfl, z_e (by omega), z_e (by omega), z_e (by omega), trivial⟩ (z_mem (M' := z_mup M (a + 1) (ku stk (size - 1) (1 - stk (size - 1)))) (by simp only [show ((size : Int) - 1).toNat = size - 1 by omega, z_mupm]) (ih (size) (place + 1) (ku stk (size - 1) (1 - stk (size - 1))) (steps + 1) (by omega) (by omega) (by omega) (by omega) ?_ hE))
                                        intro i hi2; simp only [ku]; split
                                        · omega
                                        · have := hb i (by omega); omega
                                      | simp (disch := omega) only [if_pos, if_neg] at hE
                                        rw [show n = nc - (steps + 1) by omega] at hE
                                        refine z_wk (ls' := [some (zn a), some (zn c), some (zi f), some (zn v), some (zi ((size : Nat) : Int)), some (zi (((M c place / 16).toNat : Nat) : Int)), some (zi ((steps + 1 : Nat) : Int)), none, none]) ⟨rfl, rfl, rfl, rfl, z_e (by omega), z_e (by omega), z_e (by omega), trivial⟩ (z_mem (M' := z_mup M (a + 1) (stk)) rfl (ih (size) ((M c place / 16).toNat) (stk) (steps + 1) (by omega) (by omega) (by omega) (by omega) ?_ hE))
                                        exact fun i hi2 => by have := hb i hi2; omega
                                      | simp (disch := omega) only [if_pos, if_neg] at hE
                                        rw [show n = nc - (steps + 1) by omega] at hE
                                        refine z_wk (ls' := [some (zn a), some (zn c), some (zi f), some (zn v), some (zi ((size - 1 : Nat) : Int)), some (zi ((place + 1 : Nat) : Int)), some (zi ((steps + 1 : Nat) : Int)), none, none]) ⟨rfl, rfl, rfl, rfl, z_e (by omega), z_e (by omega), z_e (by omega), trivial⟩ (z_mem (M' := z_mup M (a + 1) (stk)) rfl (ih (size - 1) (place + 1) (stk) (steps + 1) (by omega) (by omega) (by omega) (by omega) ?_ hE))
                                        exact fun i hi2 => by have := hb i (by omega); omega
                                      | simp (disch := omega) only [if_pos, if_neg] at hE
                                        rw [show n = nc - (steps + 1) by omega] at hE
                                        refine z_wk (ls' := [some (zn a), some (zn c), some (zi f), some (zn v), some (zi ((size - 1 : Nat) : Int)), some (zi ((place + 1 : Nat) : Int)), some (zi ((steps + 1 : Nat) : Int)), none, none]) ⟨rfl, rfl, rfl, rfl, z_e (by omega), z_e (by omega), z_e (by omega), trivial⟩ (z_mem (M' := z_mup M (a + 1) (ku stk (size - 2) (zjoin (M c place % 16) (stk (size - 2)) (stk (size - 1))))) (by first | rfl | simp only [show ((size : Int) + -1 - 1).toNat = size - 2 by omega, z_mupm]) (ih (size - 1) (place + 1) (ku stk (size - 2) (zjoin (M c place % 16) (stk (size - 2)) (stk (size - 1)))) (steps + 1) (by omega) (by omega) (by omega) (by omega) ?_ hE))
                                        intro i hi2; simp only [ku]; split
                                        · have := zjoin_in (M c place % 16) (stk (size - 2)) (stk (size - 1)); simp only [zBK] at this; omega
                                        · have := hb i (by omega); omega
                                · refine x_iconst 193 rfl dX3_value_192 (by decide) ?_
                                  refine x_goto 197 dX3_value_193 (by decide) ?_
                                  refine x_icmp_ne 200 207 rfl dX3_value_197 (by decide) (fun c197 => ?_) (fun c197 => ?_)
                                  · refine w_iinc 210 rfl dX3_value_207 rfl (by decide) (by omega) rfl (ls' := [_, _, _, _, _, _, _, _, _]) rfl (by decide) ?_
                                    refine x_goto 274 dX3_value_210 (by decide) ?_
                                    refine w_iinc 277 rfl dX3_value_274 rfl (by decide) (by omega) rfl (ls' := [_, _, _, _, _, _, _, _, _]) rfl (by decide) ?_
                                    refine x_goto 9 dX3_value_277 (by decide) ?_
                                    first
                                      | (exfalso; omega)
                                      | simp (disch := omega) only [if_pos, if_neg] at hE
                                        rw [show n = nc - (steps + 1) by omega] at hE
                                        have e9 : M c place % 16 = 1 := by omega
                                        refine z_wk (ls' := [some (zn a), some (zn c), some (zi f), some (zn v), some (zi ((size + 1 : Nat) : Int)), some (zi ((place + 1 : Nat) : Int)), some (zi ((steps + 1 : Nat) : Int)), none, none]) ⟨rfl, rfl, rfl, rfl, z_e (by omega), z_e (by omega), z_e (by omega), trivial⟩ (z_mem (M' := z_mup M (a + 1) (ku stk size (M c place / 16))) (by simp only [Int.toNat_natCast, z_mupm]) (ih (size + 1) (place + 1) (ku stk size (M c place / 16)) (steps + 1) (by omega) (by omega) (by omega) (by omega) ?_ hE))
                                        intro i hi2; simp only [ku]; split
                                        · omega
                                        · have := hb i (by omega); omega
                                      | simp (disch := omega) only [if_pos, if_neg] at hE
                                        rw [show n = nc - (steps + 1) by omega] at hE
                                        have e9 : M c place % 16 = 2 := by omega
                                        refine z_wk (ls' := [some (zn a), some (zn c), some (zi f), some (zn v), some (zi ((size + 1 : Nat) : Int)), some (zi ((place + 1 : Nat) : Int)), some (zi ((steps + 1 : Nat) : Int)), none, none]) ⟨rfl, rfl, rfl, rfl, z_e (by omega), z_e (by omega), z_e (by omega), trivial⟩ (z_mem (M' := z_mup M (a + 1) (ku stk size (M v (M c place / 16).toNat))) (by simp only [Int.toNat_natCast, z_mupm]) (ih (size + 1) (place + 1) (ku stk size (M v (M c place / 16).toNat)) (steps + 1) (by omega) (by omega) (by omega) (by omega) ?_ hE))
                                        intro i hi2; simp only [ku]; split
                                        · omega
                                        · have := hb i (by omega); omega
                                      | simp (disch := omega) only [if_pos, if_neg] at hE
                                        rw [show n = nc - (steps + 1) by omega] at hE
                                        have e9 : M c place % 16 = 11 := by omega
                                        refine z_wk (ls' := [some (zn a), some (zn c), some (zi f), some (zn v), some (zi ((size : Nat) : Int)), some (zi ((place + 1 : Nat) : Int)), some (zi ((steps + 1 : Nat) : Int)), none, none]) ⟨rfl, rfl, rfl, rfl, z_e (by omega), z_e (by omega), z_e (by omega), trivial⟩ (z_mem (M' := z_mup M (a + 1) (ku stk (size - 1) (1 - stk (size - 1)))) (by simp only [show ((size : Int) - 1).toNat = size - 1 by omega, z_mupm]) (ih (size) (place + 1) (ku stk (size - 1) (1 - stk (size - 1))) (steps + 1) (by omega) (by omega) (by omega) (by omega) ?_ hE))
                                        intro i hi2; simp only [ku]; split
                                        · omega
                                        · have := hb i (by omega); omega
                                      | simp (disch := omega) only [if_pos, if_neg] at hE
                                        rw [show n = nc - (steps + 1) by omega] at hE
                                        refine z_wk (ls' := [some (zn a), some (zn c), some (zi f), some (zn v), some (zi ((size : Nat) : Int)), some (zi (((M c place / 16).toNat : Nat) : Int)), some (zi ((steps + 1 : Nat) : Int)), none, none]) ⟨rfl, rfl, rfl, rfl, z_e (by omega), z_e (by omega), z_e (by omega), trivial⟩ (z_mem (M' := z_mup M (a + 1) (stk)) rfl (ih (size) ((M c place / 16).toNat) (stk) (steps + 1) (by omega) (by omega) (by omega) (by omega) ?_ hE))
                                        exact fun i hi2 => by have := hb i hi2; omega
                                      | simp (disch := omega) only [if_pos, if_neg] at hE
                                        rw [show n = nc - (steps + 1) by omega] at hE
                                        refine z_wk (ls' := [some (zn a), some (zn c), some (zi f), some (zn v), some (zi ((size - 1 : Nat) : Int)), some (zi ((place + 1 : Nat) : Int)), some (zi ((steps + 1 : Nat) : Int)), none, none]) ⟨rfl, rfl, rfl, rfl, z_e (by omega), z_e (by omega), z_e (by omega), trivial⟩ (z_mem (M' := z_mup M (a + 1) (stk)) rfl (ih (size - 1) (place + 1) (stk) (steps + 1) (by omega) (by omega) (by omega) (by omega) ?_ hE))
                                        exact fun i hi2 => by have := hb i (by omega); omega
                                      | simp (disch := omega) only [if_pos, if_neg] at hE
                                        rw [show n = nc - (steps + 1) by omega] at hE
                                        refine z_wk (ls' := [some (zn a), some (zn c), some (zi f), some (zn v), some (zi ((size - 1 : Nat) : Int)), some (zi ((place + 1 : Nat) : Int)), some (zi ((steps + 1 : Nat) : Int)), none, none]) ⟨rfl, rfl, rfl, rfl, z_e (by omega), z_e (by omega), z_e (by omega), trivial⟩ (z_mem (M' := z_mup M (a + 1) (ku stk (size - 2) (zjoin (M c place % 16) (stk (size - 2)) (stk (size - 1))))) (by first | rfl | simp only [show ((size : Int) + -1 - 1).toNat = size - 2 by omega, z_mupm]) (ih (size - 1) (place + 1) (ku stk (size - 2) (zjoin (M c place % 16) (stk (size - 2)) (stk (size - 1)))) (steps + 1) (by omega) (by omega) (by omega) (by omega) ?_ hE))
                                        intro i hi2; simp only [ku]; split
                                        · have := zjoin_in (M c place % 16) (stk (size - 2)) (stk (size - 1)); simp only [zBK] at this; omega
                                        · have := hb i (by omega); omega
                                  · refine x_iload 202 rfl dX3_value_200 rfl ?_
                                    refine y_istore 204 rfl dX3_value_202 rfl (ls' := [_, _, _, _, _, _, _, _, _]) rfl (by decide) ?_
                                    refine x_goto 274 dX3_value_204 (by decide) ?_
                                    refine w_iinc 277 rfl dX3_value_274 rfl (by decide) (by omega) rfl (ls' := [_, _, _, _, _, _, _, _, _]) rfl (by decide) ?_
                                    refine x_goto 9 dX3_value_277 (by decide) ?_
                                    first
                                      | (exfalso; omega)
                                      | simp (disch := omega) only [if_pos, if_neg] at hE
                                        rw [show n = nc - (steps + 1) by omega] at hE
                                        have e9 : M c place % 16 = 1 := by omega
                                        refine z_wk (ls' := [some (zn a), some (zn c), some (zi f), some (zn v), some (zi ((size + 1 : Nat) : Int)), some (zi ((place + 1 : Nat) : Int)), some (zi ((steps + 1 : Nat) : Int)), none, none]) ⟨rfl, rfl, rfl, rfl, z_e (by omega), z_e (by omega), z_e (by omega), trivial⟩ (z_mem (M' := z_mup M (a + 1) (ku stk size (M c place / 16))) (by simp only [Int.toNat_natCast, z_mupm]) (ih (size + 1) (place + 1) (ku stk size (M c place / 16)) (steps + 1) (by omega) (by omega) (by omega) (by omega) ?_ hE))
                                        intro i hi2; simp only [ku]; split
                                        · omega
                                        · have := hb i (by omega); omega
                                      | simp (disch := omega) only [if_pos, if_neg] at hE
                                        rw [show n = nc - (steps + 1) by omega] at hE
                                        have e9 : M c place % 16 = 2 := by omega
                                        refine z_wk (ls' := [some (zn a), some (zn c), some (zi f), some (zn v), some (zi ((size + 1 : Nat) : Int)), some (zi ((place + 1 : Nat) : Int)), some (zi ((steps + 1 : Nat) : Int)), none, none]) ⟨rfl, rfl, rfl, rfl, z_e (by omega), z_e (by omega), z_e (by omega), trivial⟩ (z_mem (M' := z_mup M (a + 1) (ku stk size (M v (M c place / 16).toNat))) (by simp only [Int.toNat_natCast, z_mupm]) (ih (size + 1) (place + 1) (ku stk size (M v (M c place / 16).toNat)) (steps + 1) (by omega) (by omega) (by omega) (by omega) ?_ hE))
                                        intro i hi2; simp only [ku]; split
                                        · omega
                                        · have := hb i (by omega); omega
                                      | simp (disch := omega) only [if_pos, if_neg] at hE
                                        rw [show n = nc - (steps + 1) by omega] at hE
                                        have e9 : M c place % 16 = 11 := by omega
                                        refine z_wk (ls' := [some (zn a), some (zn c), some (zi f), some (zn v), some (zi ((size : Nat) : Int)), some (zi ((place + 1 : Nat) : Int)), some (zi ((steps + 1 : Nat) : Int)), none, none]) ⟨rfl, rfl, rfl, rfl, z_e (by omega), z_e (by omega), z_e (by omega), trivial⟩ (z_mem (M' := z_mup M (a + 1) (ku stk (size - 1) (1 - stk (size - 1)))) (by simp only [show ((size : Int) - 1).toNat = size - 1 by omega, z_mupm]) (ih (size) (place + 1) (ku stk (size - 1) (1 - stk (size - 1))) (steps + 1) (by omega) (by omega) (by omega) (by omega) ?_ hE))
                                        intro i hi2; simp only [ku]; split
                                        · omega
                                        · have := hb i (by omega); omega
                                      | simp (disch := omega) only [if_pos, if_neg] at hE
                                        rw [show n = nc - (steps + 1) by omega] at hE
                                        refine z_wk (ls' := [some (zn a), some (zn c), some (zi f), some (zn v), some (zi ((size : Nat) : Int)), some (zi (((M c place / 16).toNat : Nat) : Int)), some (zi ((steps + 1 : Nat) : Int)), none, none]) ⟨rfl, rfl, rfl, rfl, z_e (by omega), z_e (by omega), z_e (by omega), trivial⟩ (z_mem (M' := z_mup M (a + 1) (stk)) rfl (ih (size) ((M c place / 16).toNat) (stk) (steps + 1) (by omega) (by omega) (by omega) (by omega) ?_ hE))
                                        exact fun i hi2 => by have := hb i hi2; omega
                                      | simp (disch := omega) only [if_pos, if_neg] at hE
                                        rw [show n = nc - (steps + 1) by omega] at hE
                                        refine z_wk (ls' := [some (zn a), some (zn c), some (zi f), some (zn v), some (zi ((size - 1 : Nat) : Int)), some (zi ((place + 1 : Nat) : Int)), some (zi ((steps + 1 : Nat) : Int)), none, none]) ⟨rfl, rfl, rfl, rfl, z_e (by omega), z_e (by omega), z_e (by omega), trivial⟩ (z_mem (M' := z_mup M (a + 1) (stk)) rfl (ih (size - 1) (place + 1) (stk) (steps + 1) (by omega) (by omega) (by omega) (by omega) ?_ hE))
                                        exact fun i hi2 => by have := hb i (by omega); omega
                                      | simp (disch := omega) only [if_pos, if_neg] at hE
                                        rw [show n = nc - (steps + 1) by omega] at hE
                                        refine z_wk (ls' := [some (zn a), some (zn c), some (zi f), some (zn v), some (zi ((size - 1 : Nat) : Int)), some (zi ((place + 1 : Nat) : Int)), some (zi ((steps + 1 : Nat) : Int)), none, none]) ⟨rfl, rfl, rfl, rfl, z_e (by omega), z_e (by omega), z_e (by omega), trivial⟩ (z_mem (M' := z_mup M (a + 1) (ku stk (size - 2) (zjoin (M c place % 16) (stk (size - 2)) (stk (size - 1))))) (by first | rfl | simp only [show ((size : Int) + -1 - 1).toNat = size - 2 by omega, z_mupm]) (ih (size - 1) (place + 1) (ku stk (size - 2) (zjoin (M c place % 16) (stk (size - 2)) (stk (size - 1)))) (steps + 1) (by omega) (by omega) (by omega) (by omega) ?_ hE))
                                        intro i hi2; simp only [ku]; split
                                        · have := zjoin_in (M c place % 16) (stk (size - 2)) (stk (size - 1)); simp only [zBK] at this; omega
                                        · have := hb i (by omega); omega
                          · refine x_aload_n 140 rfl dX3_value_139 0 rfl rfl ?_
                            refine x_getr 143 rfl fX3_9 dX3_value_140 (mcl0 h) (mcs0 h) (by decide) (a + 1) rfl ?_
                            refine x_iload 145 rfl dX3_value_143 rfl ?_
                            refine x_iconst 146 rfl dX3_value_145 (by decide) ?_
                            refine y_isub 147 rfl dX3_value_146 (by omega) ?_
                            refine x_iconst 148 rfl dX3_value_147 (by decide) ?_
                            refine x_aload_n 149 rfl dX3_value_148 0 rfl rfl ?_
                            refine x_getr 152 rfl fX3_9 dX3_value_149 (mcl0 h) (mcs0 h) (by decide) (a + 1) rfl ?_
                            refine x_iload 154 rfl dX3_value_152 rfl ?_
                            refine x_iconst 155 rfl dX3_value_154 (by decide) ?_
                            refine y_isub 156 rfl dX3_value_155 (by omega) ?_
                            refine x_iald 157 rfl dX3_value_156 (mcl1 h) (mcs1 h) (by omega) (by omega) ?_
                            try simp (disch := omega) only [z_up_ne, z_up_nk, z_up_eq, z_mup_ne, z_mup_eq, Int.reduceToNat, Int.toNat_natCast]
                            rw [show ((size : Int) - 1).toNat = size - 1 by omega]
                            refine y_isub 158 rfl dX3_value_157 (by omega) ?_
                            refine x_iast 159 rfl dX3_value_158 (mcl1 h) (mcs1 h) (by omega) (by omega) ?_
                            refine x_goto 274 dX3_value_159 (by decide) ?_
                            refine w_iinc 277 rfl dX3_value_274 rfl (by decide) (by omega) rfl (ls' := [_, _, _, _, _, _, _, _, _]) rfl (by decide) ?_
                            refine x_goto 9 dX3_value_277 (by decide) ?_
                            first
                              | (exfalso; omega)
                              | simp (disch := omega) only [if_pos, if_neg] at hE
                                rw [show n = nc - (steps + 1) by omega] at hE
                                have e9 : M c place % 16 = 1 := by omega
                                refine z_wk (ls' := [some (zn a), some (zn c), some (zi f), some (zn v), some (zi ((size + 1 : Nat) : Int)), some (zi ((place + 1 : Nat) : Int)), some (zi ((steps + 1 : Nat) : Int)), none, none]) ⟨rfl, rfl, rfl, rfl, z_e (by omega), z_e (by omega), z_e (by omega), trivial⟩ (z_mem (M' := z_mup M (a + 1) (ku stk size (M c place / 16))) (by simp only [Int.toNat_natCast, z_mupm]) (ih (size + 1) (place + 1) (ku stk size (M c place / 16)) (steps + 1) (by omega) (by omega) (by omega) (by omega) ?_ hE))
                                intro i hi2; simp only [ku]; split
                                · omega
                                · have := hb i (by omega); omega
                              | simp (disch := omega) only [if_pos, if_neg] at hE
                                rw [show n = nc - (steps + 1) by omega] at hE
                                have e9 : M c place % 16 = 2 := by omega
                                refine z_wk (ls' := [some (zn a), some (zn c), some (zi f), some (zn v), some (zi ((size + 1 : Nat) : Int)), some (zi ((place + 1 : Nat) : Int)), some (zi ((steps + 1 : Nat) : Int)), none, none]) ⟨rfl, rfl, rfl, rfl, z_e (by omega), z_e (by omega), z_e (by omega), trivial⟩ (z_mem (M' := z_mup M (a + 1) (ku stk size (M v (M c place / 16).toNat))) (by simp only [Int.toNat_natCast, z_mupm]) (ih (size + 1) (place + 1) (ku stk size (M v (M c place / 16).toNat)) (steps + 1) (by omega) (by omega) (by omega) (by omega) ?_ hE))
                                intro i hi2; simp only [ku]; split
                                · omega
                                · have := hb i (by omega); omega
                              | simp (disch := omega) only [if_pos, if_neg] at hE
                                rw [show n = nc - (steps + 1) by omega] at hE
                                have e9 : M c place % 16 = 11 := by omega
                                refine z_wk (ls' := [some (zn a), some (zn c), some (zi f), some (zn v), some (zi ((size : Nat) : Int)), some (zi ((place + 1 : Nat) : Int)), some (zi ((steps + 1 : Nat) : Int)), none, none]) ⟨rfl, rfl, rfl, rfl, z_e (by omega), z_e (by omega), z_e (by omega), trivial⟩ (z_mem (M' := z_mup M (a + 1) (ku stk (size - 1) (1 - stk (size - 1)))) (by simp only [show ((size : Int) - 1).toNat = size - 1 by omega, z_mupm]) (ih (size) (place + 1) (ku stk (size - 1) (1 - stk (size - 1))) (steps + 1) (by omega) (by omega) (by omega) (by omega) ?_ hE))
                                intro i hi2; simp only [ku]; split
                                · omega
                                · have := hb i (by omega); omega
                              | simp (disch := omega) only [if_pos, if_neg] at hE
                                rw [show n = nc - (steps + 1) by omega] at hE
                                refine z_wk (ls' := [some (zn a), some (zn c), some (zi f), some (zn v), some (zi ((size : Nat) : Int)), some (zi (((M c place / 16).toNat : Nat) : Int)), some (zi ((steps + 1 : Nat) : Int)), none, none]) ⟨rfl, rfl, rfl, rfl, z_e (by omega), z_e (by omega), z_e (by omega), trivial⟩ (z_mem (M' := z_mup M (a + 1) (stk)) rfl (ih (size) ((M c place / 16).toNat) (stk) (steps + 1) (by omega) (by omega) (by omega) (by omega) ?_ hE))
                                exact fun i hi2 => by have := hb i hi2; omega
                              | simp (disch := omega) only [if_pos, if_neg] at hE
                                rw [show n = nc - (steps + 1) by omega] at hE
                                refine z_wk (ls' := [some (zn a), some (zn c), some (zi f), some (zn v), some (zi ((size - 1 : Nat) : Int)), some (zi ((place + 1 : Nat) : Int)), some (zi ((steps + 1 : Nat) : Int)), none, none]) ⟨rfl, rfl, rfl, rfl, z_e (by omega), z_e (by omega), z_e (by omega), trivial⟩ (z_mem (M' := z_mup M (a + 1) (stk)) rfl (ih (size - 1) (place + 1) (stk) (steps + 1) (by omega) (by omega) (by omega) (by omega) ?_ hE))
                                exact fun i hi2 => by have := hb i (by omega); omega
                              | simp (disch := omega) only [if_pos, if_neg] at hE
                                rw [show n = nc - (steps + 1) by omega] at hE
                                refine z_wk (ls' := [some (zn a), some (zn c), some (zi f), some (zn v), some (zi ((size - 1 : Nat) : Int)), some (zi ((place + 1 : Nat) : Int)), some (zi ((steps + 1 : Nat) : Int)), none, none]) ⟨rfl, rfl, rfl, rfl, z_e (by omega), z_e (by omega), z_e (by omega), trivial⟩ (z_mem (M' := z_mup M (a + 1) (ku stk (size - 2) (zjoin (M c place % 16) (stk (size - 2)) (stk (size - 1))))) (by first | rfl | simp only [show ((size : Int) + -1 - 1).toNat = size - 2 by omega, z_mupm]) (ih (size - 1) (place + 1) (ku stk (size - 2) (zjoin (M c place % 16) (stk (size - 2)) (stk (size - 1)))) (steps + 1) (by omega) (by omega) (by omega) (by omega) ?_ hE))
                                intro i hi2; simp only [ku]; split
                                · have := zjoin_in (M c place % 16) (stk (size - 2)) (stk (size - 1)); simp only [zBK] at this; omega
                                · have := hb i (by omega); omega
                        · refine x_ldc (x := -2000000000) 131 rfl kX3_15 (by decide) dX3_value_129 ?_
                          refine x_reti dX3_value_131 rfl ?_
                          first
                            | (exfalso; omega)
                            | refine ⟨?_, _, rfl⟩
                              rw [hR, ← hE]
                              simp only [zBK]
                              repeat' split
                              all_goals first | rfl | omega | (exfalso; omega)
                      · refine x_aload_n 96 rfl dX3_value_95 0 rfl rfl ?_
                        refine x_getr 99 rfl fX3_9 dX3_value_96 (mcl0 h) (mcs0 h) (by decide) (a + 1) rfl ?_
                        refine x_iload 101 rfl dX3_value_99 rfl ?_
                        refine x_iload 103 rfl dX3_value_101 rfl ?_
                        refine x_iconst 104 rfl dX3_value_103 (by decide) ?_
                        refine x_icmp_ne 107 112 rfl dX3_value_104 (by decide) (fun c104 => ?_) (fun c104 => ?_)
                        · refine x_aload_n 113 rfl dX3_value_112 3 rfl rfl ?_
                          refine x_iload 115 rfl dX3_value_113 rfl ?_
                          refine x_iald 116 rfl dX3_value_115 hv hSv (by omega) (by omega) ?_
                          try simp (disch := omega) only [z_up_ne, z_up_nk, z_up_eq, z_mup_ne, z_mup_eq, Int.reduceToNat, Int.toNat_natCast]
                          have hv1 := hV (M c place / 16).toNat (by omega)
                          refine x_iast 117 rfl dX3_value_116 (mcl1 h) (mcs1 h) (by omega) (by omega) ?_
                          refine w_iinc 120 rfl dX3_value_117 rfl (by decide) (by omega) rfl (ls' := [_, _, _, _, _, _, _, _, _]) rfl (by decide) ?_
                          refine x_goto 274 dX3_value_120 (by decide) ?_
                          refine w_iinc 277 rfl dX3_value_274 rfl (by decide) (by omega) rfl (ls' := [_, _, _, _, _, _, _, _, _]) rfl (by decide) ?_
                          refine x_goto 9 dX3_value_277 (by decide) ?_
                          first
                            | (exfalso; omega)
                            | simp (disch := omega) only [if_pos, if_neg] at hE
                              rw [show n = nc - (steps + 1) by omega] at hE
                              have e9 : M c place % 16 = 1 := by omega
                              refine z_wk (ls' := [some (zn a), some (zn c), some (zi f), some (zn v), some (zi ((size + 1 : Nat) : Int)), some (zi ((place + 1 : Nat) : Int)), some (zi ((steps + 1 : Nat) : Int)), none, none]) ⟨rfl, rfl, rfl, rfl, z_e (by omega), z_e (by omega), z_e (by omega), trivial⟩ (z_mem (M' := z_mup M (a + 1) (ku stk size (M c place / 16))) (by simp only [Int.toNat_natCast, z_mupm]) (ih (size + 1) (place + 1) (ku stk size (M c place / 16)) (steps + 1) (by omega) (by omega) (by omega) (by omega) ?_ hE))
                              intro i hi2; simp only [ku]; split
                              · omega
                              · have := hb i (by omega); omega
                            | simp (disch := omega) only [if_pos, if_neg] at hE
                              rw [show n = nc - (steps + 1) by omega] at hE
                              have e9 : M c place % 16 = 2 := by omega
                              refine z_wk (ls' := [some (zn a), some (zn c), some (zi f), some (zn v), some (zi ((size + 1 : Nat) : Int)), some (zi ((place + 1 : Nat) : Int)), some (zi ((steps + 1 : Nat) : Int)), none, none]) ⟨rfl, rfl, rfl, rfl, z_e (by omega), z_e (by omega), z_e (by omega), trivial⟩ (z_mem (M' := z_mup M (a + 1) (ku stk size (M v (M c place / 16).toNat))) (by simp only [Int.toNat_natCast, z_mupm]) (ih (size + 1) (place + 1) (ku stk size (M v (M c place / 16).toNat)) (steps + 1) (by omega) (by omega) (by omega) (by omega) ?_ hE))
                              intro i hi2; simp only [ku]; split
                              · omega
                              · have := hb i (by omega); omega
                            | simp (disch := omega) only [if_pos, if_neg] at hE
                              rw [show n = nc - (steps + 1) by omega] at hE
                              have e9 : M c place % 16 = 11 := by omega
                              refine z_wk (ls' := [some (zn a), some (zn c), some (zi f), some (zn v), some (zi ((size : Nat) : Int)), some (zi ((place + 1 : Nat) : Int)), some (zi ((steps + 1 : Nat) : Int)), none, none]) ⟨rfl, rfl, rfl, rfl, z_e (by omega), z_e (by omega), z_e (by omega), trivial⟩ (z_mem (M' := z_mup M (a + 1) (ku stk (size - 1) (1 - stk (size - 1)))) (by simp only [show ((size : Int) - 1).toNat = size - 1 by omega, z_mupm]) (ih (size) (place + 1) (ku stk (size - 1) (1 - stk (size - 1))) (steps + 1) (by omega) (by omega) (by omega) (by omega) ?_ hE))
                              intro i hi2; simp only [ku]; split
                              · omega
                              · have := hb i (by omega); omega
                            | simp (disch := omega) only [if_pos, if_neg] at hE
                              rw [show n = nc - (steps + 1) by omega] at hE
                              refine z_wk (ls' := [some (zn a), some (zn c), some (zi f), some (zn v), some (zi ((size : Nat) : Int)), some (zi (((M c place / 16).toNat : Nat) : Int)), some (zi ((steps + 1 : Nat) : Int)), none, none]) ⟨rfl, rfl, rfl, rfl, z_e (by omega), z_e (by omega), z_e (by omega), trivial⟩ (z_mem (M' := z_mup M (a + 1) (stk)) rfl (ih (size) ((M c place / 16).toNat) (stk) (steps + 1) (by omega) (by omega) (by omega) (by omega) ?_ hE))
                              exact fun i hi2 => by have := hb i hi2; omega
                            | simp (disch := omega) only [if_pos, if_neg] at hE
                              rw [show n = nc - (steps + 1) by omega] at hE
                              refine z_wk (ls' := [some (zn a), some (zn c), some (zi f), some (zn v), some (zi ((size - 1 : Nat) : Int)), some (zi ((place + 1 : Nat) : Int)), some (zi ((steps + 1 : Nat) : Int)), none, none]) ⟨rfl, rfl, rfl, rfl, z_e (by omega), z_e (by omega), z_e (by omega), trivial⟩ (z_mem (M' := z_mup M (a + 1) (stk)) rfl (ih (size - 1) (place + 1) (stk) (steps + 1) (by omega) (by omega) (by omega) (by omega) ?_ hE))
                              exact fun i hi2 => by have := hb i (by omega); omega
                            | simp (disch := omega) only [if_pos, if_neg] at hE
                              rw [show n = nc - (steps + 1) by omega] at hE
                              refine z_wk (ls' := [some (zn a), some (zn c), some (zi f), some (zn v), some (zi ((size - 1 : Nat) : Int)), some (zi ((place + 1 : Nat) : Int)), some (zi ((steps + 1 : Nat) : Int)), none, none]) ⟨rfl, rfl, rfl, rfl, z_e (by omega), z_e (by omega), z_e (by omega), trivial⟩ (z_mem (M' := z_mup M (a + 1) (ku stk (size - 2) (zjoin (M c place % 16) (stk (size - 2)) (stk (size - 1))))) (by first | rfl | simp only [show ((size : Int) + -1 - 1).toNat = size - 2 by omega, z_mupm]) (ih (size - 1) (place + 1) (ku stk (size - 2) (zjoin (M c place % 16) (stk (size - 2)) (stk (size - 1)))) (steps + 1) (by omega) (by omega) (by omega) (by omega) ?_ hE))
                              intro i hi2; simp only [ku]; split
                              · have := zjoin_in (M c place % 16) (stk (size - 2)) (stk (size - 1)); simp only [zBK] at this; omega
                              · have := hb i (by omega); omega
                        · refine x_iload 109 rfl dX3_value_107 rfl ?_
                          refine x_goto 116 dX3_value_109 (by decide) ?_
                          refine x_iast 117 rfl dX3_value_116 (mcl1 h) (mcs1 h) (by omega) (by omega) ?_
                          refine w_iinc 120 rfl dX3_value_117 rfl (by decide) (by omega) rfl (ls' := [_, _, _, _, _, _, _, _, _]) rfl (by decide) ?_
                          refine x_goto 274 dX3_value_120 (by decide) ?_
                          refine w_iinc 277 rfl dX3_value_274 rfl (by decide) (by omega) rfl (ls' := [_, _, _, _, _, _, _, _, _]) rfl (by decide) ?_
                          refine x_goto 9 dX3_value_277 (by decide) ?_
                          first
                            | (exfalso; omega)
                            | simp (disch := omega) only [if_pos, if_neg] at hE
                              rw [show n = nc - (steps + 1) by omega] at hE
                              have e9 : M c place % 16 = 1 := by omega
                              refine z_wk (ls' := [some (zn a), some (zn c), some (zi f), some (zn v), some (zi ((size + 1 : Nat) : Int)), some (zi ((place + 1 : Nat) : Int)), some (zi ((steps + 1 : Nat) : Int)), none, none]) ⟨rfl, rfl, rfl, rfl, z_e (by omega), z_e (by omega), z_e (by omega), trivial⟩ (z_mem (M' := z_mup M (a + 1) (ku stk size (M c place / 16))) (by simp only [Int.toNat_natCast, z_mupm]) (ih (size + 1) (place + 1) (ku stk size (M c place / 16)) (steps + 1) (by omega) (by omega) (by omega) (by omega) ?_ hE))
                              intro i hi2; simp only [ku]; split
                              · omega
                              · have := hb i (by omega); omega
                            | simp (disch := omega) only [if_pos, if_neg] at hE
                              rw [show n = nc - (steps + 1) by omega] at hE
                              have e9 : M c place % 16 = 2 := by omega
                              refine z_wk (ls' := [some (zn a), some (zn c), some (zi f), some (zn v), some (zi ((size + 1 : Nat) : Int)), some (zi ((place + 1 : Nat) : Int)), some (zi ((steps + 1 : Nat) : Int)), none, none]) ⟨rfl, rfl, rfl, rfl, z_e (by omega), z_e (by omega), z_e (by omega), trivial⟩ (z_mem (M' := z_mup M (a + 1) (ku stk size (M v (M c place / 16).toNat))) (by simp only [Int.toNat_natCast, z_mupm]) (ih (size + 1) (place + 1) (ku stk size (M v (M c place / 16).toNat)) (steps + 1) (by omega) (by omega) (by omega) (by omega) ?_ hE))
                              intro i hi2; simp only [ku]; split
                              · omega
                              · have := hb i (by omega); omega
                            | simp (disch := omega) only [if_pos, if_neg] at hE
                              rw [show n = nc - (steps + 1) by omega] at hE
                              have e9 : M c place % 16 = 11 := by omega
                              refine z_wk (ls' := [some (zn a), some (zn c), some (zi f), some (zn v), some (zi ((size : Nat) : Int)), some (zi ((place + 1 : Nat) : Int)), some (zi ((steps + 1 : Nat) : Int)), none, none]) ⟨rfl, rfl, rfl, rfl, z_e (by omega), z_e (by omega), z_e (by omega), trivial⟩ (z_mem (M' := z_mup M (a + 1) (ku stk (size - 1) (1 - stk (size - 1)))) (by simp only [show ((size : Int) - 1).toNat = size - 1 by omega, z_mupm]) (ih (size) (place + 1) (ku stk (size - 1) (1 - stk (size - 1))) (steps + 1) (by omega) (by omega) (by omega) (by omega) ?_ hE))
                              intro i hi2; simp only [ku]; split
                              · omega
                              · have := hb i (by omega); omega
                            | simp (disch := omega) only [if_pos, if_neg] at hE
                              rw [show n = nc - (steps + 1) by omega] at hE
                              refine z_wk (ls' := [some (zn a), some (zn c), some (zi f), some (zn v), some (zi ((size : Nat) : Int)), some (zi (((M c place / 16).toNat : Nat) : Int)), some (zi ((steps + 1 : Nat) : Int)), none, none]) ⟨rfl, rfl, rfl, rfl, z_e (by omega), z_e (by omega), z_e (by omega), trivial⟩ (z_mem (M' := z_mup M (a + 1) (stk)) rfl (ih (size) ((M c place / 16).toNat) (stk) (steps + 1) (by omega) (by omega) (by omega) (by omega) ?_ hE))
                              exact fun i hi2 => by have := hb i hi2; omega
                            | simp (disch := omega) only [if_pos, if_neg] at hE
                              rw [show n = nc - (steps + 1) by omega] at hE
                              refine z_wk (ls' := [some (zn a), some (zn c), some (zi f), some (zn v), some (zi ((size - 1 : Nat) : Int)), some (zi ((place + 1 : Nat) : Int)), some (zi ((steps + 1 : Nat) : Int)), none, none]) ⟨rfl, rfl, rfl, rfl, z_e (by omega), z_e (by omega), z_e (by omega), trivial⟩ (z_mem (M' := z_mup M (a + 1) (stk)) rfl (ih (size - 1) (place + 1) (stk) (steps + 1) (by omega) (by omega) (by omega) (by omega) ?_ hE))
                              exact fun i hi2 => by have := hb i (by omega); omega
                            | simp (disch := omega) only [if_pos, if_neg] at hE
                              rw [show n = nc - (steps + 1) by omega] at hE
                              refine z_wk (ls' := [some (zn a), some (zn c), some (zi f), some (zn v), some (zi ((size - 1 : Nat) : Int)), some (zi ((place + 1 : Nat) : Int)), some (zi ((steps + 1 : Nat) : Int)), none, none]) ⟨rfl, rfl, rfl, rfl, z_e (by omega), z_e (by omega), z_e (by omega), trivial⟩ (z_mem (M' := z_mup M (a + 1) (ku stk (size - 2) (zjoin (M c place % 16) (stk (size - 2)) (stk (size - 1))))) (by first | rfl | simp only [show ((size : Int) + -1 - 1).toNat = size - 2 by omega, z_mupm]) (ih (size - 1) (place + 1) (ku stk (size - 2) (zjoin (M c place % 16) (stk (size - 2)) (stk (size - 1)))) (steps + 1) (by omega) (by omega) (by omega) (by omega) ?_ hE))
                              intro i hi2; simp only [ku]; split
                              · have := zjoin_in (M c place % 16) (stk (size - 2)) (stk (size - 1)); simp only [zBK] at this; omega
                              · have := hb i (by omega); omega
                  · refine x_ldc (x := -2000000000) 82 rfl kX3_15 (by decide) dX3_value_80 ?_
                    refine x_reti dX3_value_82 rfl ?_
                    first
                      | (exfalso; omega)
                      | refine ⟨?_, _, rfl⟩
                        rw [hR, ← hE]
                        simp only [zBK]
                        repeat' split
                        all_goals first | rfl | omega | (exfalso; omega)
            · refine x_goto 280 dX3_value_54 (by decide) ?_
              refine x_iload 282 rfl dX3_value_280 rfl ?_
              refine x_iconst 283 rfl dX3_value_282 (by decide) ?_
              refine x_icmp_ne 286 295 rfl dX3_value_283 (by decide) (fun c283 => ?_) (fun c283 => ?_)
              · refine x_ldc (x := -2000000000) 297 rfl kX3_15 (by decide) dX3_value_295 ?_
                refine x_reti dX3_value_297 rfl ?_
                first
                  | (exfalso; omega)
                  | refine ⟨?_, _, rfl⟩
                    rw [hR, ← hE]
                    simp only [zBK]
                    repeat' split
                    all_goals first | rfl | omega | (exfalso; omega)
              · refine x_aload_n 287 rfl dX3_value_286 0 rfl rfl ?_
                refine x_getr 290 rfl fX3_9 dX3_value_287 (mcl0 h) (mcs0 h) (by decide) (a + 1) rfl ?_
                refine x_iconst 291 rfl dX3_value_290 (by decide) ?_
                refine x_ialk 292 rfl dX3_value_291 (mcl1 h) (mcs1 h) 0 rfl (by decide) ?_
                try simp (disch := omega) only [z_up_ne, z_up_nk, z_up_eq, z_mup_ne, z_mup_eq, Int.reduceToNat, Int.toNat_natCast]
                refine x_goto 297 dX3_value_292 (by decide) ?_
                refine x_reti dX3_value_297 rfl ?_
                first
                  | (exfalso; omega)
                  | refine ⟨?_, _, rfl⟩
                    rw [hR, ← hE]
                    simp only [zBK]
                    repeat' split
                    all_goals first | rfl | omega | (exfalso; omega)
  refine zX_of pl_RX3 [some (zn a), some (zn c), some (zi f), some (zn v), none, none, none, none, none] 5 rfl rfl ?_
  refine x_iconst 1 rfl dX3_value_0 (by decide) ?_
  refine y_istore 3 rfl dX3_value_1 rfl (ls' := [_, _, _, _, _, _, _, _, _]) rfl (by decide) ?_
  refine x_iload_n 4 rfl dX3_value_3 2 rfl rfl ?_
  refine y_istore 6 rfl dX3_value_4 rfl (ls' := [_, _, _, _, _, _, _, _, _]) rfl (by decide) ?_
  refine x_iconst 7 rfl dX3_value_6 (by decide) ?_
  refine y_istore 9 rfl dX3_value_7 rfl (ls' := [_, _, _, _, _, _, _, _, _]) rfl (by decide) ?_
  refine z_mem (M' := z_mup M (a + 1) (M (a + 1))) z_mup_self.symm (z_locs (ls' := [some (zn a), some (zn c), some (zi f), some (zn v), some (zi ((0 : Nat) : Int)), some (zi ((f.toNat : Nat) : Int)), some (zi ((0 : Nat) : Int)), none, none]) (by rw [Int.toNat_of_nonneg hf.1]; rfl) (loop (nc + 1) 0 f.toNat (M (a + 1)) 0 (by omega) (by omega) (by omega) (by omega) (fun i hi => by omega) hR))
