/-! the reference is made -/
/-- the words, as far as they are written -/
def wdM (M : zMem) (n : Nat) : zMem := z_mup M 61 (fun j => if j < n then (wfl WM).getD j 0 else 0)
theorem wdM_0 {M : zMem} : z_mup M 61 (fun _ => 0) = wdM M 0 := by
  unfold wdM
  congr 1
theorem wdM_s {M : zMem} {n : Nat} {v : Int} (h : (wfl WM).getD n 0 = v) : z_up (wdM M n) 61 n v = wdM M (n + 1) := by
  funext i j
  unfold wdM z_mup z_up
  by_cases h1 : i = 61
  · subst h1
    by_cases h2 : j = n
    · subst h2; simp; exact h.symm
    · simp only [h2, and_false, if_false, if_true]
      by_cases h3 : j < n
      · rw [if_pos h3, if_pos (by omega)]
      · rw [if_neg h3, if_neg (by omega)]
  · simp [h1]
/-- the first numbers -/
def k0 : Nat → Int := fun i => if 51 ≤ i ∧ i < 57 then 10 else if i = 73 then 200 else if i = 79 then -1 else 0

def mdM1 (M : zMem) : zMem := (z_up (z_mup (z_mup (z_up (z_mup (z_mup (z_mup (z_mup (z_mup (z_mup (z_mup (z_mup (z_mup (z_up (z_mup (z_mup (wdM (z_mup (z_mup (z_mup (z_mup (z_mup M 56 (fun _ => 0)) 57 (fun _ => 0)) 58 (fun _ => 0)) 59 (fun _ => 0)) 60 (fun _ => 0)) 141) 62 (fun _ => 0)) 63 (fun _ => 0)) 55 14 (-1)) 64 (fun _ => 0)) 65 (fun _ => 0)) 66 (fun _ => 0)) 67 (fun _ => 0)) 68 (fun _ => 0)) 69 (fun _ => 0)) 70 (fun _ => 0)) 71 (fun _ => 0)) 72 (fun _ => 0)) 55 35 (-1)) 73 (fun _ => 0)) 74 (fun _ => 0)) 55 43 (-1))
def mdM (M : zMem) : zMem := z_mup (mdM1 M) 57 k0
theorem z_shp {mt : zMt} {d kc ks : Nat} {sc : List Int} {Q : zQ} {pc : Nat} {ls : zLs} {st : List zV} {sz : Nat} {S : zSh} {M : zMem} (h : ∀ S', S' = S → zW mt d kc ks sc Q pc ls st sz S' M) : zW mt d kc ks sc Q pc ls st sz S M := h S rfl
theorem w51_s {M : zMem} {n : Nat} {x : Int} (h : x.toNat = 51 + n) : z_up (z_mup M 57 (fun j => if 51 ≤ j ∧ j < 51 + n then 10 else 0)) 57 x.toNat 10 = z_mup M 57 (fun j => if 51 ≤ j ∧ j < 51 + (n + 1) then 10 else 0) := by
  rw [h]
  funext a j
  unfold z_up z_mup
  by_cases h1 : a = 57
  · subst h1
    by_cases h2 : j = 51 + n
    · subst h2; rw [if_pos ⟨rfl, rfl⟩, if_pos rfl, if_pos ⟨by omega, by omega⟩]
    · rw [if_neg (by omega), if_pos rfl, if_pos rfl]
      by_cases h3 : 51 ≤ j ∧ j < 51 + n
      · rw [if_pos h3, if_pos ⟨h3.1, by omega⟩]
      · rw [if_neg h3, if_neg (by omega)]
  · rw [if_neg (by omega), if_neg h1, if_neg h1]

set_option maxRecDepth 100000 in
set_option maxHeartbeats 4000000 in
theorem c_X11_init {d sz : Nat} {S : zSh} {M : zMem} (hS : S 55 = (11, 46, fun _ => -1)) (hLy : ∀ i, i < 55 → S i = lyS i) : zX (d + 1) 19 21680 mX11_init [zn 55] 56 S M (fun v sz' S' M' => v = none ∧ sz' = 75 ∧ LY S' 75 ∧ M' = mdM M) := by
  have loop : ∀ (S9 : zSh), LY S9 75 → ∀ (q n : Nat), n ≤ 6 → 6 < q + n → zW mX11_init (d + 1) 0 0 [] (fun v sz' S' M' => v = none ∧ sz' = 75 ∧ LY S' 75 ∧ M' = mdM M) 1032 [some (zn 55), some (zi (n : Int))] [] 75 S9 (z_mup (mdM1 M) 57 (fun j => if 51 ≤ j ∧ j < 51 + n then 10 else 0)) := by
    intro S9 hL q
    induction q with
    | zero => intro n hn hq; omega
    | succ q ih =>
      intro n hn hq
      refine x_iload_n 1033 rfl dX11_init_1032 1 rfl rfl ?_
      refine x_bipush 1035 rfl dX11_init_1033 (by decide) ?_
      refine x_icmp_ge 1038 1055 rfl dX11_init_1035 (by decide) (fun c1035 => ?_) (fun c1035 => ?_)
      · refine x_aload_n 1056 rfl dX11_init_1055 0 rfl rfl ?_
        refine x_getr 1059 rfl fX11_24 dX11_init_1056 (lyl55 hL) (lys55 hL) (by decide) (57) rfl ?_
        refine x_bipush 1061 rfl dX11_init_1059 (by decide) ?_
        refine x_sipush 1064 rfl dX11_init_1061 (by decide) ?_
        refine x_iastk 1065 rfl dX11_init_1064 (lyl57 hL) (lys57 hL) 73 rfl (by decide) ?_
        refine x_aload_n 1066 rfl dX11_init_1065 0 rfl rfl ?_
        refine x_getr 1069 rfl fX11_24 dX11_init_1066 (lyl55 hL) (lys55 hL) (by decide) (57) rfl ?_
        refine x_bipush 1071 rfl dX11_init_1069 (by decide) ?_
        refine x_iconst 1072 rfl dX11_init_1071 (by decide) ?_
        refine x_iastk 1073 rfl dX11_init_1072 (lyl57 hL) (lys57 hL) 79 rfl (by decide) ?_
        refine x_vret dX11_init_1073 rfl ?_
        refine ⟨rfl, rfl, hL, ?_⟩
        have en : n = 6 := by omega
        subst en
        unfold mdM
        funext a j
        by_cases h1 : a = 57
        · subst h1
          simp only [z_mup_eq, z_up, k0, true_and]
          repeat' split
          all_goals first | rfl | (exfalso; omega)
        · rw [z_up_ne h1, z_up_ne h1, z_mup_ne h1, z_mup_ne h1]
      · refine x_aload_n 1039 rfl dX11_init_1038 0 rfl rfl ?_
        refine x_getr 1042 rfl fX11_24 dX11_init_1039 (lyl55 hL) (lys55 hL) (by decide) (57) rfl ?_
        refine x_bipush 1044 rfl dX11_init_1042 (by decide) ?_
        refine x_iload_n 1045 rfl dX11_init_1044 1 rfl rfl ?_
        refine y_iadd 1046 rfl dX11_init_1045 (by omega) ?_
        refine x_bipush 1048 rfl dX11_init_1046 (by decide) ?_
        refine x_iast 1049 rfl dX11_init_1048 (lyl57 hL) (lys57 hL) (by omega) (by omega) ?_
        refine w_iinc 1052 rfl dX11_init_1049 rfl (by decide) (by omega) rfl (ls' := [_, _]) rfl (by decide) ?_
        refine x_goto 1032 dX11_init_1052 (by decide) ?_
        refine z_mem (M' := (z_mup (mdM1 M) 57 (fun j => if 51 ≤ j ∧ j < 51 + (n + 1) then 10 else 0))) (w51_s (by omega)) (ih (n + 1) (by omega) (by omega))
  refine zX_of pl_RX11 [some (zn 55), none] 1 rfl rfl ?_
  refine x_aload_n 1 rfl dX11_init_0 0 rfl rfl ?_
  refine x_objInit 4 rfl lX11_18 w_oi w_oc dX11_init_1 (Nat.le_of_ble_eq_true rfl) ?_
  refine x_aload_n 5 rfl dX11_init_4 0 rfl rfl ?_
  refine x_bipush 7 rfl dX11_init_5 (by decide) ?_
  refine x_newaI (sz := 56) 9 rfl wa_int dX11_init_7 7 rfl (by decide) ?_
  refine x_putf 12 rfl ffX11_7 rfl dX11_init_9 (by omega) (z_sup_at (by omega) hS) (by decide) ?_
  refine x_aload_n 13 rfl dX11_init_12 0 rfl rfl ?_
  refine x_sipush 16 rfl dX11_init_13 (by decide) ?_
  refine x_newaI (sz := 57) 18 rfl wa_int dX11_init_16 5687 rfl (by decide) ?_
  refine x_putf 21 rfl ffX11_24 rfl dX11_init_18 (by omega) (z_sup_at (by omega) z_sup_eq) (by decide) ?_
  refine x_aload_n 22 rfl dX11_init_21 0 rfl rfl ?_
  refine x_sipush 25 rfl dX11_init_22 (by decide) ?_
  refine x_newaI (sz := 58) 27 rfl wa_int dX11_init_25 11374 rfl (by decide) ?_
  refine x_putf 30 rfl ffX11_27 rfl dX11_init_27 (by omega) (z_sup_at (by omega) z_sup_eq) (by decide) ?_
  refine x_aload_n 31 rfl dX11_init_30 0 rfl rfl ?_
  refine x_iconst 32 rfl dX11_init_31 (by decide) ?_
  refine x_newaZ (sz := 59) 34 rfl wa_boolean dX11_init_32 2 rfl (by decide) ?_
  refine x_putf 37 rfl ffX11_30 rfl dX11_init_34 (by omega) (z_sup_at (by omega) z_sup_eq) (by decide) ?_
  refine x_aload_n 38 rfl dX11_init_37 0 rfl rfl ?_
  refine x_bipush 40 rfl dX11_init_38 (by decide) ?_
  refine x_newaI (sz := 60) 42 rfl wa_int dX11_init_40 46 rfl (by decide) ?_
  refine x_putf 45 rfl ffX11_34 rfl dX11_init_42 (by omega) (z_sup_at (by omega) z_sup_eq) (by decide) ?_
  refine x_aload_n 46 rfl dX11_init_45 0 rfl rfl ?_
  refine x_sipush 49 rfl dX11_init_46 (by decide) ?_
  refine x_newaB (sz := 61) 51 rfl wa_byte dX11_init_49 141 rfl (by decide) ?_
  refine z_mem (M' := wdM (z_mup (z_mup (z_mup (z_mup (z_mup M 56 (fun _ => 0)) 57 (fun _ => 0)) 58 (fun _ => 0)) 59 (fun _ => 0)) 60 (fun _ => 0)) 0) wdM_0 ?_
  refine x_dupr 52 rfl dX11_init_51 ?_
  refine x_iconst 53 rfl dX11_init_52 (by decide) ?_
  refine x_bipush 55 rfl dX11_init_53 (by decide) ?_
  refine x_bast 56 rfl dX11_init_55 (by omega) z_sup_eq (by omega) (by omega) ?_
  refine z_mem (M' := wdM (z_mup (z_mup (z_mup (z_mup (z_mup M 56 (fun _ => 0)) 57 (fun _ => 0)) 58 (fun _ => 0)) 59 (fun _ => 0)) 60 (fun _ => 0)) 1) (wdM_s (by decide)) ?_
  refine x_dupr 57 rfl dX11_init_56 ?_
  refine x_iconst 58 rfl dX11_init_57 (by decide) ?_
  refine x_bipush 60 rfl dX11_init_58 (by decide) ?_
  refine x_bast 61 rfl dX11_init_60 (by omega) z_sup_eq (by omega) (by omega) ?_
  refine z_mem (M' := wdM (z_mup (z_mup (z_mup (z_mup (z_mup M 56 (fun _ => 0)) 57 (fun _ => 0)) 58 (fun _ => 0)) 59 (fun _ => 0)) 60 (fun _ => 0)) 2) (wdM_s (by decide)) ?_
  refine x_dupr 62 rfl dX11_init_61 ?_
  refine x_iconst 63 rfl dX11_init_62 (by decide) ?_
  refine x_bipush 65 rfl dX11_init_63 (by decide) ?_
  refine x_bast 66 rfl dX11_init_65 (by omega) z_sup_eq (by omega) (by omega) ?_
  refine z_mem (M' := wdM (z_mup (z_mup (z_mup (z_mup (z_mup M 56 (fun _ => 0)) 57 (fun _ => 0)) 58 (fun _ => 0)) 59 (fun _ => 0)) 60 (fun _ => 0)) 3) (wdM_s (by decide)) ?_
  refine x_dupr 67 rfl dX11_init_66 ?_
  refine x_iconst 68 rfl dX11_init_67 (by decide) ?_
  refine x_bipush 70 rfl dX11_init_68 (by decide) ?_
  refine x_bast 71 rfl dX11_init_70 (by omega) z_sup_eq (by omega) (by omega) ?_
  refine z_mem (M' := wdM (z_mup (z_mup (z_mup (z_mup (z_mup M 56 (fun _ => 0)) 57 (fun _ => 0)) 58 (fun _ => 0)) 59 (fun _ => 0)) 60 (fun _ => 0)) 4) (wdM_s (by decide)) ?_
  refine x_dupr 72 rfl dX11_init_71 ?_
  refine x_iconst 73 rfl dX11_init_72 (by decide) ?_
  refine x_bipush 75 rfl dX11_init_73 (by decide) ?_
  refine x_bast 76 rfl dX11_init_75 (by omega) z_sup_eq (by omega) (by omega) ?_
  refine z_mem (M' := wdM (z_mup (z_mup (z_mup (z_mup (z_mup M 56 (fun _ => 0)) 57 (fun _ => 0)) 58 (fun _ => 0)) 59 (fun _ => 0)) 60 (fun _ => 0)) 5) (wdM_s (by decide)) ?_
  refine x_dupr 77 rfl dX11_init_76 ?_
  refine x_iconst 78 rfl dX11_init_77 (by decide) ?_
  refine x_bipush 80 rfl dX11_init_78 (by decide) ?_
  refine x_bast 81 rfl dX11_init_80 (by omega) z_sup_eq (by omega) (by omega) ?_
  refine z_mem (M' := wdM (z_mup (z_mup (z_mup (z_mup (z_mup M 56 (fun _ => 0)) 57 (fun _ => 0)) 58 (fun _ => 0)) 59 (fun _ => 0)) 60 (fun _ => 0)) 6) (wdM_s (by decide)) ?_
  refine x_dupr 82 rfl dX11_init_81 ?_
  refine x_bipush 84 rfl dX11_init_82 (by decide) ?_
  refine x_bipush 86 rfl dX11_init_84 (by decide) ?_
  refine x_bast 87 rfl dX11_init_86 (by omega) z_sup_eq (by omega) (by omega) ?_
  refine z_mem (M' := wdM (z_mup (z_mup (z_mup (z_mup (z_mup M 56 (fun _ => 0)) 57 (fun _ => 0)) 58 (fun _ => 0)) 59 (fun _ => 0)) 60 (fun _ => 0)) 7) (wdM_s (by decide)) ?_
  refine x_dupr 88 rfl dX11_init_87 ?_
  refine x_bipush 90 rfl dX11_init_88 (by decide) ?_
  refine x_bipush 92 rfl dX11_init_90 (by decide) ?_
  refine x_bast 93 rfl dX11_init_92 (by omega) z_sup_eq (by omega) (by omega) ?_
  refine z_mem (M' := wdM (z_mup (z_mup (z_mup (z_mup (z_mup M 56 (fun _ => 0)) 57 (fun _ => 0)) 58 (fun _ => 0)) 59 (fun _ => 0)) 60 (fun _ => 0)) 8) (wdM_s (by decide)) ?_
  refine x_dupr 94 rfl dX11_init_93 ?_
  refine x_bipush 96 rfl dX11_init_94 (by decide) ?_
  refine x_bipush 98 rfl dX11_init_96 (by decide) ?_
  refine x_bast 99 rfl dX11_init_98 (by omega) z_sup_eq (by omega) (by omega) ?_
  refine z_mem (M' := wdM (z_mup (z_mup (z_mup (z_mup (z_mup M 56 (fun _ => 0)) 57 (fun _ => 0)) 58 (fun _ => 0)) 59 (fun _ => 0)) 60 (fun _ => 0)) 9) (wdM_s (by decide)) ?_
  refine x_dupr 100 rfl dX11_init_99 ?_
  refine x_bipush 102 rfl dX11_init_100 (by decide) ?_
  refine x_bipush 104 rfl dX11_init_102 (by decide) ?_
  refine x_bast 105 rfl dX11_init_104 (by omega) z_sup_eq (by omega) (by omega) ?_
  refine z_mem (M' := wdM (z_mup (z_mup (z_mup (z_mup (z_mup M 56 (fun _ => 0)) 57 (fun _ => 0)) 58 (fun _ => 0)) 59 (fun _ => 0)) 60 (fun _ => 0)) 10) (wdM_s (by decide)) ?_
  refine x_dupr 106 rfl dX11_init_105 ?_
  refine x_bipush 108 rfl dX11_init_106 (by decide) ?_
  refine x_bipush 110 rfl dX11_init_108 (by decide) ?_
  refine x_bast 111 rfl dX11_init_110 (by omega) z_sup_eq (by omega) (by omega) ?_
  refine z_mem (M' := wdM (z_mup (z_mup (z_mup (z_mup (z_mup M 56 (fun _ => 0)) 57 (fun _ => 0)) 58 (fun _ => 0)) 59 (fun _ => 0)) 60 (fun _ => 0)) 11) (wdM_s (by decide)) ?_
  refine x_dupr 112 rfl dX11_init_111 ?_
  refine x_bipush 114 rfl dX11_init_112 (by decide) ?_
  refine x_bipush 116 rfl dX11_init_114 (by decide) ?_
  refine x_bast 117 rfl dX11_init_116 (by omega) z_sup_eq (by omega) (by omega) ?_
  refine z_mem (M' := wdM (z_mup (z_mup (z_mup (z_mup (z_mup M 56 (fun _ => 0)) 57 (fun _ => 0)) 58 (fun _ => 0)) 59 (fun _ => 0)) 60 (fun _ => 0)) 12) (wdM_s (by decide)) ?_
  refine x_dupr 118 rfl dX11_init_117 ?_
  refine x_bipush 120 rfl dX11_init_118 (by decide) ?_
  refine x_bipush 122 rfl dX11_init_120 (by decide) ?_
  refine x_bast 123 rfl dX11_init_122 (by omega) z_sup_eq (by omega) (by omega) ?_
  refine z_mem (M' := wdM (z_mup (z_mup (z_mup (z_mup (z_mup M 56 (fun _ => 0)) 57 (fun _ => 0)) 58 (fun _ => 0)) 59 (fun _ => 0)) 60 (fun _ => 0)) 13) (wdM_s (by decide)) ?_
  refine x_dupr 124 rfl dX11_init_123 ?_
  refine x_bipush 126 rfl dX11_init_124 (by decide) ?_
  refine x_bipush 128 rfl dX11_init_126 (by decide) ?_
  refine x_bast 129 rfl dX11_init_128 (by omega) z_sup_eq (by omega) (by omega) ?_
  refine z_mem (M' := wdM (z_mup (z_mup (z_mup (z_mup (z_mup M 56 (fun _ => 0)) 57 (fun _ => 0)) 58 (fun _ => 0)) 59 (fun _ => 0)) 60 (fun _ => 0)) 14) (wdM_s (by decide)) ?_
  refine x_dupr 130 rfl dX11_init_129 ?_
  refine x_bipush 132 rfl dX11_init_130 (by decide) ?_
  refine x_bipush 134 rfl dX11_init_132 (by decide) ?_
  refine x_bast 135 rfl dX11_init_134 (by omega) z_sup_eq (by omega) (by omega) ?_
  refine z_mem (M' := wdM (z_mup (z_mup (z_mup (z_mup (z_mup M 56 (fun _ => 0)) 57 (fun _ => 0)) 58 (fun _ => 0)) 59 (fun _ => 0)) 60 (fun _ => 0)) 15) (wdM_s (by decide)) ?_
  refine x_dupr 136 rfl dX11_init_135 ?_
  refine x_bipush 138 rfl dX11_init_136 (by decide) ?_
  refine x_bipush 140 rfl dX11_init_138 (by decide) ?_
  refine x_bast 141 rfl dX11_init_140 (by omega) z_sup_eq (by omega) (by omega) ?_
  refine z_mem (M' := wdM (z_mup (z_mup (z_mup (z_mup (z_mup M 56 (fun _ => 0)) 57 (fun _ => 0)) 58 (fun _ => 0)) 59 (fun _ => 0)) 60 (fun _ => 0)) 16) (wdM_s (by decide)) ?_
  refine x_dupr 142 rfl dX11_init_141 ?_
  refine x_bipush 144 rfl dX11_init_142 (by decide) ?_
  refine x_bipush 146 rfl dX11_init_144 (by decide) ?_
  refine x_bast 147 rfl dX11_init_146 (by omega) z_sup_eq (by omega) (by omega) ?_
  refine z_mem (M' := wdM (z_mup (z_mup (z_mup (z_mup (z_mup M 56 (fun _ => 0)) 57 (fun _ => 0)) 58 (fun _ => 0)) 59 (fun _ => 0)) 60 (fun _ => 0)) 17) (wdM_s (by decide)) ?_
  refine x_dupr 148 rfl dX11_init_147 ?_
  refine x_bipush 150 rfl dX11_init_148 (by decide) ?_
  refine x_bipush 152 rfl dX11_init_150 (by decide) ?_
  refine x_bast 153 rfl dX11_init_152 (by omega) z_sup_eq (by omega) (by omega) ?_
  refine z_mem (M' := wdM (z_mup (z_mup (z_mup (z_mup (z_mup M 56 (fun _ => 0)) 57 (fun _ => 0)) 58 (fun _ => 0)) 59 (fun _ => 0)) 60 (fun _ => 0)) 18) (wdM_s (by decide)) ?_
  refine x_dupr 154 rfl dX11_init_153 ?_
  refine x_bipush 156 rfl dX11_init_154 (by decide) ?_
  refine x_bipush 158 rfl dX11_init_156 (by decide) ?_
  refine x_bast 159 rfl dX11_init_158 (by omega) z_sup_eq (by omega) (by omega) ?_
  refine z_mem (M' := wdM (z_mup (z_mup (z_mup (z_mup (z_mup M 56 (fun _ => 0)) 57 (fun _ => 0)) 58 (fun _ => 0)) 59 (fun _ => 0)) 60 (fun _ => 0)) 19) (wdM_s (by decide)) ?_
  refine x_dupr 160 rfl dX11_init_159 ?_
  refine x_bipush 162 rfl dX11_init_160 (by decide) ?_
  refine x_bipush 164 rfl dX11_init_162 (by decide) ?_
  refine x_bast 165 rfl dX11_init_164 (by omega) z_sup_eq (by omega) (by omega) ?_
  refine z_mem (M' := wdM (z_mup (z_mup (z_mup (z_mup (z_mup M 56 (fun _ => 0)) 57 (fun _ => 0)) 58 (fun _ => 0)) 59 (fun _ => 0)) 60 (fun _ => 0)) 20) (wdM_s (by decide)) ?_
  refine x_dupr 166 rfl dX11_init_165 ?_
  refine x_bipush 168 rfl dX11_init_166 (by decide) ?_
  refine x_bipush 170 rfl dX11_init_168 (by decide) ?_
  refine x_bast 171 rfl dX11_init_170 (by omega) z_sup_eq (by omega) (by omega) ?_
  refine z_mem (M' := wdM (z_mup (z_mup (z_mup (z_mup (z_mup M 56 (fun _ => 0)) 57 (fun _ => 0)) 58 (fun _ => 0)) 59 (fun _ => 0)) 60 (fun _ => 0)) 21) (wdM_s (by decide)) ?_
  refine x_dupr 172 rfl dX11_init_171 ?_
  refine x_bipush 174 rfl dX11_init_172 (by decide) ?_
  refine x_bipush 176 rfl dX11_init_174 (by decide) ?_
  refine x_bast 177 rfl dX11_init_176 (by omega) z_sup_eq (by omega) (by omega) ?_
  refine z_mem (M' := wdM (z_mup (z_mup (z_mup (z_mup (z_mup M 56 (fun _ => 0)) 57 (fun _ => 0)) 58 (fun _ => 0)) 59 (fun _ => 0)) 60 (fun _ => 0)) 22) (wdM_s (by decide)) ?_
  refine x_dupr 178 rfl dX11_init_177 ?_
  refine x_bipush 180 rfl dX11_init_178 (by decide) ?_
  refine x_bipush 182 rfl dX11_init_180 (by decide) ?_
  refine x_bast 183 rfl dX11_init_182 (by omega) z_sup_eq (by omega) (by omega) ?_
  refine z_mem (M' := wdM (z_mup (z_mup (z_mup (z_mup (z_mup M 56 (fun _ => 0)) 57 (fun _ => 0)) 58 (fun _ => 0)) 59 (fun _ => 0)) 60 (fun _ => 0)) 23) (wdM_s (by decide)) ?_
  refine x_dupr 184 rfl dX11_init_183 ?_
  refine x_bipush 186 rfl dX11_init_184 (by decide) ?_
  refine x_bipush 188 rfl dX11_init_186 (by decide) ?_
  refine x_bast 189 rfl dX11_init_188 (by omega) z_sup_eq (by omega) (by omega) ?_
  refine z_mem (M' := wdM (z_mup (z_mup (z_mup (z_mup (z_mup M 56 (fun _ => 0)) 57 (fun _ => 0)) 58 (fun _ => 0)) 59 (fun _ => 0)) 60 (fun _ => 0)) 24) (wdM_s (by decide)) ?_
  refine x_dupr 190 rfl dX11_init_189 ?_
  refine x_bipush 192 rfl dX11_init_190 (by decide) ?_
  refine x_bipush 194 rfl dX11_init_192 (by decide) ?_
  refine x_bast 195 rfl dX11_init_194 (by omega) z_sup_eq (by omega) (by omega) ?_
  refine z_mem (M' := wdM (z_mup (z_mup (z_mup (z_mup (z_mup M 56 (fun _ => 0)) 57 (fun _ => 0)) 58 (fun _ => 0)) 59 (fun _ => 0)) 60 (fun _ => 0)) 25) (wdM_s (by decide)) ?_
  refine x_dupr 196 rfl dX11_init_195 ?_
  refine x_bipush 198 rfl dX11_init_196 (by decide) ?_
  refine x_bipush 200 rfl dX11_init_198 (by decide) ?_
  refine x_bast 201 rfl dX11_init_200 (by omega) z_sup_eq (by omega) (by omega) ?_
  refine z_mem (M' := wdM (z_mup (z_mup (z_mup (z_mup (z_mup M 56 (fun _ => 0)) 57 (fun _ => 0)) 58 (fun _ => 0)) 59 (fun _ => 0)) 60 (fun _ => 0)) 26) (wdM_s (by decide)) ?_
  refine x_dupr 202 rfl dX11_init_201 ?_
  refine x_bipush 204 rfl dX11_init_202 (by decide) ?_
  refine x_bipush 206 rfl dX11_init_204 (by decide) ?_
  refine x_bast 207 rfl dX11_init_206 (by omega) z_sup_eq (by omega) (by omega) ?_
  refine z_mem (M' := wdM (z_mup (z_mup (z_mup (z_mup (z_mup M 56 (fun _ => 0)) 57 (fun _ => 0)) 58 (fun _ => 0)) 59 (fun _ => 0)) 60 (fun _ => 0)) 27) (wdM_s (by decide)) ?_
  refine x_dupr 208 rfl dX11_init_207 ?_
  refine x_bipush 210 rfl dX11_init_208 (by decide) ?_
  refine x_bipush 212 rfl dX11_init_210 (by decide) ?_
  refine x_bast 213 rfl dX11_init_212 (by omega) z_sup_eq (by omega) (by omega) ?_
  refine z_mem (M' := wdM (z_mup (z_mup (z_mup (z_mup (z_mup M 56 (fun _ => 0)) 57 (fun _ => 0)) 58 (fun _ => 0)) 59 (fun _ => 0)) 60 (fun _ => 0)) 28) (wdM_s (by decide)) ?_
  refine x_dupr 214 rfl dX11_init_213 ?_
  refine x_bipush 216 rfl dX11_init_214 (by decide) ?_
  refine x_bipush 218 rfl dX11_init_216 (by decide) ?_
  refine x_bast 219 rfl dX11_init_218 (by omega) z_sup_eq (by omega) (by omega) ?_
  refine z_mem (M' := wdM (z_mup (z_mup (z_mup (z_mup (z_mup M 56 (fun _ => 0)) 57 (fun _ => 0)) 58 (fun _ => 0)) 59 (fun _ => 0)) 60 (fun _ => 0)) 29) (wdM_s (by decide)) ?_
  refine x_dupr 220 rfl dX11_init_219 ?_
  refine x_bipush 222 rfl dX11_init_220 (by decide) ?_
  refine x_bipush 224 rfl dX11_init_222 (by decide) ?_
  refine x_bast 225 rfl dX11_init_224 (by omega) z_sup_eq (by omega) (by omega) ?_
  refine z_mem (M' := wdM (z_mup (z_mup (z_mup (z_mup (z_mup M 56 (fun _ => 0)) 57 (fun _ => 0)) 58 (fun _ => 0)) 59 (fun _ => 0)) 60 (fun _ => 0)) 30) (wdM_s (by decide)) ?_
  refine x_dupr 226 rfl dX11_init_225 ?_
  refine x_bipush 228 rfl dX11_init_226 (by decide) ?_
  refine x_bipush 230 rfl dX11_init_228 (by decide) ?_
  refine x_bast 231 rfl dX11_init_230 (by omega) z_sup_eq (by omega) (by omega) ?_
  refine z_mem (M' := wdM (z_mup (z_mup (z_mup (z_mup (z_mup M 56 (fun _ => 0)) 57 (fun _ => 0)) 58 (fun _ => 0)) 59 (fun _ => 0)) 60 (fun _ => 0)) 31) (wdM_s (by decide)) ?_
  refine x_dupr 232 rfl dX11_init_231 ?_
  refine x_bipush 234 rfl dX11_init_232 (by decide) ?_
  refine x_bipush 236 rfl dX11_init_234 (by decide) ?_
  refine x_bast 237 rfl dX11_init_236 (by omega) z_sup_eq (by omega) (by omega) ?_
  refine z_mem (M' := wdM (z_mup (z_mup (z_mup (z_mup (z_mup M 56 (fun _ => 0)) 57 (fun _ => 0)) 58 (fun _ => 0)) 59 (fun _ => 0)) 60 (fun _ => 0)) 32) (wdM_s (by decide)) ?_
  refine x_dupr 238 rfl dX11_init_237 ?_
  refine x_bipush 240 rfl dX11_init_238 (by decide) ?_
  refine x_bipush 242 rfl dX11_init_240 (by decide) ?_
  refine x_bast 243 rfl dX11_init_242 (by omega) z_sup_eq (by omega) (by omega) ?_
  refine z_mem (M' := wdM (z_mup (z_mup (z_mup (z_mup (z_mup M 56 (fun _ => 0)) 57 (fun _ => 0)) 58 (fun _ => 0)) 59 (fun _ => 0)) 60 (fun _ => 0)) 33) (wdM_s (by decide)) ?_
  refine x_dupr 244 rfl dX11_init_243 ?_
  refine x_bipush 246 rfl dX11_init_244 (by decide) ?_
  refine x_bipush 248 rfl dX11_init_246 (by decide) ?_
  refine x_bast 249 rfl dX11_init_248 (by omega) z_sup_eq (by omega) (by omega) ?_
  refine z_mem (M' := wdM (z_mup (z_mup (z_mup (z_mup (z_mup M 56 (fun _ => 0)) 57 (fun _ => 0)) 58 (fun _ => 0)) 59 (fun _ => 0)) 60 (fun _ => 0)) 34) (wdM_s (by decide)) ?_
  refine x_dupr 250 rfl dX11_init_249 ?_
  refine x_bipush 252 rfl dX11_init_250 (by decide) ?_
  refine x_bipush 254 rfl dX11_init_252 (by decide) ?_
  refine x_bast 255 rfl dX11_init_254 (by omega) z_sup_eq (by omega) (by omega) ?_
  refine z_mem (M' := wdM (z_mup (z_mup (z_mup (z_mup (z_mup M 56 (fun _ => 0)) 57 (fun _ => 0)) 58 (fun _ => 0)) 59 (fun _ => 0)) 60 (fun _ => 0)) 35) (wdM_s (by decide)) ?_
  refine x_dupr 256 rfl dX11_init_255 ?_
  refine x_bipush 258 rfl dX11_init_256 (by decide) ?_
  refine x_bipush 260 rfl dX11_init_258 (by decide) ?_
  refine x_bast 261 rfl dX11_init_260 (by omega) z_sup_eq (by omega) (by omega) ?_
  refine z_mem (M' := wdM (z_mup (z_mup (z_mup (z_mup (z_mup M 56 (fun _ => 0)) 57 (fun _ => 0)) 58 (fun _ => 0)) 59 (fun _ => 0)) 60 (fun _ => 0)) 36) (wdM_s (by decide)) ?_
  refine x_dupr 262 rfl dX11_init_261 ?_
  refine x_bipush 264 rfl dX11_init_262 (by decide) ?_
  refine x_bipush 266 rfl dX11_init_264 (by decide) ?_
  refine x_bast 267 rfl dX11_init_266 (by omega) z_sup_eq (by omega) (by omega) ?_
  refine z_mem (M' := wdM (z_mup (z_mup (z_mup (z_mup (z_mup M 56 (fun _ => 0)) 57 (fun _ => 0)) 58 (fun _ => 0)) 59 (fun _ => 0)) 60 (fun _ => 0)) 37) (wdM_s (by decide)) ?_
  refine x_dupr 268 rfl dX11_init_267 ?_
  refine x_bipush 270 rfl dX11_init_268 (by decide) ?_
  refine x_bipush 272 rfl dX11_init_270 (by decide) ?_
  refine x_bast 273 rfl dX11_init_272 (by omega) z_sup_eq (by omega) (by omega) ?_
  refine z_mem (M' := wdM (z_mup (z_mup (z_mup (z_mup (z_mup M 56 (fun _ => 0)) 57 (fun _ => 0)) 58 (fun _ => 0)) 59 (fun _ => 0)) 60 (fun _ => 0)) 38) (wdM_s (by decide)) ?_
  refine x_dupr 274 rfl dX11_init_273 ?_
  refine x_bipush 276 rfl dX11_init_274 (by decide) ?_
  refine x_bipush 278 rfl dX11_init_276 (by decide) ?_
  refine x_bast 279 rfl dX11_init_278 (by omega) z_sup_eq (by omega) (by omega) ?_
  refine z_mem (M' := wdM (z_mup (z_mup (z_mup (z_mup (z_mup M 56 (fun _ => 0)) 57 (fun _ => 0)) 58 (fun _ => 0)) 59 (fun _ => 0)) 60 (fun _ => 0)) 39) (wdM_s (by decide)) ?_
  refine x_dupr 280 rfl dX11_init_279 ?_
  refine x_bipush 282 rfl dX11_init_280 (by decide) ?_
  refine x_bipush 284 rfl dX11_init_282 (by decide) ?_
  refine x_bast 285 rfl dX11_init_284 (by omega) z_sup_eq (by omega) (by omega) ?_
  refine z_mem (M' := wdM (z_mup (z_mup (z_mup (z_mup (z_mup M 56 (fun _ => 0)) 57 (fun _ => 0)) 58 (fun _ => 0)) 59 (fun _ => 0)) 60 (fun _ => 0)) 40) (wdM_s (by decide)) ?_
  refine x_dupr 286 rfl dX11_init_285 ?_
  refine x_bipush 288 rfl dX11_init_286 (by decide) ?_
  refine x_bipush 290 rfl dX11_init_288 (by decide) ?_
  refine x_bast 291 rfl dX11_init_290 (by omega) z_sup_eq (by omega) (by omega) ?_
  refine z_mem (M' := wdM (z_mup (z_mup (z_mup (z_mup (z_mup M 56 (fun _ => 0)) 57 (fun _ => 0)) 58 (fun _ => 0)) 59 (fun _ => 0)) 60 (fun _ => 0)) 41) (wdM_s (by decide)) ?_
  refine x_dupr 292 rfl dX11_init_291 ?_
  refine x_bipush 294 rfl dX11_init_292 (by decide) ?_
  refine x_bipush 296 rfl dX11_init_294 (by decide) ?_
  refine x_bast 297 rfl dX11_init_296 (by omega) z_sup_eq (by omega) (by omega) ?_
  refine z_mem (M' := wdM (z_mup (z_mup (z_mup (z_mup (z_mup M 56 (fun _ => 0)) 57 (fun _ => 0)) 58 (fun _ => 0)) 59 (fun _ => 0)) 60 (fun _ => 0)) 42) (wdM_s (by decide)) ?_
  refine x_dupr 298 rfl dX11_init_297 ?_
  refine x_bipush 300 rfl dX11_init_298 (by decide) ?_
  refine x_bipush 302 rfl dX11_init_300 (by decide) ?_
  refine x_bast 303 rfl dX11_init_302 (by omega) z_sup_eq (by omega) (by omega) ?_
  refine z_mem (M' := wdM (z_mup (z_mup (z_mup (z_mup (z_mup M 56 (fun _ => 0)) 57 (fun _ => 0)) 58 (fun _ => 0)) 59 (fun _ => 0)) 60 (fun _ => 0)) 43) (wdM_s (by decide)) ?_
  refine x_dupr 304 rfl dX11_init_303 ?_
  refine x_bipush 306 rfl dX11_init_304 (by decide) ?_
  refine x_bipush 308 rfl dX11_init_306 (by decide) ?_
  refine x_bast 309 rfl dX11_init_308 (by omega) z_sup_eq (by omega) (by omega) ?_
  refine z_mem (M' := wdM (z_mup (z_mup (z_mup (z_mup (z_mup M 56 (fun _ => 0)) 57 (fun _ => 0)) 58 (fun _ => 0)) 59 (fun _ => 0)) 60 (fun _ => 0)) 44) (wdM_s (by decide)) ?_
  refine x_dupr 310 rfl dX11_init_309 ?_
  refine x_bipush 312 rfl dX11_init_310 (by decide) ?_
  refine x_bipush 314 rfl dX11_init_312 (by decide) ?_
  refine x_bast 315 rfl dX11_init_314 (by omega) z_sup_eq (by omega) (by omega) ?_
  refine z_mem (M' := wdM (z_mup (z_mup (z_mup (z_mup (z_mup M 56 (fun _ => 0)) 57 (fun _ => 0)) 58 (fun _ => 0)) 59 (fun _ => 0)) 60 (fun _ => 0)) 45) (wdM_s (by decide)) ?_
  refine x_dupr 316 rfl dX11_init_315 ?_
  refine x_bipush 318 rfl dX11_init_316 (by decide) ?_
  refine x_bipush 320 rfl dX11_init_318 (by decide) ?_
  refine x_bast 321 rfl dX11_init_320 (by omega) z_sup_eq (by omega) (by omega) ?_
  refine z_mem (M' := wdM (z_mup (z_mup (z_mup (z_mup (z_mup M 56 (fun _ => 0)) 57 (fun _ => 0)) 58 (fun _ => 0)) 59 (fun _ => 0)) 60 (fun _ => 0)) 46) (wdM_s (by decide)) ?_
  refine x_dupr 322 rfl dX11_init_321 ?_
  refine x_bipush 324 rfl dX11_init_322 (by decide) ?_
  refine x_bipush 326 rfl dX11_init_324 (by decide) ?_
  refine x_bast 327 rfl dX11_init_326 (by omega) z_sup_eq (by omega) (by omega) ?_
  refine z_mem (M' := wdM (z_mup (z_mup (z_mup (z_mup (z_mup M 56 (fun _ => 0)) 57 (fun _ => 0)) 58 (fun _ => 0)) 59 (fun _ => 0)) 60 (fun _ => 0)) 47) (wdM_s (by decide)) ?_
  refine x_dupr 328 rfl dX11_init_327 ?_
  refine x_bipush 330 rfl dX11_init_328 (by decide) ?_
  refine x_bipush 332 rfl dX11_init_330 (by decide) ?_
  refine x_bast 333 rfl dX11_init_332 (by omega) z_sup_eq (by omega) (by omega) ?_
  refine z_mem (M' := wdM (z_mup (z_mup (z_mup (z_mup (z_mup M 56 (fun _ => 0)) 57 (fun _ => 0)) 58 (fun _ => 0)) 59 (fun _ => 0)) 60 (fun _ => 0)) 48) (wdM_s (by decide)) ?_
  refine x_dupr 334 rfl dX11_init_333 ?_
  refine x_bipush 336 rfl dX11_init_334 (by decide) ?_
  refine x_bipush 338 rfl dX11_init_336 (by decide) ?_
  refine x_bast 339 rfl dX11_init_338 (by omega) z_sup_eq (by omega) (by omega) ?_
  refine z_mem (M' := wdM (z_mup (z_mup (z_mup (z_mup (z_mup M 56 (fun _ => 0)) 57 (fun _ => 0)) 58 (fun _ => 0)) 59 (fun _ => 0)) 60 (fun _ => 0)) 49) (wdM_s (by decide)) ?_
  refine x_dupr 340 rfl dX11_init_339 ?_
  refine x_bipush 342 rfl dX11_init_340 (by decide) ?_
  refine x_bipush 344 rfl dX11_init_342 (by decide) ?_
  refine x_bast 345 rfl dX11_init_344 (by omega) z_sup_eq (by omega) (by omega) ?_
  refine z_mem (M' := wdM (z_mup (z_mup (z_mup (z_mup (z_mup M 56 (fun _ => 0)) 57 (fun _ => 0)) 58 (fun _ => 0)) 59 (fun _ => 0)) 60 (fun _ => 0)) 50) (wdM_s (by decide)) ?_
  refine x_dupr 346 rfl dX11_init_345 ?_
  refine x_bipush 348 rfl dX11_init_346 (by decide) ?_
  refine x_bipush 350 rfl dX11_init_348 (by decide) ?_
  refine x_bast 351 rfl dX11_init_350 (by omega) z_sup_eq (by omega) (by omega) ?_
  refine z_mem (M' := wdM (z_mup (z_mup (z_mup (z_mup (z_mup M 56 (fun _ => 0)) 57 (fun _ => 0)) 58 (fun _ => 0)) 59 (fun _ => 0)) 60 (fun _ => 0)) 51) (wdM_s (by decide)) ?_
  refine x_dupr 352 rfl dX11_init_351 ?_
  refine x_bipush 354 rfl dX11_init_352 (by decide) ?_
  refine x_bipush 356 rfl dX11_init_354 (by decide) ?_
  refine x_bast 357 rfl dX11_init_356 (by omega) z_sup_eq (by omega) (by omega) ?_
  refine z_mem (M' := wdM (z_mup (z_mup (z_mup (z_mup (z_mup M 56 (fun _ => 0)) 57 (fun _ => 0)) 58 (fun _ => 0)) 59 (fun _ => 0)) 60 (fun _ => 0)) 52) (wdM_s (by decide)) ?_
  refine x_dupr 358 rfl dX11_init_357 ?_
  refine x_bipush 360 rfl dX11_init_358 (by decide) ?_
  refine x_bipush 362 rfl dX11_init_360 (by decide) ?_
  refine x_bast 363 rfl dX11_init_362 (by omega) z_sup_eq (by omega) (by omega) ?_
  refine z_mem (M' := wdM (z_mup (z_mup (z_mup (z_mup (z_mup M 56 (fun _ => 0)) 57 (fun _ => 0)) 58 (fun _ => 0)) 59 (fun _ => 0)) 60 (fun _ => 0)) 53) (wdM_s (by decide)) ?_
  refine x_dupr 364 rfl dX11_init_363 ?_
  refine x_bipush 366 rfl dX11_init_364 (by decide) ?_
  refine x_bipush 368 rfl dX11_init_366 (by decide) ?_
  refine x_bast 369 rfl dX11_init_368 (by omega) z_sup_eq (by omega) (by omega) ?_
  refine z_mem (M' := wdM (z_mup (z_mup (z_mup (z_mup (z_mup M 56 (fun _ => 0)) 57 (fun _ => 0)) 58 (fun _ => 0)) 59 (fun _ => 0)) 60 (fun _ => 0)) 54) (wdM_s (by decide)) ?_
  refine x_dupr 370 rfl dX11_init_369 ?_
  refine x_bipush 372 rfl dX11_init_370 (by decide) ?_
  refine x_bipush 374 rfl dX11_init_372 (by decide) ?_
  refine x_bast 375 rfl dX11_init_374 (by omega) z_sup_eq (by omega) (by omega) ?_
  refine z_mem (M' := wdM (z_mup (z_mup (z_mup (z_mup (z_mup M 56 (fun _ => 0)) 57 (fun _ => 0)) 58 (fun _ => 0)) 59 (fun _ => 0)) 60 (fun _ => 0)) 55) (wdM_s (by decide)) ?_
  refine x_dupr 376 rfl dX11_init_375 ?_
  refine x_bipush 378 rfl dX11_init_376 (by decide) ?_
  refine x_bipush 380 rfl dX11_init_378 (by decide) ?_
  refine x_bast 381 rfl dX11_init_380 (by omega) z_sup_eq (by omega) (by omega) ?_
  refine z_mem (M' := wdM (z_mup (z_mup (z_mup (z_mup (z_mup M 56 (fun _ => 0)) 57 (fun _ => 0)) 58 (fun _ => 0)) 59 (fun _ => 0)) 60 (fun _ => 0)) 56) (wdM_s (by decide)) ?_
  refine x_dupr 382 rfl dX11_init_381 ?_
  refine x_bipush 384 rfl dX11_init_382 (by decide) ?_
  refine x_bipush 386 rfl dX11_init_384 (by decide) ?_
  refine x_bast 387 rfl dX11_init_386 (by omega) z_sup_eq (by omega) (by omega) ?_
  refine z_mem (M' := wdM (z_mup (z_mup (z_mup (z_mup (z_mup M 56 (fun _ => 0)) 57 (fun _ => 0)) 58 (fun _ => 0)) 59 (fun _ => 0)) 60 (fun _ => 0)) 57) (wdM_s (by decide)) ?_
  refine x_dupr 388 rfl dX11_init_387 ?_
  refine x_bipush 390 rfl dX11_init_388 (by decide) ?_
  refine x_bipush 392 rfl dX11_init_390 (by decide) ?_
  refine x_bast 393 rfl dX11_init_392 (by omega) z_sup_eq (by omega) (by omega) ?_
  refine z_mem (M' := wdM (z_mup (z_mup (z_mup (z_mup (z_mup M 56 (fun _ => 0)) 57 (fun _ => 0)) 58 (fun _ => 0)) 59 (fun _ => 0)) 60 (fun _ => 0)) 58) (wdM_s (by decide)) ?_
  refine x_dupr 394 rfl dX11_init_393 ?_
  refine x_bipush 396 rfl dX11_init_394 (by decide) ?_
  refine x_bipush 398 rfl dX11_init_396 (by decide) ?_
  refine x_bast 399 rfl dX11_init_398 (by omega) z_sup_eq (by omega) (by omega) ?_
  refine z_mem (M' := wdM (z_mup (z_mup (z_mup (z_mup (z_mup M 56 (fun _ => 0)) 57 (fun _ => 0)) 58 (fun _ => 0)) 59 (fun _ => 0)) 60 (fun _ => 0)) 59) (wdM_s (by decide)) ?_
  refine x_dupr 400 rfl dX11_init_399 ?_
  refine x_bipush 402 rfl dX11_init_400 (by decide) ?_
  refine x_bipush 404 rfl dX11_init_402 (by decide) ?_
  refine x_bast 405 rfl dX11_init_404 (by omega) z_sup_eq (by omega) (by omega) ?_
  refine z_mem (M' := wdM (z_mup (z_mup (z_mup (z_mup (z_mup M 56 (fun _ => 0)) 57 (fun _ => 0)) 58 (fun _ => 0)) 59 (fun _ => 0)) 60 (fun _ => 0)) 60) (wdM_s (by decide)) ?_
  refine x_dupr 406 rfl dX11_init_405 ?_
  refine x_bipush 408 rfl dX11_init_406 (by decide) ?_
  refine x_bipush 410 rfl dX11_init_408 (by decide) ?_
  refine x_bast 411 rfl dX11_init_410 (by omega) z_sup_eq (by omega) (by omega) ?_
  refine z_mem (M' := wdM (z_mup (z_mup (z_mup (z_mup (z_mup M 56 (fun _ => 0)) 57 (fun _ => 0)) 58 (fun _ => 0)) 59 (fun _ => 0)) 60 (fun _ => 0)) 61) (wdM_s (by decide)) ?_
  refine x_dupr 412 rfl dX11_init_411 ?_
  refine x_bipush 414 rfl dX11_init_412 (by decide) ?_
  refine x_bipush 416 rfl dX11_init_414 (by decide) ?_
  refine x_bast 417 rfl dX11_init_416 (by omega) z_sup_eq (by omega) (by omega) ?_
  refine z_mem (M' := wdM (z_mup (z_mup (z_mup (z_mup (z_mup M 56 (fun _ => 0)) 57 (fun _ => 0)) 58 (fun _ => 0)) 59 (fun _ => 0)) 60 (fun _ => 0)) 62) (wdM_s (by decide)) ?_
  refine x_dupr 418 rfl dX11_init_417 ?_
  refine x_bipush 420 rfl dX11_init_418 (by decide) ?_
  refine x_bipush 422 rfl dX11_init_420 (by decide) ?_
  refine x_bast 423 rfl dX11_init_422 (by omega) z_sup_eq (by omega) (by omega) ?_
  refine z_mem (M' := wdM (z_mup (z_mup (z_mup (z_mup (z_mup M 56 (fun _ => 0)) 57 (fun _ => 0)) 58 (fun _ => 0)) 59 (fun _ => 0)) 60 (fun _ => 0)) 63) (wdM_s (by decide)) ?_
  refine x_dupr 424 rfl dX11_init_423 ?_
  refine x_bipush 426 rfl dX11_init_424 (by decide) ?_
  refine x_bipush 428 rfl dX11_init_426 (by decide) ?_
  refine x_bast 429 rfl dX11_init_428 (by omega) z_sup_eq (by omega) (by omega) ?_
  refine z_mem (M' := wdM (z_mup (z_mup (z_mup (z_mup (z_mup M 56 (fun _ => 0)) 57 (fun _ => 0)) 58 (fun _ => 0)) 59 (fun _ => 0)) 60 (fun _ => 0)) 64) (wdM_s (by decide)) ?_
  refine x_dupr 430 rfl dX11_init_429 ?_
  refine x_bipush 432 rfl dX11_init_430 (by decide) ?_
  refine x_bipush 434 rfl dX11_init_432 (by decide) ?_
  refine x_bast 435 rfl dX11_init_434 (by omega) z_sup_eq (by omega) (by omega) ?_
  refine z_mem (M' := wdM (z_mup (z_mup (z_mup (z_mup (z_mup M 56 (fun _ => 0)) 57 (fun _ => 0)) 58 (fun _ => 0)) 59 (fun _ => 0)) 60 (fun _ => 0)) 65) (wdM_s (by decide)) ?_
  refine x_dupr 436 rfl dX11_init_435 ?_
  refine x_bipush 438 rfl dX11_init_436 (by decide) ?_
  refine x_bipush 440 rfl dX11_init_438 (by decide) ?_
  refine x_bast 441 rfl dX11_init_440 (by omega) z_sup_eq (by omega) (by omega) ?_
  refine z_mem (M' := wdM (z_mup (z_mup (z_mup (z_mup (z_mup M 56 (fun _ => 0)) 57 (fun _ => 0)) 58 (fun _ => 0)) 59 (fun _ => 0)) 60 (fun _ => 0)) 66) (wdM_s (by decide)) ?_
  refine x_dupr 442 rfl dX11_init_441 ?_
  refine x_bipush 444 rfl dX11_init_442 (by decide) ?_
  refine x_bipush 446 rfl dX11_init_444 (by decide) ?_
  refine x_bast 447 rfl dX11_init_446 (by omega) z_sup_eq (by omega) (by omega) ?_
  refine z_mem (M' := wdM (z_mup (z_mup (z_mup (z_mup (z_mup M 56 (fun _ => 0)) 57 (fun _ => 0)) 58 (fun _ => 0)) 59 (fun _ => 0)) 60 (fun _ => 0)) 67) (wdM_s (by decide)) ?_
  refine x_dupr 448 rfl dX11_init_447 ?_
  refine x_bipush 450 rfl dX11_init_448 (by decide) ?_
  refine x_bipush 452 rfl dX11_init_450 (by decide) ?_
  refine x_bast 453 rfl dX11_init_452 (by omega) z_sup_eq (by omega) (by omega) ?_
  refine z_mem (M' := wdM (z_mup (z_mup (z_mup (z_mup (z_mup M 56 (fun _ => 0)) 57 (fun _ => 0)) 58 (fun _ => 0)) 59 (fun _ => 0)) 60 (fun _ => 0)) 68) (wdM_s (by decide)) ?_
  refine x_dupr 454 rfl dX11_init_453 ?_
  refine x_bipush 456 rfl dX11_init_454 (by decide) ?_
  refine x_bipush 458 rfl dX11_init_456 (by decide) ?_
  refine x_bast 459 rfl dX11_init_458 (by omega) z_sup_eq (by omega) (by omega) ?_
  refine z_mem (M' := wdM (z_mup (z_mup (z_mup (z_mup (z_mup M 56 (fun _ => 0)) 57 (fun _ => 0)) 58 (fun _ => 0)) 59 (fun _ => 0)) 60 (fun _ => 0)) 69) (wdM_s (by decide)) ?_
  refine x_dupr 460 rfl dX11_init_459 ?_
  refine x_bipush 462 rfl dX11_init_460 (by decide) ?_
  refine x_bipush 464 rfl dX11_init_462 (by decide) ?_
  refine x_bast 465 rfl dX11_init_464 (by omega) z_sup_eq (by omega) (by omega) ?_
  refine z_mem (M' := wdM (z_mup (z_mup (z_mup (z_mup (z_mup M 56 (fun _ => 0)) 57 (fun _ => 0)) 58 (fun _ => 0)) 59 (fun _ => 0)) 60 (fun _ => 0)) 70) (wdM_s (by decide)) ?_
  refine x_dupr 466 rfl dX11_init_465 ?_
  refine x_bipush 468 rfl dX11_init_466 (by decide) ?_
  refine x_bipush 470 rfl dX11_init_468 (by decide) ?_
  refine x_bast 471 rfl dX11_init_470 (by omega) z_sup_eq (by omega) (by omega) ?_
  refine z_mem (M' := wdM (z_mup (z_mup (z_mup (z_mup (z_mup M 56 (fun _ => 0)) 57 (fun _ => 0)) 58 (fun _ => 0)) 59 (fun _ => 0)) 60 (fun _ => 0)) 71) (wdM_s (by decide)) ?_
  refine x_dupr 472 rfl dX11_init_471 ?_
  refine x_bipush 474 rfl dX11_init_472 (by decide) ?_
  refine x_bipush 476 rfl dX11_init_474 (by decide) ?_
  refine x_bast 477 rfl dX11_init_476 (by omega) z_sup_eq (by omega) (by omega) ?_
  refine z_mem (M' := wdM (z_mup (z_mup (z_mup (z_mup (z_mup M 56 (fun _ => 0)) 57 (fun _ => 0)) 58 (fun _ => 0)) 59 (fun _ => 0)) 60 (fun _ => 0)) 72) (wdM_s (by decide)) ?_
  refine x_dupr 478 rfl dX11_init_477 ?_
  refine x_bipush 480 rfl dX11_init_478 (by decide) ?_
  refine x_bipush 482 rfl dX11_init_480 (by decide) ?_
  refine x_bast 483 rfl dX11_init_482 (by omega) z_sup_eq (by omega) (by omega) ?_
  refine z_mem (M' := wdM (z_mup (z_mup (z_mup (z_mup (z_mup M 56 (fun _ => 0)) 57 (fun _ => 0)) 58 (fun _ => 0)) 59 (fun _ => 0)) 60 (fun _ => 0)) 73) (wdM_s (by decide)) ?_
  refine x_dupr 484 rfl dX11_init_483 ?_
  refine x_bipush 486 rfl dX11_init_484 (by decide) ?_
  refine x_bipush 488 rfl dX11_init_486 (by decide) ?_
  refine x_bast 489 rfl dX11_init_488 (by omega) z_sup_eq (by omega) (by omega) ?_
  refine z_mem (M' := wdM (z_mup (z_mup (z_mup (z_mup (z_mup M 56 (fun _ => 0)) 57 (fun _ => 0)) 58 (fun _ => 0)) 59 (fun _ => 0)) 60 (fun _ => 0)) 74) (wdM_s (by decide)) ?_
  refine x_dupr 490 rfl dX11_init_489 ?_
  refine x_bipush 492 rfl dX11_init_490 (by decide) ?_
  refine x_bipush 494 rfl dX11_init_492 (by decide) ?_
  refine x_bast 495 rfl dX11_init_494 (by omega) z_sup_eq (by omega) (by omega) ?_
  refine z_mem (M' := wdM (z_mup (z_mup (z_mup (z_mup (z_mup M 56 (fun _ => 0)) 57 (fun _ => 0)) 58 (fun _ => 0)) 59 (fun _ => 0)) 60 (fun _ => 0)) 75) (wdM_s (by decide)) ?_
  refine x_dupr 496 rfl dX11_init_495 ?_
  refine x_bipush 498 rfl dX11_init_496 (by decide) ?_
  refine x_bipush 500 rfl dX11_init_498 (by decide) ?_
  refine x_bast 501 rfl dX11_init_500 (by omega) z_sup_eq (by omega) (by omega) ?_
  refine z_mem (M' := wdM (z_mup (z_mup (z_mup (z_mup (z_mup M 56 (fun _ => 0)) 57 (fun _ => 0)) 58 (fun _ => 0)) 59 (fun _ => 0)) 60 (fun _ => 0)) 76) (wdM_s (by decide)) ?_
  refine x_dupr 502 rfl dX11_init_501 ?_
  refine x_bipush 504 rfl dX11_init_502 (by decide) ?_
  refine x_bipush 506 rfl dX11_init_504 (by decide) ?_
  refine x_bast 507 rfl dX11_init_506 (by omega) z_sup_eq (by omega) (by omega) ?_
  refine z_mem (M' := wdM (z_mup (z_mup (z_mup (z_mup (z_mup M 56 (fun _ => 0)) 57 (fun _ => 0)) 58 (fun _ => 0)) 59 (fun _ => 0)) 60 (fun _ => 0)) 77) (wdM_s (by decide)) ?_
  refine x_dupr 508 rfl dX11_init_507 ?_
  refine x_bipush 510 rfl dX11_init_508 (by decide) ?_
  refine x_bipush 512 rfl dX11_init_510 (by decide) ?_
  refine x_bast 513 rfl dX11_init_512 (by omega) z_sup_eq (by omega) (by omega) ?_
  refine z_mem (M' := wdM (z_mup (z_mup (z_mup (z_mup (z_mup M 56 (fun _ => 0)) 57 (fun _ => 0)) 58 (fun _ => 0)) 59 (fun _ => 0)) 60 (fun _ => 0)) 78) (wdM_s (by decide)) ?_
  refine x_dupr 514 rfl dX11_init_513 ?_
  refine x_bipush 516 rfl dX11_init_514 (by decide) ?_
  refine x_bipush 518 rfl dX11_init_516 (by decide) ?_
  refine x_bast 519 rfl dX11_init_518 (by omega) z_sup_eq (by omega) (by omega) ?_
  refine z_mem (M' := wdM (z_mup (z_mup (z_mup (z_mup (z_mup M 56 (fun _ => 0)) 57 (fun _ => 0)) 58 (fun _ => 0)) 59 (fun _ => 0)) 60 (fun _ => 0)) 79) (wdM_s (by decide)) ?_
  refine x_dupr 520 rfl dX11_init_519 ?_
  refine x_bipush 522 rfl dX11_init_520 (by decide) ?_
  refine x_bipush 524 rfl dX11_init_522 (by decide) ?_
  refine x_bast 525 rfl dX11_init_524 (by omega) z_sup_eq (by omega) (by omega) ?_
  refine z_mem (M' := wdM (z_mup (z_mup (z_mup (z_mup (z_mup M 56 (fun _ => 0)) 57 (fun _ => 0)) 58 (fun _ => 0)) 59 (fun _ => 0)) 60 (fun _ => 0)) 80) (wdM_s (by decide)) ?_
  refine x_dupr 526 rfl dX11_init_525 ?_
  refine x_bipush 528 rfl dX11_init_526 (by decide) ?_
  refine x_bipush 530 rfl dX11_init_528 (by decide) ?_
  refine x_bast 531 rfl dX11_init_530 (by omega) z_sup_eq (by omega) (by omega) ?_
  refine z_mem (M' := wdM (z_mup (z_mup (z_mup (z_mup (z_mup M 56 (fun _ => 0)) 57 (fun _ => 0)) 58 (fun _ => 0)) 59 (fun _ => 0)) 60 (fun _ => 0)) 81) (wdM_s (by decide)) ?_
  refine x_dupr 532 rfl dX11_init_531 ?_
  refine x_bipush 534 rfl dX11_init_532 (by decide) ?_
  refine x_bipush 536 rfl dX11_init_534 (by decide) ?_
  refine x_bast 537 rfl dX11_init_536 (by omega) z_sup_eq (by omega) (by omega) ?_
  refine z_mem (M' := wdM (z_mup (z_mup (z_mup (z_mup (z_mup M 56 (fun _ => 0)) 57 (fun _ => 0)) 58 (fun _ => 0)) 59 (fun _ => 0)) 60 (fun _ => 0)) 82) (wdM_s (by decide)) ?_
  refine x_dupr 538 rfl dX11_init_537 ?_
  refine x_bipush 540 rfl dX11_init_538 (by decide) ?_
  refine x_bipush 542 rfl dX11_init_540 (by decide) ?_
  refine x_bast 543 rfl dX11_init_542 (by omega) z_sup_eq (by omega) (by omega) ?_
  refine z_mem (M' := wdM (z_mup (z_mup (z_mup (z_mup (z_mup M 56 (fun _ => 0)) 57 (fun _ => 0)) 58 (fun _ => 0)) 59 (fun _ => 0)) 60 (fun _ => 0)) 83) (wdM_s (by decide)) ?_
  refine x_dupr 544 rfl dX11_init_543 ?_
  refine x_bipush 546 rfl dX11_init_544 (by decide) ?_
  refine x_bipush 548 rfl dX11_init_546 (by decide) ?_
  refine x_bast 549 rfl dX11_init_548 (by omega) z_sup_eq (by omega) (by omega) ?_
  refine z_mem (M' := wdM (z_mup (z_mup (z_mup (z_mup (z_mup M 56 (fun _ => 0)) 57 (fun _ => 0)) 58 (fun _ => 0)) 59 (fun _ => 0)) 60 (fun _ => 0)) 84) (wdM_s (by decide)) ?_
  refine x_dupr 550 rfl dX11_init_549 ?_
  refine x_bipush 552 rfl dX11_init_550 (by decide) ?_
  refine x_bipush 554 rfl dX11_init_552 (by decide) ?_
  refine x_bast 555 rfl dX11_init_554 (by omega) z_sup_eq (by omega) (by omega) ?_
  refine z_mem (M' := wdM (z_mup (z_mup (z_mup (z_mup (z_mup M 56 (fun _ => 0)) 57 (fun _ => 0)) 58 (fun _ => 0)) 59 (fun _ => 0)) 60 (fun _ => 0)) 85) (wdM_s (by decide)) ?_
  refine x_dupr 556 rfl dX11_init_555 ?_
  refine x_bipush 558 rfl dX11_init_556 (by decide) ?_
  refine x_bipush 560 rfl dX11_init_558 (by decide) ?_
  refine x_bast 561 rfl dX11_init_560 (by omega) z_sup_eq (by omega) (by omega) ?_
  refine z_mem (M' := wdM (z_mup (z_mup (z_mup (z_mup (z_mup M 56 (fun _ => 0)) 57 (fun _ => 0)) 58 (fun _ => 0)) 59 (fun _ => 0)) 60 (fun _ => 0)) 86) (wdM_s (by decide)) ?_
  refine x_dupr 562 rfl dX11_init_561 ?_
  refine x_bipush 564 rfl dX11_init_562 (by decide) ?_
  refine x_bipush 566 rfl dX11_init_564 (by decide) ?_
  refine x_bast 567 rfl dX11_init_566 (by omega) z_sup_eq (by omega) (by omega) ?_
  refine z_mem (M' := wdM (z_mup (z_mup (z_mup (z_mup (z_mup M 56 (fun _ => 0)) 57 (fun _ => 0)) 58 (fun _ => 0)) 59 (fun _ => 0)) 60 (fun _ => 0)) 87) (wdM_s (by decide)) ?_
  refine x_dupr 568 rfl dX11_init_567 ?_
  refine x_bipush 570 rfl dX11_init_568 (by decide) ?_
  refine x_bipush 572 rfl dX11_init_570 (by decide) ?_
  refine x_bast 573 rfl dX11_init_572 (by omega) z_sup_eq (by omega) (by omega) ?_
  refine z_mem (M' := wdM (z_mup (z_mup (z_mup (z_mup (z_mup M 56 (fun _ => 0)) 57 (fun _ => 0)) 58 (fun _ => 0)) 59 (fun _ => 0)) 60 (fun _ => 0)) 88) (wdM_s (by decide)) ?_
  refine x_dupr 574 rfl dX11_init_573 ?_
  refine x_bipush 576 rfl dX11_init_574 (by decide) ?_
  refine x_bipush 578 rfl dX11_init_576 (by decide) ?_
  refine x_bast 579 rfl dX11_init_578 (by omega) z_sup_eq (by omega) (by omega) ?_
  refine z_mem (M' := wdM (z_mup (z_mup (z_mup (z_mup (z_mup M 56 (fun _ => 0)) 57 (fun _ => 0)) 58 (fun _ => 0)) 59 (fun _ => 0)) 60 (fun _ => 0)) 89) (wdM_s (by decide)) ?_
  refine x_dupr 580 rfl dX11_init_579 ?_
  refine x_bipush 582 rfl dX11_init_580 (by decide) ?_
  refine x_bipush 584 rfl dX11_init_582 (by decide) ?_
  refine x_bast 585 rfl dX11_init_584 (by omega) z_sup_eq (by omega) (by omega) ?_
  refine z_mem (M' := wdM (z_mup (z_mup (z_mup (z_mup (z_mup M 56 (fun _ => 0)) 57 (fun _ => 0)) 58 (fun _ => 0)) 59 (fun _ => 0)) 60 (fun _ => 0)) 90) (wdM_s (by decide)) ?_
  refine x_dupr 586 rfl dX11_init_585 ?_
  refine x_bipush 588 rfl dX11_init_586 (by decide) ?_
  refine x_bipush 590 rfl dX11_init_588 (by decide) ?_
  refine x_bast 591 rfl dX11_init_590 (by omega) z_sup_eq (by omega) (by omega) ?_
  refine z_mem (M' := wdM (z_mup (z_mup (z_mup (z_mup (z_mup M 56 (fun _ => 0)) 57 (fun _ => 0)) 58 (fun _ => 0)) 59 (fun _ => 0)) 60 (fun _ => 0)) 91) (wdM_s (by decide)) ?_
  refine x_dupr 592 rfl dX11_init_591 ?_
  refine x_bipush 594 rfl dX11_init_592 (by decide) ?_
  refine x_bipush 596 rfl dX11_init_594 (by decide) ?_
  refine x_bast 597 rfl dX11_init_596 (by omega) z_sup_eq (by omega) (by omega) ?_
  refine z_mem (M' := wdM (z_mup (z_mup (z_mup (z_mup (z_mup M 56 (fun _ => 0)) 57 (fun _ => 0)) 58 (fun _ => 0)) 59 (fun _ => 0)) 60 (fun _ => 0)) 92) (wdM_s (by decide)) ?_
  refine x_dupr 598 rfl dX11_init_597 ?_
  refine x_bipush 600 rfl dX11_init_598 (by decide) ?_
  refine x_bipush 602 rfl dX11_init_600 (by decide) ?_
  refine x_bast 603 rfl dX11_init_602 (by omega) z_sup_eq (by omega) (by omega) ?_
  refine z_mem (M' := wdM (z_mup (z_mup (z_mup (z_mup (z_mup M 56 (fun _ => 0)) 57 (fun _ => 0)) 58 (fun _ => 0)) 59 (fun _ => 0)) 60 (fun _ => 0)) 93) (wdM_s (by decide)) ?_
  refine x_dupr 604 rfl dX11_init_603 ?_
  refine x_bipush 606 rfl dX11_init_604 (by decide) ?_
  refine x_bipush 608 rfl dX11_init_606 (by decide) ?_
  refine x_bast 609 rfl dX11_init_608 (by omega) z_sup_eq (by omega) (by omega) ?_
  refine z_mem (M' := wdM (z_mup (z_mup (z_mup (z_mup (z_mup M 56 (fun _ => 0)) 57 (fun _ => 0)) 58 (fun _ => 0)) 59 (fun _ => 0)) 60 (fun _ => 0)) 94) (wdM_s (by decide)) ?_
  refine x_dupr 610 rfl dX11_init_609 ?_
  refine x_bipush 612 rfl dX11_init_610 (by decide) ?_
  refine x_bipush 614 rfl dX11_init_612 (by decide) ?_
  refine x_bast 615 rfl dX11_init_614 (by omega) z_sup_eq (by omega) (by omega) ?_
  refine z_mem (M' := wdM (z_mup (z_mup (z_mup (z_mup (z_mup M 56 (fun _ => 0)) 57 (fun _ => 0)) 58 (fun _ => 0)) 59 (fun _ => 0)) 60 (fun _ => 0)) 95) (wdM_s (by decide)) ?_
  refine x_dupr 616 rfl dX11_init_615 ?_
  refine x_bipush 618 rfl dX11_init_616 (by decide) ?_
  refine x_bipush 620 rfl dX11_init_618 (by decide) ?_
  refine x_bast 621 rfl dX11_init_620 (by omega) z_sup_eq (by omega) (by omega) ?_
  refine z_mem (M' := wdM (z_mup (z_mup (z_mup (z_mup (z_mup M 56 (fun _ => 0)) 57 (fun _ => 0)) 58 (fun _ => 0)) 59 (fun _ => 0)) 60 (fun _ => 0)) 96) (wdM_s (by decide)) ?_
  refine x_dupr 622 rfl dX11_init_621 ?_
  refine x_bipush 624 rfl dX11_init_622 (by decide) ?_
  refine x_bipush 626 rfl dX11_init_624 (by decide) ?_
  refine x_bast 627 rfl dX11_init_626 (by omega) z_sup_eq (by omega) (by omega) ?_
  refine z_mem (M' := wdM (z_mup (z_mup (z_mup (z_mup (z_mup M 56 (fun _ => 0)) 57 (fun _ => 0)) 58 (fun _ => 0)) 59 (fun _ => 0)) 60 (fun _ => 0)) 97) (wdM_s (by decide)) ?_
  refine x_dupr 628 rfl dX11_init_627 ?_
  refine x_bipush 630 rfl dX11_init_628 (by decide) ?_
  refine x_bipush 632 rfl dX11_init_630 (by decide) ?_
  refine x_bast 633 rfl dX11_init_632 (by omega) z_sup_eq (by omega) (by omega) ?_
  refine z_mem (M' := wdM (z_mup (z_mup (z_mup (z_mup (z_mup M 56 (fun _ => 0)) 57 (fun _ => 0)) 58 (fun _ => 0)) 59 (fun _ => 0)) 60 (fun _ => 0)) 98) (wdM_s (by decide)) ?_
  refine x_dupr 634 rfl dX11_init_633 ?_
  refine x_bipush 636 rfl dX11_init_634 (by decide) ?_
  refine x_bipush 638 rfl dX11_init_636 (by decide) ?_
  refine x_bast 639 rfl dX11_init_638 (by omega) z_sup_eq (by omega) (by omega) ?_
  refine z_mem (M' := wdM (z_mup (z_mup (z_mup (z_mup (z_mup M 56 (fun _ => 0)) 57 (fun _ => 0)) 58 (fun _ => 0)) 59 (fun _ => 0)) 60 (fun _ => 0)) 99) (wdM_s (by decide)) ?_
  refine x_dupr 640 rfl dX11_init_639 ?_
  refine x_bipush 642 rfl dX11_init_640 (by decide) ?_
  refine x_bipush 644 rfl dX11_init_642 (by decide) ?_
  refine x_bast 645 rfl dX11_init_644 (by omega) z_sup_eq (by omega) (by omega) ?_
  refine z_mem (M' := wdM (z_mup (z_mup (z_mup (z_mup (z_mup M 56 (fun _ => 0)) 57 (fun _ => 0)) 58 (fun _ => 0)) 59 (fun _ => 0)) 60 (fun _ => 0)) 100) (wdM_s (by decide)) ?_
  refine x_dupr 646 rfl dX11_init_645 ?_
  refine x_bipush 648 rfl dX11_init_646 (by decide) ?_
  refine x_bipush 650 rfl dX11_init_648 (by decide) ?_
  refine x_bast 651 rfl dX11_init_650 (by omega) z_sup_eq (by omega) (by omega) ?_
  refine z_mem (M' := wdM (z_mup (z_mup (z_mup (z_mup (z_mup M 56 (fun _ => 0)) 57 (fun _ => 0)) 58 (fun _ => 0)) 59 (fun _ => 0)) 60 (fun _ => 0)) 101) (wdM_s (by decide)) ?_
  refine x_dupr 652 rfl dX11_init_651 ?_
  refine x_bipush 654 rfl dX11_init_652 (by decide) ?_
  refine x_bipush 656 rfl dX11_init_654 (by decide) ?_
  refine x_bast 657 rfl dX11_init_656 (by omega) z_sup_eq (by omega) (by omega) ?_
  refine z_mem (M' := wdM (z_mup (z_mup (z_mup (z_mup (z_mup M 56 (fun _ => 0)) 57 (fun _ => 0)) 58 (fun _ => 0)) 59 (fun _ => 0)) 60 (fun _ => 0)) 102) (wdM_s (by decide)) ?_
  refine x_dupr 658 rfl dX11_init_657 ?_
  refine x_bipush 660 rfl dX11_init_658 (by decide) ?_
  refine x_bipush 662 rfl dX11_init_660 (by decide) ?_
  refine x_bast 663 rfl dX11_init_662 (by omega) z_sup_eq (by omega) (by omega) ?_
  refine z_mem (M' := wdM (z_mup (z_mup (z_mup (z_mup (z_mup M 56 (fun _ => 0)) 57 (fun _ => 0)) 58 (fun _ => 0)) 59 (fun _ => 0)) 60 (fun _ => 0)) 103) (wdM_s (by decide)) ?_
  refine x_dupr 664 rfl dX11_init_663 ?_
  refine x_bipush 666 rfl dX11_init_664 (by decide) ?_
  refine x_bipush 668 rfl dX11_init_666 (by decide) ?_
  refine x_bast 669 rfl dX11_init_668 (by omega) z_sup_eq (by omega) (by omega) ?_
  refine z_mem (M' := wdM (z_mup (z_mup (z_mup (z_mup (z_mup M 56 (fun _ => 0)) 57 (fun _ => 0)) 58 (fun _ => 0)) 59 (fun _ => 0)) 60 (fun _ => 0)) 104) (wdM_s (by decide)) ?_
  refine x_dupr 670 rfl dX11_init_669 ?_
  refine x_bipush 672 rfl dX11_init_670 (by decide) ?_
  refine x_bipush 674 rfl dX11_init_672 (by decide) ?_
  refine x_bast 675 rfl dX11_init_674 (by omega) z_sup_eq (by omega) (by omega) ?_
  refine z_mem (M' := wdM (z_mup (z_mup (z_mup (z_mup (z_mup M 56 (fun _ => 0)) 57 (fun _ => 0)) 58 (fun _ => 0)) 59 (fun _ => 0)) 60 (fun _ => 0)) 105) (wdM_s (by decide)) ?_
  refine x_dupr 676 rfl dX11_init_675 ?_
  refine x_bipush 678 rfl dX11_init_676 (by decide) ?_
  refine x_bipush 680 rfl dX11_init_678 (by decide) ?_
  refine x_bast 681 rfl dX11_init_680 (by omega) z_sup_eq (by omega) (by omega) ?_
  refine z_mem (M' := wdM (z_mup (z_mup (z_mup (z_mup (z_mup M 56 (fun _ => 0)) 57 (fun _ => 0)) 58 (fun _ => 0)) 59 (fun _ => 0)) 60 (fun _ => 0)) 106) (wdM_s (by decide)) ?_
  refine x_dupr 682 rfl dX11_init_681 ?_
  refine x_bipush 684 rfl dX11_init_682 (by decide) ?_
  refine x_bipush 686 rfl dX11_init_684 (by decide) ?_
  refine x_bast 687 rfl dX11_init_686 (by omega) z_sup_eq (by omega) (by omega) ?_
  refine z_mem (M' := wdM (z_mup (z_mup (z_mup (z_mup (z_mup M 56 (fun _ => 0)) 57 (fun _ => 0)) 58 (fun _ => 0)) 59 (fun _ => 0)) 60 (fun _ => 0)) 107) (wdM_s (by decide)) ?_
  refine x_dupr 688 rfl dX11_init_687 ?_
  refine x_bipush 690 rfl dX11_init_688 (by decide) ?_
  refine x_bipush 692 rfl dX11_init_690 (by decide) ?_
  refine x_bast 693 rfl dX11_init_692 (by omega) z_sup_eq (by omega) (by omega) ?_
  refine z_mem (M' := wdM (z_mup (z_mup (z_mup (z_mup (z_mup M 56 (fun _ => 0)) 57 (fun _ => 0)) 58 (fun _ => 0)) 59 (fun _ => 0)) 60 (fun _ => 0)) 108) (wdM_s (by decide)) ?_
  refine x_dupr 694 rfl dX11_init_693 ?_
  refine x_bipush 696 rfl dX11_init_694 (by decide) ?_
  refine x_bipush 698 rfl dX11_init_696 (by decide) ?_
  refine x_bast 699 rfl dX11_init_698 (by omega) z_sup_eq (by omega) (by omega) ?_
  refine z_mem (M' := wdM (z_mup (z_mup (z_mup (z_mup (z_mup M 56 (fun _ => 0)) 57 (fun _ => 0)) 58 (fun _ => 0)) 59 (fun _ => 0)) 60 (fun _ => 0)) 109) (wdM_s (by decide)) ?_
  refine x_dupr 700 rfl dX11_init_699 ?_
  refine x_bipush 702 rfl dX11_init_700 (by decide) ?_
  refine x_bipush 704 rfl dX11_init_702 (by decide) ?_
  refine x_bast 705 rfl dX11_init_704 (by omega) z_sup_eq (by omega) (by omega) ?_
  refine z_mem (M' := wdM (z_mup (z_mup (z_mup (z_mup (z_mup M 56 (fun _ => 0)) 57 (fun _ => 0)) 58 (fun _ => 0)) 59 (fun _ => 0)) 60 (fun _ => 0)) 110) (wdM_s (by decide)) ?_
  refine x_dupr 706 rfl dX11_init_705 ?_
  refine x_bipush 708 rfl dX11_init_706 (by decide) ?_
  refine x_bipush 710 rfl dX11_init_708 (by decide) ?_
  refine x_bast 711 rfl dX11_init_710 (by omega) z_sup_eq (by omega) (by omega) ?_
  refine z_mem (M' := wdM (z_mup (z_mup (z_mup (z_mup (z_mup M 56 (fun _ => 0)) 57 (fun _ => 0)) 58 (fun _ => 0)) 59 (fun _ => 0)) 60 (fun _ => 0)) 111) (wdM_s (by decide)) ?_
  refine x_dupr 712 rfl dX11_init_711 ?_
  refine x_bipush 714 rfl dX11_init_712 (by decide) ?_
  refine x_bipush 716 rfl dX11_init_714 (by decide) ?_
  refine x_bast 717 rfl dX11_init_716 (by omega) z_sup_eq (by omega) (by omega) ?_
  refine z_mem (M' := wdM (z_mup (z_mup (z_mup (z_mup (z_mup M 56 (fun _ => 0)) 57 (fun _ => 0)) 58 (fun _ => 0)) 59 (fun _ => 0)) 60 (fun _ => 0)) 112) (wdM_s (by decide)) ?_
  refine x_dupr 718 rfl dX11_init_717 ?_
  refine x_bipush 720 rfl dX11_init_718 (by decide) ?_
  refine x_bipush 722 rfl dX11_init_720 (by decide) ?_
  refine x_bast 723 rfl dX11_init_722 (by omega) z_sup_eq (by omega) (by omega) ?_
  refine z_mem (M' := wdM (z_mup (z_mup (z_mup (z_mup (z_mup M 56 (fun _ => 0)) 57 (fun _ => 0)) 58 (fun _ => 0)) 59 (fun _ => 0)) 60 (fun _ => 0)) 113) (wdM_s (by decide)) ?_
  refine x_dupr 724 rfl dX11_init_723 ?_
  refine x_bipush 726 rfl dX11_init_724 (by decide) ?_
  refine x_bipush 728 rfl dX11_init_726 (by decide) ?_
  refine x_bast 729 rfl dX11_init_728 (by omega) z_sup_eq (by omega) (by omega) ?_
  refine z_mem (M' := wdM (z_mup (z_mup (z_mup (z_mup (z_mup M 56 (fun _ => 0)) 57 (fun _ => 0)) 58 (fun _ => 0)) 59 (fun _ => 0)) 60 (fun _ => 0)) 114) (wdM_s (by decide)) ?_
  refine x_dupr 730 rfl dX11_init_729 ?_
  refine x_bipush 732 rfl dX11_init_730 (by decide) ?_
  refine x_bipush 734 rfl dX11_init_732 (by decide) ?_
  refine x_bast 735 rfl dX11_init_734 (by omega) z_sup_eq (by omega) (by omega) ?_
  refine z_mem (M' := wdM (z_mup (z_mup (z_mup (z_mup (z_mup M 56 (fun _ => 0)) 57 (fun _ => 0)) 58 (fun _ => 0)) 59 (fun _ => 0)) 60 (fun _ => 0)) 115) (wdM_s (by decide)) ?_
  refine x_dupr 736 rfl dX11_init_735 ?_
  refine x_bipush 738 rfl dX11_init_736 (by decide) ?_
  refine x_bipush 740 rfl dX11_init_738 (by decide) ?_
  refine x_bast 741 rfl dX11_init_740 (by omega) z_sup_eq (by omega) (by omega) ?_
  refine z_mem (M' := wdM (z_mup (z_mup (z_mup (z_mup (z_mup M 56 (fun _ => 0)) 57 (fun _ => 0)) 58 (fun _ => 0)) 59 (fun _ => 0)) 60 (fun _ => 0)) 116) (wdM_s (by decide)) ?_
  refine x_dupr 742 rfl dX11_init_741 ?_
  refine x_bipush 744 rfl dX11_init_742 (by decide) ?_
  refine x_bipush 746 rfl dX11_init_744 (by decide) ?_
  refine x_bast 747 rfl dX11_init_746 (by omega) z_sup_eq (by omega) (by omega) ?_
  refine z_mem (M' := wdM (z_mup (z_mup (z_mup (z_mup (z_mup M 56 (fun _ => 0)) 57 (fun _ => 0)) 58 (fun _ => 0)) 59 (fun _ => 0)) 60 (fun _ => 0)) 117) (wdM_s (by decide)) ?_
  refine x_dupr 748 rfl dX11_init_747 ?_
  refine x_bipush 750 rfl dX11_init_748 (by decide) ?_
  refine x_bipush 752 rfl dX11_init_750 (by decide) ?_
  refine x_bast 753 rfl dX11_init_752 (by omega) z_sup_eq (by omega) (by omega) ?_
  refine z_mem (M' := wdM (z_mup (z_mup (z_mup (z_mup (z_mup M 56 (fun _ => 0)) 57 (fun _ => 0)) 58 (fun _ => 0)) 59 (fun _ => 0)) 60 (fun _ => 0)) 118) (wdM_s (by decide)) ?_
  refine x_dupr 754 rfl dX11_init_753 ?_
  refine x_bipush 756 rfl dX11_init_754 (by decide) ?_
  refine x_bipush 758 rfl dX11_init_756 (by decide) ?_
  refine x_bast 759 rfl dX11_init_758 (by omega) z_sup_eq (by omega) (by omega) ?_
  refine z_mem (M' := wdM (z_mup (z_mup (z_mup (z_mup (z_mup M 56 (fun _ => 0)) 57 (fun _ => 0)) 58 (fun _ => 0)) 59 (fun _ => 0)) 60 (fun _ => 0)) 119) (wdM_s (by decide)) ?_
  refine x_dupr 760 rfl dX11_init_759 ?_
  refine x_bipush 762 rfl dX11_init_760 (by decide) ?_
  refine x_bipush 764 rfl dX11_init_762 (by decide) ?_
  refine x_bast 765 rfl dX11_init_764 (by omega) z_sup_eq (by omega) (by omega) ?_
  refine z_mem (M' := wdM (z_mup (z_mup (z_mup (z_mup (z_mup M 56 (fun _ => 0)) 57 (fun _ => 0)) 58 (fun _ => 0)) 59 (fun _ => 0)) 60 (fun _ => 0)) 120) (wdM_s (by decide)) ?_
  refine x_dupr 766 rfl dX11_init_765 ?_
  refine x_bipush 768 rfl dX11_init_766 (by decide) ?_
  refine x_bipush 770 rfl dX11_init_768 (by decide) ?_
  refine x_bast 771 rfl dX11_init_770 (by omega) z_sup_eq (by omega) (by omega) ?_
  refine z_mem (M' := wdM (z_mup (z_mup (z_mup (z_mup (z_mup M 56 (fun _ => 0)) 57 (fun _ => 0)) 58 (fun _ => 0)) 59 (fun _ => 0)) 60 (fun _ => 0)) 121) (wdM_s (by decide)) ?_
  refine x_dupr 772 rfl dX11_init_771 ?_
  refine x_bipush 774 rfl dX11_init_772 (by decide) ?_
  refine x_bipush 776 rfl dX11_init_774 (by decide) ?_
  refine x_bast 777 rfl dX11_init_776 (by omega) z_sup_eq (by omega) (by omega) ?_
  refine z_mem (M' := wdM (z_mup (z_mup (z_mup (z_mup (z_mup M 56 (fun _ => 0)) 57 (fun _ => 0)) 58 (fun _ => 0)) 59 (fun _ => 0)) 60 (fun _ => 0)) 122) (wdM_s (by decide)) ?_
  refine x_dupr 778 rfl dX11_init_777 ?_
  refine x_bipush 780 rfl dX11_init_778 (by decide) ?_
  refine x_bipush 782 rfl dX11_init_780 (by decide) ?_
  refine x_bast 783 rfl dX11_init_782 (by omega) z_sup_eq (by omega) (by omega) ?_
  refine z_mem (M' := wdM (z_mup (z_mup (z_mup (z_mup (z_mup M 56 (fun _ => 0)) 57 (fun _ => 0)) 58 (fun _ => 0)) 59 (fun _ => 0)) 60 (fun _ => 0)) 123) (wdM_s (by decide)) ?_
  refine x_dupr 784 rfl dX11_init_783 ?_
  refine x_bipush 786 rfl dX11_init_784 (by decide) ?_
  refine x_bipush 788 rfl dX11_init_786 (by decide) ?_
  refine x_bast 789 rfl dX11_init_788 (by omega) z_sup_eq (by omega) (by omega) ?_
  refine z_mem (M' := wdM (z_mup (z_mup (z_mup (z_mup (z_mup M 56 (fun _ => 0)) 57 (fun _ => 0)) 58 (fun _ => 0)) 59 (fun _ => 0)) 60 (fun _ => 0)) 124) (wdM_s (by decide)) ?_
  refine x_dupr 790 rfl dX11_init_789 ?_
  refine x_bipush 792 rfl dX11_init_790 (by decide) ?_
  refine x_bipush 794 rfl dX11_init_792 (by decide) ?_
  refine x_bast 795 rfl dX11_init_794 (by omega) z_sup_eq (by omega) (by omega) ?_
  refine z_mem (M' := wdM (z_mup (z_mup (z_mup (z_mup (z_mup M 56 (fun _ => 0)) 57 (fun _ => 0)) 58 (fun _ => 0)) 59 (fun _ => 0)) 60 (fun _ => 0)) 125) (wdM_s (by decide)) ?_
  refine x_dupr 796 rfl dX11_init_795 ?_
  refine x_bipush 798 rfl dX11_init_796 (by decide) ?_
  refine x_bipush 800 rfl dX11_init_798 (by decide) ?_
  refine x_bast 801 rfl dX11_init_800 (by omega) z_sup_eq (by omega) (by omega) ?_
  refine z_mem (M' := wdM (z_mup (z_mup (z_mup (z_mup (z_mup M 56 (fun _ => 0)) 57 (fun _ => 0)) 58 (fun _ => 0)) 59 (fun _ => 0)) 60 (fun _ => 0)) 126) (wdM_s (by decide)) ?_
  refine x_dupr 802 rfl dX11_init_801 ?_
  refine x_bipush 804 rfl dX11_init_802 (by decide) ?_
  refine x_bipush 806 rfl dX11_init_804 (by decide) ?_
  refine x_bast 807 rfl dX11_init_806 (by omega) z_sup_eq (by omega) (by omega) ?_
  refine z_mem (M' := wdM (z_mup (z_mup (z_mup (z_mup (z_mup M 56 (fun _ => 0)) 57 (fun _ => 0)) 58 (fun _ => 0)) 59 (fun _ => 0)) 60 (fun _ => 0)) 127) (wdM_s (by decide)) ?_
  refine x_dupr 808 rfl dX11_init_807 ?_
  refine x_bipush 810 rfl dX11_init_808 (by decide) ?_
  refine x_bipush 812 rfl dX11_init_810 (by decide) ?_
  refine x_bast 813 rfl dX11_init_812 (by omega) z_sup_eq (by omega) (by omega) ?_
  refine z_mem (M' := wdM (z_mup (z_mup (z_mup (z_mup (z_mup M 56 (fun _ => 0)) 57 (fun _ => 0)) 58 (fun _ => 0)) 59 (fun _ => 0)) 60 (fun _ => 0)) 128) (wdM_s (by decide)) ?_
  refine x_dupr 814 rfl dX11_init_813 ?_
  refine x_sipush 817 rfl dX11_init_814 (by decide) ?_
  refine x_bipush 819 rfl dX11_init_817 (by decide) ?_
  refine x_bast 820 rfl dX11_init_819 (by omega) z_sup_eq (by omega) (by omega) ?_
  refine z_mem (M' := wdM (z_mup (z_mup (z_mup (z_mup (z_mup M 56 (fun _ => 0)) 57 (fun _ => 0)) 58 (fun _ => 0)) 59 (fun _ => 0)) 60 (fun _ => 0)) 129) (wdM_s (by decide)) ?_
  refine x_dupr 821 rfl dX11_init_820 ?_
  refine x_sipush 824 rfl dX11_init_821 (by decide) ?_
  refine x_bipush 826 rfl dX11_init_824 (by decide) ?_
  refine x_bast 827 rfl dX11_init_826 (by omega) z_sup_eq (by omega) (by omega) ?_
  refine z_mem (M' := wdM (z_mup (z_mup (z_mup (z_mup (z_mup M 56 (fun _ => 0)) 57 (fun _ => 0)) 58 (fun _ => 0)) 59 (fun _ => 0)) 60 (fun _ => 0)) 130) (wdM_s (by decide)) ?_
  refine x_dupr 828 rfl dX11_init_827 ?_
  refine x_sipush 831 rfl dX11_init_828 (by decide) ?_
  refine x_bipush 833 rfl dX11_init_831 (by decide) ?_
  refine x_bast 834 rfl dX11_init_833 (by omega) z_sup_eq (by omega) (by omega) ?_
  refine z_mem (M' := wdM (z_mup (z_mup (z_mup (z_mup (z_mup M 56 (fun _ => 0)) 57 (fun _ => 0)) 58 (fun _ => 0)) 59 (fun _ => 0)) 60 (fun _ => 0)) 131) (wdM_s (by decide)) ?_
  refine x_dupr 835 rfl dX11_init_834 ?_
  refine x_sipush 838 rfl dX11_init_835 (by decide) ?_
  refine x_bipush 840 rfl dX11_init_838 (by decide) ?_
  refine x_bast 841 rfl dX11_init_840 (by omega) z_sup_eq (by omega) (by omega) ?_
  refine z_mem (M' := wdM (z_mup (z_mup (z_mup (z_mup (z_mup M 56 (fun _ => 0)) 57 (fun _ => 0)) 58 (fun _ => 0)) 59 (fun _ => 0)) 60 (fun _ => 0)) 132) (wdM_s (by decide)) ?_
  refine x_dupr 842 rfl dX11_init_841 ?_
  refine x_sipush 845 rfl dX11_init_842 (by decide) ?_
  refine x_bipush 847 rfl dX11_init_845 (by decide) ?_
  refine x_bast 848 rfl dX11_init_847 (by omega) z_sup_eq (by omega) (by omega) ?_
  refine z_mem (M' := wdM (z_mup (z_mup (z_mup (z_mup (z_mup M 56 (fun _ => 0)) 57 (fun _ => 0)) 58 (fun _ => 0)) 59 (fun _ => 0)) 60 (fun _ => 0)) 133) (wdM_s (by decide)) ?_
  refine x_dupr 849 rfl dX11_init_848 ?_
  refine x_sipush 852 rfl dX11_init_849 (by decide) ?_
  refine x_bipush 854 rfl dX11_init_852 (by decide) ?_
  refine x_bast 855 rfl dX11_init_854 (by omega) z_sup_eq (by omega) (by omega) ?_
  refine z_mem (M' := wdM (z_mup (z_mup (z_mup (z_mup (z_mup M 56 (fun _ => 0)) 57 (fun _ => 0)) 58 (fun _ => 0)) 59 (fun _ => 0)) 60 (fun _ => 0)) 134) (wdM_s (by decide)) ?_
  refine x_dupr 856 rfl dX11_init_855 ?_
  refine x_sipush 859 rfl dX11_init_856 (by decide) ?_
  refine x_bipush 861 rfl dX11_init_859 (by decide) ?_
  refine x_bast 862 rfl dX11_init_861 (by omega) z_sup_eq (by omega) (by omega) ?_
  refine z_mem (M' := wdM (z_mup (z_mup (z_mup (z_mup (z_mup M 56 (fun _ => 0)) 57 (fun _ => 0)) 58 (fun _ => 0)) 59 (fun _ => 0)) 60 (fun _ => 0)) 135) (wdM_s (by decide)) ?_
  refine x_dupr 863 rfl dX11_init_862 ?_
  refine x_sipush 866 rfl dX11_init_863 (by decide) ?_
  refine x_bipush 868 rfl dX11_init_866 (by decide) ?_
  refine x_bast 869 rfl dX11_init_868 (by omega) z_sup_eq (by omega) (by omega) ?_
  refine z_mem (M' := wdM (z_mup (z_mup (z_mup (z_mup (z_mup M 56 (fun _ => 0)) 57 (fun _ => 0)) 58 (fun _ => 0)) 59 (fun _ => 0)) 60 (fun _ => 0)) 136) (wdM_s (by decide)) ?_
  refine x_dupr 870 rfl dX11_init_869 ?_
  refine x_sipush 873 rfl dX11_init_870 (by decide) ?_
  refine x_bipush 875 rfl dX11_init_873 (by decide) ?_
  refine x_bast 876 rfl dX11_init_875 (by omega) z_sup_eq (by omega) (by omega) ?_
  refine z_mem (M' := wdM (z_mup (z_mup (z_mup (z_mup (z_mup M 56 (fun _ => 0)) 57 (fun _ => 0)) 58 (fun _ => 0)) 59 (fun _ => 0)) 60 (fun _ => 0)) 137) (wdM_s (by decide)) ?_
  refine x_dupr 877 rfl dX11_init_876 ?_
  refine x_sipush 880 rfl dX11_init_877 (by decide) ?_
  refine x_bipush 882 rfl dX11_init_880 (by decide) ?_
  refine x_bast 883 rfl dX11_init_882 (by omega) z_sup_eq (by omega) (by omega) ?_
  refine z_mem (M' := wdM (z_mup (z_mup (z_mup (z_mup (z_mup M 56 (fun _ => 0)) 57 (fun _ => 0)) 58 (fun _ => 0)) 59 (fun _ => 0)) 60 (fun _ => 0)) 138) (wdM_s (by decide)) ?_
  refine x_dupr 884 rfl dX11_init_883 ?_
  refine x_sipush 887 rfl dX11_init_884 (by decide) ?_
  refine x_bipush 889 rfl dX11_init_887 (by decide) ?_
  refine x_bast 890 rfl dX11_init_889 (by omega) z_sup_eq (by omega) (by omega) ?_
  refine z_mem (M' := wdM (z_mup (z_mup (z_mup (z_mup (z_mup M 56 (fun _ => 0)) 57 (fun _ => 0)) 58 (fun _ => 0)) 59 (fun _ => 0)) 60 (fun _ => 0)) 139) (wdM_s (by decide)) ?_
  refine x_dupr 891 rfl dX11_init_890 ?_
  refine x_sipush 894 rfl dX11_init_891 (by decide) ?_
  refine x_bipush 896 rfl dX11_init_894 (by decide) ?_
  refine x_bast 897 rfl dX11_init_896 (by omega) z_sup_eq (by omega) (by omega) ?_
  refine z_mem (M' := wdM (z_mup (z_mup (z_mup (z_mup (z_mup M 56 (fun _ => 0)) 57 (fun _ => 0)) 58 (fun _ => 0)) 59 (fun _ => 0)) 60 (fun _ => 0)) 140) (wdM_s (by decide)) ?_
  refine x_dupr 898 rfl dX11_init_897 ?_
  refine x_sipush 901 rfl dX11_init_898 (by decide) ?_
  refine x_bipush 903 rfl dX11_init_901 (by decide) ?_
  refine x_bast 904 rfl dX11_init_903 (by omega) z_sup_eq (by omega) (by omega) ?_
  refine z_mem (M' := wdM (z_mup (z_mup (z_mup (z_mup (z_mup M 56 (fun _ => 0)) 57 (fun _ => 0)) 58 (fun _ => 0)) 59 (fun _ => 0)) 60 (fun _ => 0)) 141) (wdM_s (by decide)) ?_
  refine x_putf 907 rfl ffX11_37 rfl dX11_init_904 (by omega) (z_sup_at (by omega) z_sup_eq) (by decide) ?_
  refine x_aload_n 908 rfl dX11_init_907 0 rfl rfl ?_
  refine x_sipush 911 rfl dX11_init_908 (by decide) ?_
  refine x_newaB (sz := 62) 913 rfl wa_byte dX11_init_911 400 rfl (by decide) ?_
  refine x_putf 916 rfl ffX11_41 rfl dX11_init_913 (by omega) (z_sup_at (by omega) z_sup_eq) (by decide) ?_
  refine x_aload_n 917 rfl dX11_init_916 0 rfl rfl ?_
  refine x_iconst 918 rfl dX11_init_917 (by decide) ?_
  refine x_newaI (sz := 63) 920 rfl wa_int dX11_init_918 5 rfl (by decide) ?_
  refine x_putf 923 rfl ffX11_44 rfl dX11_init_920 (by omega) (z_sup_at (by omega) z_sup_eq) (by decide) ?_
  refine x_aload_n 924 rfl dX11_init_923 0 rfl rfl ?_
  refine x_iconst 925 rfl dX11_init_924 (by decide) ?_
  refine x_puti 928 rfl fX11_47 dX11_init_925 (by omega) z_sup_eq (by decide) ?_
  refine x_aload_n 929 rfl dX11_init_928 0 rfl rfl ?_
  refine x_sipush 932 rfl dX11_init_929 (by decide) ?_
  refine x_newaI (sz := 64) 934 rfl wa_int dX11_init_932 401 rfl (by decide) ?_
  refine x_putf 937 rfl ffX11_50 rfl dX11_init_934 (by omega) (z_sup_at (by omega) z_sup_eq) (by decide) ?_
  refine x_aload_n 938 rfl dX11_init_937 0 rfl rfl ?_
  refine x_sipush 941 rfl dX11_init_938 (by decide) ?_
  refine x_newaI (sz := 65) 943 rfl wa_int dX11_init_941 401 rfl (by decide) ?_
  refine x_putf 946 rfl ffX11_53 rfl dX11_init_943 (by omega) (z_sup_at (by omega) z_sup_eq) (by decide) ?_
  refine x_aload_n 947 rfl dX11_init_946 0 rfl rfl ?_
  refine x_sipush 950 rfl dX11_init_947 (by decide) ?_
  refine x_newaI (sz := 66) 952 rfl wa_int dX11_init_950 401 rfl (by decide) ?_
  refine x_putf 955 rfl ffX11_56 rfl dX11_init_952 (by omega) (z_sup_at (by omega) z_sup_eq) (by decide) ?_
  refine x_aload_n 956 rfl dX11_init_955 0 rfl rfl ?_
  refine x_bipush 958 rfl dX11_init_956 (by decide) ?_
  refine x_newaI (sz := 67) 960 rfl wa_int dX11_init_958 10 rfl (by decide) ?_
  refine x_putf 963 rfl ffX11_59 rfl dX11_init_960 (by omega) (z_sup_at (by omega) z_sup_eq) (by decide) ?_
  refine x_aload_n 964 rfl dX11_init_963 0 rfl rfl ?_
  refine x_bipush 966 rfl dX11_init_964 (by decide) ?_
  refine x_newaI (sz := 68) 968 rfl wa_int dX11_init_966 8 rfl (by decide) ?_
  refine x_putf 971 rfl ffX11_62 rfl dX11_init_968 (by omega) (z_sup_at (by omega) z_sup_eq) (by decide) ?_
  refine x_aload_n 972 rfl dX11_init_971 0 rfl rfl ?_
  refine x_sipush 975 rfl dX11_init_972 (by decide) ?_
  refine x_newaI (sz := 69) 977 rfl wa_int dX11_init_975 384 rfl (by decide) ?_
  refine x_putf 980 rfl ffX11_65 rfl dX11_init_977 (by omega) (z_sup_at (by omega) z_sup_eq) (by decide) ?_
  refine x_aload_n 981 rfl dX11_init_980 0 rfl rfl ?_
  refine x_sipush 984 rfl dX11_init_981 (by decide) ?_
  refine x_newaI (sz := 70) 986 rfl wa_int dX11_init_984 384 rfl (by decide) ?_
  refine x_putf 989 rfl ffX11_68 rfl dX11_init_986 (by omega) (z_sup_at (by omega) z_sup_eq) (by decide) ?_
  refine x_aload_n 990 rfl dX11_init_989 0 rfl rfl ?_
  refine x_sipush 993 rfl dX11_init_990 (by decide) ?_
  refine x_newaJ (sz := 71) 995 rfl wa_long dX11_init_993 2000 rfl (by decide) ?_
  refine x_putf 998 rfl ffX11_71 rfl dX11_init_995 (by omega) (z_sup_at (by omega) z_sup_eq) (by decide) ?_
  refine x_aload_n 999 rfl dX11_init_998 0 rfl rfl ?_
  refine x_iconst 1000 rfl dX11_init_999 (by decide) ?_
  refine x_newaI (sz := 72) 1002 rfl wa_int dX11_init_1000 4 rfl (by decide) ?_
  refine x_putf 1005 rfl ffX11_75 rfl dX11_init_1002 (by omega) (z_sup_at (by omega) z_sup_eq) (by decide) ?_
  refine x_aload_n 1006 rfl dX11_init_1005 0 rfl rfl ?_
  refine x_iconst 1007 rfl dX11_init_1006 (by decide) ?_
  refine x_puti 1010 rfl fX11_78 dX11_init_1007 (by omega) z_sup_eq (by decide) ?_
  refine x_aload_n 1011 rfl dX11_init_1010 0 rfl rfl ?_
  refine x_iconst 1012 rfl dX11_init_1011 (by decide) ?_
  refine x_newaJ (sz := 73) 1014 rfl wa_long dX11_init_1012 2 rfl (by decide) ?_
  refine x_putf 1017 rfl ffX11_81 rfl dX11_init_1014 (by omega) (z_sup_at (by omega) z_sup_eq) (by decide) ?_
  refine x_aload_n 1018 rfl dX11_init_1017 0 rfl rfl ?_
  refine x_bipush 1020 rfl dX11_init_1018 (by decide) ?_
  refine x_newaI (sz := 74) 1022 rfl wa_int dX11_init_1020 23 rfl (by decide) ?_
  refine x_putf 1025 rfl ffX11_84 rfl dX11_init_1022 (by omega) (z_sup_at (by omega) z_sup_eq) (by decide) ?_
  refine x_aload_n 1026 rfl dX11_init_1025 0 rfl rfl ?_
  refine x_iconst 1027 rfl dX11_init_1026 (by decide) ?_
  refine x_puti 1030 rfl fX11_87 dX11_init_1027 (by omega) z_sup_eq (by decide) ?_
  refine x_iconst 1031 rfl dX11_init_1030 (by decide) ?_
  refine y_istore_n 1032 rfl dX11_init_1031 rfl rfl (ls' := [_, _]) rfl (by decide) ?_
  refine z_shp (fun S9 h9 => ?_)
  have hL : LY S9 75 := by
    refine ⟨Nat.le_refl _, fun i hi => ?_⟩
    rw [h9]
    rcases Nat.lt_or_ge i 55 with h2 | h2
    · repeat refine z_sup_at (by omega) ?_
      exact hLy i h2
    · have h3 : i = 55 ∨ i = 56 ∨ i = 57 ∨ i = 58 ∨ i = 59 ∨ i = 60 ∨ i = 61 ∨ i = 62 ∨ i = 63 ∨ i = 64 ∨ i = 65 ∨ i = 66 ∨ i = 67 ∨ i = 68 ∨ i = 69 ∨ i = 70 ∨ i = 71 ∨ i = 72 ∨ i = 73 ∨ i = 74 := by omega
      rcases h3 with rfl | rfl | rfl | rfl | rfl | rfl | rfl | rfl | rfl | rfl | rfl | rfl | rfl | rfl | rfl | rfl | rfl | rfl | rfl | rfl
      · refine congrArg (fun f => ((11, 46, f) : Nat × Nat × (Nat → Int))) ?_
        funext j
        rcases j with _ | _ | _ | _ | _ | _ | _ | _ | _ | _ | _ | _ | _ | _ | _ | _ | _ | _ | _ | _ | _ | _ | _ | _ | _ | _ | _ | _ | _ | _ | _ | _ | _ | _ | _ | _ | _ | _ | _ | _ | _ | _ | _ | j
        all_goals first | rfl | (simp [mdF]; done)
      all_goals rfl
  clear h9
  refine z_mem (M' := (z_mup (mdM1 M) 57 (fun j => if 51 ≤ j ∧ j < 51 + 0 then 10 else 0))) ?_ (loop S9 hL 7 0 (by omega) (by omega))
  funext a j
  by_cases h1 : a = 57
  · subst h1
    rw [z_mup_eq, if_neg (by omega)]
    rfl
  · rw [z_mup_ne h1]
    rfl
