/-! constructors -/
theorem z_sup_eq {S : zSh} {a : Nat} {v : Nat × Nat × (Nat → Int)} : z_sup S a v a = v := by simp [z_sup]
theorem z_sup_at {S : zSh} {a i : Nat} {v w : Nat × Nat × (Nat → Int)} (h : i ≠ a) (hv : S i = v) : z_sup S a w i = v := by rw [z_sup_ne h]; exact hv
theorem zW_room {mt : zMt} {d kc ks kc' ks' : Nat} {sc : List Int} {Q : zQ} {pc : Nat} {ls : zLs} {st : List zV} {sz : Nat} {S : zSh} {M : zMem} (hk : kc' ≤ kc) (hs : ks' ≤ ks) (h : zW mt d kc' ks' sc Q pc ls st sz S M) : zW mt d kc ks sc Q pc ls st sz S M := by
  intro E D dA p l e R s m args below meth c QQ hE H locs cells slots lr hR hS hc hs2 ho hL
  exact h E D dA p l e R s m args below meth c QQ hE H locs cells slots lr hR hS (by omega) (by omega) ho hL
def shS (S : zSh) (a : Nat) : zSh := (z_sup (z_sup (z_sup (z_sup (z_sup (z_sup (z_sup (z_sup (z_sup (z_sup (z_sup S a (7, 18, shF a)) (a + 1) (20, 8, zN)) (a + 2) (20, 8, zN)) (a + 3) (20, 8, zN)) (a + 4) (20, 4, zN)) (a + 5) (20, 12, zN)) (a + 6) (20, 6, zN)) (a + 7) (20, 3, zN)) (a + 8) (20, 8, zN)) (a + 9) (20, 8, zN)) (a + 10) (25, 6, zN))
def shM (M : zMem) (a : Nat) : zMem := z_up (z_mup (z_mup (z_mup (z_up (z_up (z_up (z_mup (z_up (z_up (z_up (z_up (z_up (z_up (z_mup (z_mup (z_mup (z_mup (z_mup (z_mup M (a + 1) (fun _ => 0)) (a + 2) (fun _ => 0)) (a + 3) (fun _ => 0)) (a + 4) (fun _ => 0)) (a + 5) (fun _ => 0)) (a + 6) (fun _ => 0)) (a + 6) 0 10) (a + 6) 1 10) (a + 6) 2 10) (a + 6) 3 10) (a + 6) 4 10) (a + 6) 5 10) (a + 7) (fun _ => 0)) (a + 7) 0 0) (a + 7) 1 200) (a + 7) 2 0) (a + 8) (fun _ => 0)) (a + 9) (fun _ => 0)) (a + 10) (fun _ => -1)) a 17 (-1)
def lgS (S : zSh) (a : Nat) : zSh := (z_sup (z_sup (z_sup S a (2, 4, lgF a)) (a + 1) (20, 17, zN)) (a + 2) (20, 272, zN))
def mcS (S : zSh) (a : Nat) : zSh := (z_sup (z_sup S a (3, 1, mcF a)) (a + 1) (20, 64, zN))
def txS (S : zSh) (a nh nc : Nat) : zSh := (z_sup (z_sup (z_sup S a (9, 4, txF a)) (a + 1) (20, nh, zN)) (a + 2) (20, nc, zN))
/-- two chains of shapes -/
theorem z_sup_2 {S : zSh} {a b : Nat} {v w : Nat × Nat × (Nat → Int)} (h : a ≠ b) : z_sup (z_sup S a v) b w = z_sup (z_sup S b w) a v := by
  funext i
  unfold z_sup
  by_cases h1 : i = a
  · rw [if_neg (by omega), if_pos h1, if_pos h1]
  · rw [if_neg h1, if_neg h1]
theorem z_sup_1 {S : zSh} {a : Nat} {v w : Nat × Nat × (Nat → Int)} : z_sup (z_sup S a v) a w = z_sup S a w := by
  funext i
  unfold z_sup
  by_cases h1 : i = a
  · rw [if_pos h1, if_pos h1]
  · rw [if_neg h1, if_neg h1, if_neg h1]

set_option maxRecDepth 100000 in
set_option maxHeartbeats 4000000 in
theorem c_X7_init {d sz : Nat} {S : zSh} {M : zMem} {a : Nat} (hS : S a = (7, 18, fun _ => -1)) : zX (d + 1) 10 71 mX7_init [zn a] (a + 1) S M (fun v sz' S' M' => v = none ∧ sz' = a + 11 ∧ S' = shS S a ∧ M' = shM M a) := by
  refine zX_of pl_RX7 [some (zn a)] 0 rfl rfl ?_
  refine x_aload_n 1 rfl dX7_init_0 0 rfl rfl ?_
  refine x_objInit 4 rfl lX7_3 w_oi w_oc dX7_init_1 (Nat.le_of_ble_eq_true rfl) ?_
  refine x_aload_n 5 rfl dX7_init_4 0 rfl rfl ?_
  refine x_bipush 7 rfl dX7_init_5 (by decide) ?_
  refine x_newaI (sz := a + 1) 9 rfl wa_int dX7_init_7 8 rfl (by decide) ?_
  refine x_putf 12 rfl ffX7_9 rfl dX7_init_9 (by omega) (z_sup_at (by omega) hS) (by decide) ?_
  refine x_aload_n 13 rfl dX7_init_12 0 rfl rfl ?_
  refine x_bipush 15 rfl dX7_init_13 (by decide) ?_
  refine x_newaI (sz := a + 2) 17 rfl wa_int dX7_init_15 8 rfl (by decide) ?_
  refine x_putf 20 rfl ffX7_15 rfl dX7_init_17 (by omega) (z_sup_at (by omega) z_sup_eq) (by decide) ?_
  refine x_aload_n 21 rfl dX7_init_20 0 rfl rfl ?_
  refine x_bipush 23 rfl dX7_init_21 (by decide) ?_
  refine x_newaI (sz := a + 3) 25 rfl wa_int dX7_init_23 8 rfl (by decide) ?_
  refine x_putf 28 rfl ffX7_18 rfl dX7_init_25 (by omega) (z_sup_at (by omega) z_sup_eq) (by decide) ?_
  refine x_aload_n 29 rfl dX7_init_28 0 rfl rfl ?_
  refine x_iconst 30 rfl dX7_init_29 (by decide) ?_
  refine x_newaI (sz := a + 4) 32 rfl wa_int dX7_init_30 4 rfl (by decide) ?_
  refine x_putf 35 rfl ffX7_21 rfl dX7_init_32 (by omega) (z_sup_at (by omega) z_sup_eq) (by decide) ?_
  refine x_aload_n 36 rfl dX7_init_35 0 rfl rfl ?_
  refine x_bipush 38 rfl dX7_init_36 (by decide) ?_
  refine x_newaI (sz := a + 5) 40 rfl wa_int dX7_init_38 12 rfl (by decide) ?_
  refine x_putf 43 rfl ffX7_24 rfl dX7_init_40 (by omega) (z_sup_at (by omega) z_sup_eq) (by decide) ?_
  refine x_aload_n 44 rfl dX7_init_43 0 rfl rfl ?_
  refine x_bipush 46 rfl dX7_init_44 (by decide) ?_
  refine x_newaI (sz := a + 6) 48 rfl wa_int dX7_init_46 6 rfl (by decide) ?_
  refine x_dupr 49 rfl dX7_init_48 ?_
  refine x_iconst 50 rfl dX7_init_49 (by decide) ?_
  refine x_bipush 52 rfl dX7_init_50 (by decide) ?_
  refine x_iastk 53 rfl dX7_init_52 (by omega) z_sup_eq 0 rfl (by decide) ?_
  refine x_dupr 54 rfl dX7_init_53 ?_
  refine x_iconst 55 rfl dX7_init_54 (by decide) ?_
  refine x_bipush 57 rfl dX7_init_55 (by decide) ?_
  refine x_iastk 58 rfl dX7_init_57 (by omega) z_sup_eq 1 rfl (by decide) ?_
  refine x_dupr 59 rfl dX7_init_58 ?_
  refine x_iconst 60 rfl dX7_init_59 (by decide) ?_
  refine x_bipush 62 rfl dX7_init_60 (by decide) ?_
  refine x_iastk 63 rfl dX7_init_62 (by omega) z_sup_eq 2 rfl (by decide) ?_
  refine x_dupr 64 rfl dX7_init_63 ?_
  refine x_iconst 65 rfl dX7_init_64 (by decide) ?_
  refine x_bipush 67 rfl dX7_init_65 (by decide) ?_
  refine x_iastk 68 rfl dX7_init_67 (by omega) z_sup_eq 3 rfl (by decide) ?_
  refine x_dupr 69 rfl dX7_init_68 ?_
  refine x_iconst 70 rfl dX7_init_69 (by decide) ?_
  refine x_bipush 72 rfl dX7_init_70 (by decide) ?_
  refine x_iastk 73 rfl dX7_init_72 (by omega) z_sup_eq 4 rfl (by decide) ?_
  refine x_dupr 74 rfl dX7_init_73 ?_
  refine x_iconst 75 rfl dX7_init_74 (by decide) ?_
  refine x_bipush 77 rfl dX7_init_75 (by decide) ?_
  refine x_iastk 78 rfl dX7_init_77 (by omega) z_sup_eq 5 rfl (by decide) ?_
  refine x_putf 81 rfl ffX7_27 rfl dX7_init_78 (by omega) (z_sup_at (by omega) z_sup_eq) (by decide) ?_
  refine x_aload_n 82 rfl dX7_init_81 0 rfl rfl ?_
  refine x_iconst 83 rfl dX7_init_82 (by decide) ?_
  refine x_newaI (sz := a + 7) 85 rfl wa_int dX7_init_83 3 rfl (by decide) ?_
  refine x_dupr 86 rfl dX7_init_85 ?_
  refine x_iconst 87 rfl dX7_init_86 (by decide) ?_
  refine x_iconst 88 rfl dX7_init_87 (by decide) ?_
  refine x_iastk 89 rfl dX7_init_88 (by omega) z_sup_eq 0 rfl (by decide) ?_
  refine x_dupr 90 rfl dX7_init_89 ?_
  refine x_iconst 91 rfl dX7_init_90 (by decide) ?_
  refine x_sipush 94 rfl dX7_init_91 (by decide) ?_
  refine x_iastk 95 rfl dX7_init_94 (by omega) z_sup_eq 1 rfl (by decide) ?_
  refine x_dupr 96 rfl dX7_init_95 ?_
  refine x_iconst 97 rfl dX7_init_96 (by decide) ?_
  refine x_iconst 98 rfl dX7_init_97 (by decide) ?_
  refine x_iastk 99 rfl dX7_init_98 (by omega) z_sup_eq 2 rfl (by decide) ?_
  refine x_putf 102 rfl ffX7_30 rfl dX7_init_99 (by omega) (z_sup_at (by omega) z_sup_eq) (by decide) ?_
  refine x_aload_n 103 rfl dX7_init_102 0 rfl rfl ?_
  refine x_bipush 105 rfl dX7_init_103 (by decide) ?_
  refine x_newaI (sz := a + 8) 107 rfl wa_int dX7_init_105 8 rfl (by decide) ?_
  refine x_putf 110 rfl ffX7_33 rfl dX7_init_107 (by omega) (z_sup_at (by omega) z_sup_eq) (by decide) ?_
  refine x_aload_n 111 rfl dX7_init_110 0 rfl rfl ?_
  refine x_bipush 113 rfl dX7_init_111 (by decide) ?_
  refine x_newaI (sz := a + 9) 115 rfl wa_int dX7_init_113 8 rfl (by decide) ?_
  refine x_putf 118 rfl ffX7_36 rfl dX7_init_115 (by omega) (z_sup_at (by omega) z_sup_eq) (by decide) ?_
  refine x_aload_n 119 rfl dX7_init_118 0 rfl rfl ?_
  refine x_bipush 121 rfl dX7_init_119 (by decide) ?_
  refine x_newq (kd := 25) (sz := a + 10) RX9 (Or.inr ⟨rfl, rfl⟩) 124 rfl clX7_39 dX7_init_121 6 rfl (by decide) ?_
  refine x_putf 127 rfl ffX7_41 rfl dX7_init_124 (by omega) (z_sup_at (by omega) z_sup_eq) (by decide) ?_
  refine x_aload_n 128 rfl dX7_init_127 0 rfl rfl ?_
  refine x_iconst 129 rfl dX7_init_128 (by decide) ?_
  refine x_puti 132 rfl fX7_45 dX7_init_129 (by omega) z_sup_eq (by decide) ?_
  refine x_vret dX7_init_132 rfl ?_
  refine ⟨rfl, rfl, ?_, rfl⟩
  funext i
  by_cases h0 : i = a
  · subst h0
    simp (disch := omega) only [shS, z_sup_eq, z_sup_ne]
    refine congrArg _ (congrArg _ ?_)
    funext j
    rcases j with _ | _ | _ | _ | _ | _ | _ | _ | _ | _ | _ | _ | _ | _ | _ | _ | _ | j
    all_goals first | rfl | (simp [shF]; done)
  · simp only [shS, z_sup, if_neg h0]
    rfl

set_option maxRecDepth 100000 in
set_option maxHeartbeats 4000000 in
theorem c_X2_init {d sz : Nat} {S : zSh} {M : zMem} {a : Nat} (hS : S a = (2, 4, fun _ => -1)) : zX (d + 1) 2 289 mX2_init [zn a] (a + 1) S M (fun v sz' S' M' => v = none ∧ sz' = a + 3 ∧ S' = lgS S a ∧ M' = z_mup (z_mup M (a + 1) (fun _ => 0)) (a + 2) (fun _ => 0)) := by
  refine zX_of pl_RX2 [some (zn a)] 0 rfl rfl ?_
  refine x_aload_n 1 rfl dX2_init_0 0 rfl rfl ?_
  refine x_objInit 4 rfl lX2_3 w_oi w_oc dX2_init_1 (Nat.le_of_ble_eq_true rfl) ?_
  refine x_aload_n 5 rfl dX2_init_4 0 rfl rfl ?_
  refine x_bipush 7 rfl dX2_init_5 (by decide) ?_
  refine x_newaI (sz := a + 1) 9 rfl wa_int dX2_init_7 17 rfl (by decide) ?_
  refine x_putf 12 rfl ffX2_11 rfl dX2_init_9 (by omega) (z_sup_at (by omega) hS) (by decide) ?_
  refine x_aload_n 13 rfl dX2_init_12 0 rfl rfl ?_
  refine x_sipush 16 rfl dX2_init_13 (by decide) ?_
  refine x_newaI (sz := a + 2) 18 rfl wa_int dX2_init_16 272 rfl (by decide) ?_
  refine x_putf 21 rfl ffX2_15 rfl dX2_init_18 (by omega) (z_sup_at (by omega) z_sup_eq) (by decide) ?_
  refine x_vret dX2_init_21 rfl ?_
  refine ⟨rfl, rfl, ?_, rfl⟩
  funext i
  by_cases h0 : i = a
  · subst h0
    simp (disch := omega) only [lgS, z_sup_eq, z_sup_ne]
    refine congrArg _ (congrArg _ ?_)
    funext j
    rcases j with _ | _ | j
    all_goals first | rfl | (simp [lgF]; done)
  · simp only [lgS, z_sup, if_neg h0]
    rfl

set_option maxRecDepth 100000 in
set_option maxHeartbeats 4000000 in
theorem c_X3_init {d sz : Nat} {S : zSh} {M : zMem} {a : Nat} (hS : S a = (3, 1, fun _ => -1)) : zX (d + 1) 1 64 mX3_init [zn a] (a + 1) S M (fun v sz' S' M' => v = none ∧ sz' = a + 2 ∧ S' = mcS S a ∧ M' = z_mup M (a + 1) (fun _ => 0)) := by
  refine zX_of pl_RX3 [some (zn a)] 0 rfl rfl ?_
  refine x_aload_n 1 rfl dX3_init_0 0 rfl rfl ?_
  refine x_objInit 4 rfl lX3_3 w_oi w_oc dX3_init_1 (Nat.le_of_ble_eq_true rfl) ?_
  refine x_aload_n 5 rfl dX3_init_4 0 rfl rfl ?_
  refine x_bipush 7 rfl dX3_init_5 (by decide) ?_
  refine x_newaI (sz := a + 1) 9 rfl wa_int dX3_init_7 64 rfl (by decide) ?_
  refine x_putf 12 rfl ffX3_9 rfl dX3_init_9 (by omega) (z_sup_at (by omega) hS) (by decide) ?_
  refine x_vret dX3_init_12 rfl ?_
  refine ⟨rfl, rfl, ?_, rfl⟩
  funext i
  by_cases h0 : i = a
  · subst h0
    simp (disch := omega) only [mcS, z_sup_eq, z_sup_ne]
    refine congrArg _ (congrArg _ ?_)
    funext j
    rcases j with _ | j
    all_goals first | rfl | (simp [mcF]; done)
  · simp only [mcS, z_sup, if_neg h0]
    rfl

set_option maxRecDepth 100000 in
set_option maxHeartbeats 4000000 in
theorem c_X9_init {d sz : Nat} {S : zSh} {M : zMem} {a : Nat} (hS : S a = (9, 4, fun _ => -1)) {m n : Nat} (hm : m ≤ 12) (hn : n ≤ 400) : zX (d + 1) 2 460 mX9_init [zn a, zi (m : Int), zi (n : Int)] (a + 1) S M (fun v sz' S' M' => v = none ∧ sz' = a + 3 ∧ S' = txS S a (5 * m) n ∧ M' = z_mup (z_mup M (a + 1) (fun _ => 0)) (a + 2) (fun _ => 0)) := by
  refine zX_of pl_RX9 [some (zn a), some (zi (m : Int)), some (zi (n : Int))] 0 rfl rfl ?_
  refine x_aload_n 1 rfl dX9_init_0 0 rfl rfl ?_
  refine x_objInit 4 rfl lX9_3 w_oi w_oc dX9_init_1 (Nat.le_of_ble_eq_true rfl) ?_
  refine zW_room (kc' := 2) (ks' := 0 + n + 5 * m) (by omega) (by omega) ?_
  refine x_aload_n 5 rfl dX9_init_4 0 rfl rfl ?_
  refine x_iload_n 6 rfl dX9_init_5 1 rfl rfl ?_
  refine x_iconst 7 rfl dX9_init_6 (by decide) ?_
  refine y_imul 8 rfl dX9_init_7 (by omega) ?_
  refine x_newaI (sz := a + 1) 10 rfl wa_int dX9_init_8 (5 * m) (by omega) (by omega) ?_
  refine x_putf 13 rfl ffX9_11 rfl dX9_init_10 (by omega) (z_sup_at (by omega) hS) (by decide) ?_
  refine x_aload_n 14 rfl dX9_init_13 0 rfl rfl ?_
  refine x_iload_n 15 rfl dX9_init_14 2 rfl rfl ?_
  refine x_newaI (sz := a + 2) 17 rfl wa_int dX9_init_15 n rfl (by omega) ?_
  refine x_putf 20 rfl ffX9_15 rfl dX9_init_17 (by omega) (z_sup_at (by omega) z_sup_eq) (by decide) ?_
  refine x_vret dX9_init_20 rfl ?_
  refine ⟨rfl, rfl, ?_, rfl⟩
  funext i
  by_cases h0 : i = a
  · subst h0
    simp (disch := omega) only [txS, z_sup_eq, z_sup_ne]
    refine congrArg _ (congrArg _ ?_)
    funext j
    rcases j with _ | _ | _ | _ | j
    all_goals first | rfl | (simp [txF]; done)
  · simp only [txS, z_sup, if_neg h0]
    rfl
