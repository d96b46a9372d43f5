/-! THE LAW'S LOOP -/
set_option maxRecDepth 100000 in
set_option maxHeartbeats 4000000 in
theorem lw_loop {sc : List Int} (hsc : sc ≠ []) (hlen : sc.length ≤ 3073) : ∀ (n : Nat) (i c : Int) (S : zSh) (sz : Nat) (M : zMem), ((sc.length - 1 : Nat) : Int) < i + 6 * (n : Int) + 6 → 0 ≤ i → i ≤ 3078 → c + (n : Int) ≤ 1000 → IV c S sz M → zW mL_law 61 (11 * n) (464 * n) sc lwQ 18 [some (zr (-2)), some (zn 0), some (zn 55), some (zi i)] [] sz S M := by
  intro n
  induction n with
  | zero =>
    intro i c S sz M hn hi0 hi9 hc h
    have bl : -2147483648 ≤ ((sc.length - 1 : Nat) : Int) - 6 ∧ ((sc.length - 1 : Nat) : Int) - 6 ≤ 2147483647 := by omega
    refine x_iload_n 19 rfl dL_law_18 3 rfl rfl ?_
    refine x_aload_n 20 rfl dL_law_19 0 rfl rfl ?_
    refine x_slen 21 rfl dL_law_20 hsc ?_
    refine x_bipush 23 rfl dL_law_21 (by decide) ?_
    refine y_isub 24 rfl dL_law_23 bl ?_
    refine x_icmp_gt 27 1177 rfl dL_law_24 (by decide) (fun c24 => ?_) (fun c24 => ?_)
    · refine x_iconst 1178 rfl dL_law_1177 (by decide) ?_
      refine x_zret dL_law_1178 rfl (by omega) ?_
      exact rfl
    · exfalso; omega
  | succ n ih =>
    intro i c S sz M hn hi0 hi9 hc h
    have bl : -2147483648 ≤ ((sc.length - 1 : Nat) : Int) - 6 ∧ ((sc.length - 1 : Nat) : Int) - 6 ≤ 2147483647 := by omega
    have K : i + 6 ≤ ((sc.length - 1 : Nat) : Int) → ∀ (S' : zSh) (sz' : Nat) (M' : zMem), IV (c + 1) S' sz' M' → zW mL_law 61 (11 * n) (464 * n) sc lwQ 1171 [some (zr (-2)), some (zn 0), some (zn 55), some (zi i)] [] sz' S' M' := by
      intro hi6 S' sz' M' h'
      refine w_iinc 1174 rfl dL_law_1171 rfl (by decide) (by omega) rfl (ls' := [_, _, _, _]) rfl (by decide) ?_
      refine x_goto 18 dL_law_1174 (by decide) ?_
      exact ih (i + 6) (c + 1) S' sz' M' (by omega) (by omega) (by omega) (by omega) h'
    refine x_iload_n 19 rfl dL_law_18 3 rfl rfl ?_
    refine x_aload_n 20 rfl dL_law_19 0 rfl rfl ?_
    refine x_slen 21 rfl dL_law_20 hsc ?_
    refine x_bipush 23 rfl dL_law_21 (by decide) ?_
    refine y_isub 24 rfl dL_law_23 bl ?_
    refine x_icmp_gt 27 1177 rfl dL_law_24 (by decide) (fun c24 => ?_) (fun c24 => ?_)
    · refine x_iconst 1178 rfl dL_law_1177 (by decide) ?_
      refine x_zret dL_law_1178 rfl (by omega) ?_
      exact rfl
    · have hi6 : i + 6 ≤ ((sc.length - 1 : Nat) : Int) := by omega
      have bb0 : 0 ≤ i ∧ i < ((sc.length - 1 : Nat) : Int) := by omega
      refine x_aload_n 28 rfl dL_law_27 0 rfl rfl ?_
      refine x_iload_n 29 rfl dL_law_28 3 rfl rfl ?_
      refine x_sld 30 rfl dL_law_29 hsc bb0.1 bb0.2 ?_
      refine x_bipush 32 rfl dL_law_30 (by decide) ?_
      refine x_iand 33 rfl dL_law_32 ?_
      refine x_tsC (0) 196 0 dL_law_33 (by decide) (by decide) (by decide) rfl (by decide) (fun c33 => ?_) (fun c33_0 => ?_)
      · exact lw_c_sign hsc hlen hi0 hi6 (by omega) h (K hi6)
      refine x_tsC (1) 229 1 dL_law_33 (by decide) (by decide) (by decide) rfl (by decide) (fun c33 => ?_) (fun c33_1 => ?_)
      · exact lw_c_of hsc hlen hi0 hi6 (by omega) h (K hi6)
      refine x_tsC (2) 262 2 dL_law_33 (by decide) (by decide) (by decide) rfl (by decide) (fun c33 => ?_) (fun c33_2 => ?_)
      · exact lw_c_ground hsc hlen hi0 hi6 (by omega) h (K hi6)
      refine x_tsC (3) 315 3 dL_law_33 (by decide) (by decide) (by decide) rfl (by decide) (fun c33 => ?_) (fun c33_3 => ?_)
      · exact lw_c_at hsc hlen hi0 hi6 (by omega) h (K hi6)
      refine x_tsC (4) 348 4 dL_law_33 (by decide) (by decide) (by decide) rfl (by decide) (fun c33 => ?_) (fun c33_4 => ?_)
      · exact lw_c_price hsc hlen hi0 hi6 (by omega) h (K hi6)
      refine x_tsC (5) 381 5 dL_law_33 (by decide) (by decide) (by decide) rfl (by decide) (fun c33 => ?_) (fun c33_5 => ?_)
      · exact lw_c_terms hsc hlen hi0 hi6 (by omega) h (K hi6)
      refine x_tsC (6) 414 6 dL_law_33 (by decide) (by decide) (by decide) rfl (by decide) (fun c33 => ?_) (fun c33_6 => ?_)
      · exact lw_c_feed hsc hlen hi0 hi6 (by omega) h (K hi6)
      refine x_tsC (7) 477 7 dL_law_33 (by decide) (by decide) (by decide) rfl (by decide) (fun c33 => ?_) (fun c33_7 => ?_)
      · exact lw_c_end hsc hlen hi0 hi6 (by omega) h (K hi6)
      refine x_tsC (8) 500 8 dL_law_33 (by decide) (by decide) (by decide) rfl (by decide) (fun c33 => ?_) (fun c33_8 => ?_)
      · exact lw_c_row hsc hlen hi0 hi6 (by omega) h (K hi6)
      refine x_tsC (9) 513 9 dL_law_33 (by decide) (by decide) (by decide) rfl (by decide) (fun c33 => ?_) (fun c33_9 => ?_)
      · exact lw_c_spray hsc hlen hi0 hi6 (by omega) h (K hi6)
      refine x_tsC (10) 526 10 dL_law_33 (by decide) (by decide) (by decide) rfl (by decide) (fun c33 => ?_) (fun c33_10 => ?_)
      · exact lw_c_law hsc hlen hi0 hi6 (by omega) h (K hi6)
      refine x_tsC (11) 539 11 dL_law_33 (by decide) (by decide) (by decide) rfl (by decide) (fun c33 => ?_) (fun c33_11 => ?_)
      · exact lw_c_orders hsc hlen hi0 hi6 (by omega) h (K hi6)
      refine x_tsC (12) 552 12 dL_law_33 (by decide) (by decide) (by decide) rfl (by decide) (fun c33 => ?_) (fun c33_12 => ?_)
      · exact lw_c_fault hsc hlen hi0 hi6 (by omega) h (K hi6)
      refine x_tsC (13) 565 13 dL_law_33 (by decide) (by decide) (by decide) rfl (by decide) (fun c33 => ?_) (fun c33_13 => ?_)
      · exact lw_c_stopped hsc hlen hi0 hi6 (by omega) h (K hi6)
      refine x_tsC (14) 578 14 dL_law_33 (by decide) (by decide) (by decide) rfl (by decide) (fun c33 => ?_) (fun c33_14 => ?_)
      · exact lw_c_force hsc hlen hi0 hi6 (by omega) h (K hi6)
      refine x_tsC (15) 601 15 dL_law_33 (by decide) (by decide) (by decide) rfl (by decide) (fun c33 => ?_) (fun c33_15 => ?_)
      · exact lw_c_hunt hsc hlen hi0 hi6 (by omega) h (K hi6)
      refine x_tsC (16) 634 16 dL_law_33 (by decide) (by decide) (by decide) rfl (by decide) (fun c33 => ?_) (fun c33_16 => ?_)
      · exact lw_c_sell hsc hlen hi0 hi6 (by omega) h (K hi6)
      refine x_tsC (17) 657 17 dL_law_33 (by decide) (by decide) (by decide) rfl (by decide) (fun c33 => ?_) (fun c33_17 => ?_)
      · exact lw_c_advance hsc hlen hi0 hi6 (by omega) h (K hi6)
      refine x_tsC (18) 690 18 dL_law_33 (by decide) (by decide) (by decide) rfl (by decide) (fun c33 => ?_) (fun c33_18 => ?_)
      · exact lw_c_leave hsc hlen hi0 hi6 (by omega) h (K hi6)
      refine x_tsC (19) 713 19 dL_law_33 (by decide) (by decide) (by decide) rfl (by decide) (fun c33 => ?_) (fun c33_19 => ?_)
      · exact lw_c_undo hsc hlen hi0 hi6 (by omega) h (K hi6)
      refine x_tsC (20) 726 20 dL_law_33 (by decide) (by decide) (by decide) rfl (by decide) (fun c33 => ?_) (fun c33_20 => ?_)
      · exact lw_c_money hsc hlen hi0 hi6 (by omega) h (K hi6)
      refine x_tsC (21) 749 21 dL_law_33 (by decide) (by decide) (by decide) rfl (by decide) (fun c33 => ?_) (fun c33_21 => ?_)
      · exact lw_c_parts hsc hlen hi0 hi6 (by omega) h (K hi6)
      refine x_tsC (22) 763 22 dL_law_33 (by decide) (by decide) (by decide) rfl (by decide) (fun c33 => ?_) (fun c33_22 => ?_)
      · exact lw_c_best hsc hlen hi0 hi6 (by omega) h (K hi6)
      refine x_tsC (23) 797 23 dL_law_33 (by decide) (by decide) (by decide) rfl (by decide) (fun c33 => ?_) (fun c33_23 => ?_)
      · exact lw_c_odds hsc hlen hi0 hi6 (by omega) h (K hi6)
      refine x_tsC (24) 841 24 dL_law_33 (by decide) (by decide) (by decide) rfl (by decide) (fun c33 => ?_) (fun c33_24 => ?_)
      · exact lw_c_left hsc hlen hi0 hi6 (by omega) h (K hi6)
      refine x_tsC (25) 864 25 dL_law_33 (by decide) (by decide) (by decide) rfl (by decide) (fun c33 => ?_) (fun c33_25 => ?_)
      · exact lw_c_least hsc hlen hi0 hi6 (by omega) h (K hi6)
      refine x_tsC (26) 887 26 dL_law_33 (by decide) (by decide) (by decide) rfl (by decide) (fun c33 => ?_) (fun c33_26 => ?_)
      · exact lw_c_crew hsc hlen hi0 hi6 (by omega) h (K hi6)
      refine x_tsC (27) 931 27 dL_law_33 (by decide) (by decide) (by decide) rfl (by decide) (fun c33 => ?_) (fun c33_27 => ?_)
      · exact lw_c_word hsc hlen hi0 hi6 (by omega) h (K hi6)
      refine x_tsC (28) 964 28 dL_law_33 (by decide) (by decide) (by decide) rfl (by decide) (fun c33 => ?_) (fun c33_28 => ?_)
      · exact lw_c_forget hsc hlen hi0 hi6 (by omega) h (K hi6)
      refine x_tsC (29) 977 29 dL_law_33 (by decide) (by decide) (by decide) rfl (by decide) (fun c33 => ?_) (fun c33_29 => ?_)
      · exact lw_c_barrels hsc hlen hi0 hi6 (by omega) h (K hi6)
      refine x_tsC (30) 1000 30 dL_law_33 (by decide) (by decide) (by decide) rfl (by decide) (fun c33 => ?_) (fun c33_30 => ?_)
      · exact lw_c_ask hsc hlen hi0 hi6 (by omega) h (K hi6)
      refine x_tsC (31) 1023 31 dL_law_33 (by decide) (by decide) (by decide) rfl (by decide) (fun c33 => ?_) (fun c33_31 => ?_)
      · exact lw_c_years hsc hlen hi0 hi6 (by omega) h (K hi6)
      refine x_tsC (32) 1056 32 dL_law_33 (by decide) (by decide) (by decide) rfl (by decide) (fun c33 => ?_) (fun c33_32 => ?_)
      · exact lw_c_drawn hsc hlen hi0 hi6 (by omega) h (K hi6)
      refine x_tsC (33) 1089 33 dL_law_33 (by decide) (by decide) (by decide) rfl (by decide) (fun c33 => ?_) (fun c33_33 => ?_)
      · exact lw_c_image hsc hlen hi0 hi6 (by omega) h (K hi6)
      refine x_tsC (34) 1112 34 dL_law_33 (by decide) (by decide) (by decide) rfl (by decide) (fun c33 => ?_) (fun c33_34 => ?_)
      · exact lw_c_back hsc hlen hi0 hi6 (by omega) h (K hi6)
      refine x_tsC (35) 1135 35 dL_law_33 (by decide) (by decide) (by decide) rfl (by decide) (fun c33 => ?_) (fun c33_35 => ?_)
      · exact lw_c_count hsc hlen hi0 hi6 (by omega) h (K hi6)
      refine x_tsC (36) 1158 36 dL_law_33 (by decide) (by decide) (by decide) rfl (by decide) (fun c33 => ?_) (fun c33_36 => ?_)
      · exact lw_c_status hsc hlen hi0 hi6 (by omega) h (K hi6)
      refine x_tsOut 1171 dL_law_33 (by omega) (by decide) ?_
      exact zW_room (kc' := 11 * n) (ks' := 464 * n) (by omega) (by omega) (K hi6 S sz M (IV_mono h (by omega)))
