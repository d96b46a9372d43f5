/-! more cases -/
set_option maxRecDepth 100000 in
set_option maxHeartbeats 4000000 in
theorem lw_c_undo {sc : List Int} (hsc : sc ≠ []) (hlen : sc.length ≤ 3073) {i : Int} (hi0 : 0 ≤ i) (hi6 : i + 6 ≤ ((sc.length - 1 : Nat) : Int)) {c : Int} (hc : c ≤ 1000) {kc ks : Nat} {S : zSh} {sz : Nat} {M : zMem} (h : IV c S sz M) (K : ∀ (S' : zSh) (sz' : Nat) (M' : zMem), IV (c + 1) S' sz' M' → zW mL_law 61 kc ks sc lwQ 1171 [some (zr (-2)), some (zn 0), some (zn 55), some (zi i)] [] sz' S' M') : zW mL_law 61 (kc + 11) (ks + 464) sc lwQ 713 [some (zr (-2)), some (zn 0), some (zn 55), some (zi i)] [] sz S M := by
  have hL := h.1
  have hs := h.2.1
  have hk := h.2.2.1
  have h54 := IV_54 h hc
  have ba1 : -2147483648 ≤ i + 1 ∧ i + 1 ≤ 2147483647 := by omega
  have ba2 : -2147483648 ≤ i + 2 ∧ i + 2 ≤ 2147483647 := by omega
  have ba3 : -2147483648 ≤ i + 3 ∧ i + 3 ≤ 2147483647 := by omega
  have ba4 : -2147483648 ≤ i + 4 ∧ i + 4 ≤ 2147483647 := by omega
  have ba5 : -2147483648 ≤ i + 5 ∧ i + 5 ≤ 2147483647 := by omega
  have bb1 : 0 ≤ i + 1 ∧ i + 1 < ((sc.length - 1 : Nat) : Int) := by omega
  have bb2 : 0 ≤ i + 2 ∧ i + 2 < ((sc.length - 1 : Nat) : Int) := by omega
  have bb3 : 0 ≤ i + 3 ∧ i + 3 < ((sc.length - 1 : Nat) : Int) := by omega
  have bb4 : 0 ≤ i + 4 ∧ i + 4 < ((sc.length - 1 : Nat) : Int) := by omega
  have bb5 : 0 ≤ i + 5 ∧ i + 5 < ((sc.length - 1 : Nat) : Int) := by omega
  have hx := h.2.2.2.2.2.2.2.2.2.2
  obtain ⟨l, n0, hlr, hl2, h32, hv⟩ := h.2.2.2.2.2.2.1
  refine zW_room (kc' := kc) (ks' := ks) (by omega) (by omega) ?_
  refine x_aload_n 714 rfl dL_law_713 1 rfl rfl ?_
  refine x_cVi 717 rfl lL_94 dL_law_714 (lyl0 hL) (lys0 hL) (c_X10_undo hL h54 hs hlr (fun j hj => (hv j hj).1)) rfl rfl (Nat.le_of_ble_eq_true rfl) (fun r1 M1 h1 => ?_)
  have e1 : rS M M1 := by
    intro j a b
    obtain ⟨N, e2, e3, e4⟩ := h1
    have e5 : N j = M j := by
      by_cases hn : n0 = 0
      · rw [(e2 hn).2]
      · exact (e3 (by omega)).2.1 j (by omega) (by omega)
    rw [e4]; unfold cFin cRef
    split
    · rw [z_up_ne (by omega), z_up_ne (by omega)]; exact e5
    · rw [z_up_ne (by omega)]; exact e5
  obtain ⟨q1, q2, q3, q4, q5, q6, q7, q8⟩ := IV_rd h hc e1
  refine x_aload_n 718 rfl dL_law_717 2 rfl rfl ?_
  refine x_cVi 721 rfl lL_97 dL_law_718 (lyl55 hL) (lys55 hL) (c_X11_undo hL q3 q2) rfl rfl (Nat.le_of_ble_eq_true rfl) (fun r2 M2 h2 => ?_)
  obtain ⟨hr, hI⟩ := iv_undo h hl2 h32 hv h1 h2
  refine x_icmp_eq 724 1171 rfl dL_law_721 (by decide) (fun c721 => ?_) (fun c721 => ?_)
  · exact K _ _ _ hI
  · first | exact absurd hr c721 | exact absurd hr.symm c721

set_option maxRecDepth 100000 in
set_option maxHeartbeats 4000000 in
theorem lw_c_money {sc : List Int} (hsc : sc ≠ []) (hlen : sc.length ≤ 3073) {i : Int} (hi0 : 0 ≤ i) (hi6 : i + 6 ≤ ((sc.length - 1 : Nat) : Int)) {c : Int} (hc : c ≤ 1000) {kc ks : Nat} {S : zSh} {sz : Nat} {M : zMem} (h : IV c S sz M) (K : ∀ (S' : zSh) (sz' : Nat) (M' : zMem), IV (c + 1) S' sz' M' → zW mL_law 61 kc ks sc lwQ 1171 [some (zr (-2)), some (zn 0), some (zn 55), some (zi i)] [] sz' S' M') : zW mL_law 61 (kc + 11) (ks + 464) sc lwQ 726 [some (zr (-2)), some (zn 0), some (zn 55), some (zi i)] [] sz S M := by
  have hL := h.1
  have hs := h.2.1
  have hk := h.2.2.1
  have h54 := IV_54 h hc
  have ba1 : -2147483648 ≤ i + 1 ∧ i + 1 ≤ 2147483647 := by omega
  have ba2 : -2147483648 ≤ i + 2 ∧ i + 2 ≤ 2147483647 := by omega
  have ba3 : -2147483648 ≤ i + 3 ∧ i + 3 ≤ 2147483647 := by omega
  have ba4 : -2147483648 ≤ i + 4 ∧ i + 4 ≤ 2147483647 := by omega
  have ba5 : -2147483648 ≤ i + 5 ∧ i + 5 ≤ 2147483647 := by omega
  have bb1 : 0 ≤ i + 1 ∧ i + 1 < ((sc.length - 1 : Nat) : Int) := by omega
  have bb2 : 0 ≤ i + 2 ∧ i + 2 < ((sc.length - 1 : Nat) : Int) := by omega
  have bb3 : 0 ≤ i + 3 ∧ i + 3 < ((sc.length - 1 : Nat) : Int) := by omega
  have bb4 : 0 ≤ i + 4 ∧ i + 4 < ((sc.length - 1 : Nat) : Int) := by omega
  have bb5 : 0 ≤ i + 5 ∧ i + 5 < ((sc.length - 1 : Nat) : Int) := by omega
  have hx := h.2.2.2.2.2.2.2.2.2.2
  refine zW_room (kc' := kc) (ks' := ks) (by omega) (by omega) ?_
  refine x_aload_n 727 rfl dL_law_726 1 rfl rfl ?_
  refine x_aload_n 728 rfl dL_law_727 0 rfl rfl ?_
  refine x_iload_n 729 rfl dL_law_728 3 rfl rfl ?_
  refine x_iconst 730 rfl dL_law_729 (by decide) ?_
  refine y_iadd 731 rfl dL_law_730 ba1 ?_
  refine x_sld 732 rfl dL_law_731 hsc bb1.1 bb1.2 ?_
  refine x_cVi 735 rfl lL_98 dL_law_732 (lyl0 hL) (lys0 hL) (c_X10_money hL hs hk) rfl rfl (Nat.le_of_ble_eq_true rfl) (fun r1 M1 h1 => ?_)
  have e1 := rS_eq h1.2
  obtain ⟨q1, q2, q3, q4, q5, q6, q7, q8⟩ := IV_rd h hc e1
  refine x_aload_n 736 rfl dL_law_735 2 rfl rfl ?_
  refine x_aload_n 737 rfl dL_law_736 0 rfl rfl ?_
  refine x_iload_n 738 rfl dL_law_737 3 rfl rfl ?_
  refine x_iconst 739 rfl dL_law_738 (by decide) ?_
  refine y_iadd 740 rfl dL_law_739 ba1 ?_
  refine x_sld 741 rfl dL_law_740 hsc bb1.1 bb1.2 ?_
  refine x_cVi 744 rfl lL_101 dL_law_741 (lyl55 hL) (lys55 hL) (c_X11_money hL q1) rfl rfl (Nat.le_of_ble_eq_true rfl) (fun r2 M2 h2 => ?_)
  have hr : r1 = r2 := by rw [h1.1, h2.1, e1 57 (by decide) (by decide)]
  have hI := iv_pure h (cK_eq h h1.2) (rK_eq q5 h2.2)
  refine x_icmp_eq 747 1171 rfl dL_law_744 (by decide) (fun c744 => ?_) (fun c744 => ?_)
  · exact K _ _ _ hI
  · first | exact absurd hr c744 | exact absurd hr.symm c744

set_option maxRecDepth 100000 in
set_option maxHeartbeats 4000000 in
theorem lw_c_parts {sc : List Int} (hsc : sc ≠ []) (hlen : sc.length ≤ 3073) {i : Int} (hi0 : 0 ≤ i) (hi6 : i + 6 ≤ ((sc.length - 1 : Nat) : Int)) {c : Int} (hc : c ≤ 1000) {kc ks : Nat} {S : zSh} {sz : Nat} {M : zMem} (h : IV c S sz M) (K : ∀ (S' : zSh) (sz' : Nat) (M' : zMem), IV (c + 1) S' sz' M' → zW mL_law 61 kc ks sc lwQ 1171 [some (zr (-2)), some (zn 0), some (zn 55), some (zi i)] [] sz' S' M') : zW mL_law 61 (kc + 11) (ks + 464) sc lwQ 749 [some (zr (-2)), some (zn 0), some (zn 55), some (zi i)] [] sz S M := by
  have hL := h.1
  have hs := h.2.1
  have hk := h.2.2.1
  have h54 := IV_54 h hc
  have ba1 : -2147483648 ≤ i + 1 ∧ i + 1 ≤ 2147483647 := by omega
  have ba2 : -2147483648 ≤ i + 2 ∧ i + 2 ≤ 2147483647 := by omega
  have ba3 : -2147483648 ≤ i + 3 ∧ i + 3 ≤ 2147483647 := by omega
  have ba4 : -2147483648 ≤ i + 4 ∧ i + 4 ≤ 2147483647 := by omega
  have ba5 : -2147483648 ≤ i + 5 ∧ i + 5 ≤ 2147483647 := by omega
  have bb1 : 0 ≤ i + 1 ∧ i + 1 < ((sc.length - 1 : Nat) : Int) := by omega
  have bb2 : 0 ≤ i + 2 ∧ i + 2 < ((sc.length - 1 : Nat) : Int) := by omega
  have bb3 : 0 ≤ i + 3 ∧ i + 3 < ((sc.length - 1 : Nat) : Int) := by omega
  have bb4 : 0 ≤ i + 4 ∧ i + 4 < ((sc.length - 1 : Nat) : Int) := by omega
  have bb5 : 0 ≤ i + 5 ∧ i + 5 < ((sc.length - 1 : Nat) : Int) := by omega
  have hx := h.2.2.2.2.2.2.2.2.2.2
  refine zW_room (kc' := kc) (ks' := ks) (by omega) (by omega) ?_
  refine x_aload_n 750 rfl dL_law_749 1 rfl rfl ?_
  refine x_cVj 753 rfl lL_102 dL_law_750 (lyl0 hL) (lys0 hL) (c_X10_parts hL hs hk) rfl rfl (Nat.le_of_ble_eq_true rfl) (fun r1 M1 h1 => ?_)
  have e1 := rS_eq h1.2
  obtain ⟨q1, q2, q3, q4, q5, q6, q7, q8⟩ := IV_rd h hc e1
  refine x_aload_n 754 rfl dL_law_753 2 rfl rfl ?_
  refine x_cVj 757 rfl lL_106 dL_law_754 (lyl55 hL) (lys55 hL) (c_X11_parts hL q1) rfl rfl (Nat.le_of_ble_eq_true rfl) (fun r2 M2 h2 => ?_)
  have hr : r1 = r2 := by rw [h1.1, h2.1, e1 57 (by decide) (by decide)]
  have hI := iv_pure h (cK_eq h h1.2) (rK_eq q5 h2.2)
  refine x_lcmp 758 rfl dL_law_757 ?_
  refine x_if_eq 761 1171 rfl dL_law_758 (by decide) (fun c758 => ?_) (fun c758 => ?_)
  · exact K _ _ _ hI
  · exfalso; apply c758; rw [hr]; simp [zcmp]

set_option maxRecDepth 100000 in
set_option maxHeartbeats 4000000 in
theorem lw_c_best {sc : List Int} (hsc : sc ≠ []) (hlen : sc.length ≤ 3073) {i : Int} (hi0 : 0 ≤ i) (hi6 : i + 6 ≤ ((sc.length - 1 : Nat) : Int)) {c : Int} (hc : c ≤ 1000) {kc ks : Nat} {S : zSh} {sz : Nat} {M : zMem} (h : IV c S sz M) (K : ∀ (S' : zSh) (sz' : Nat) (M' : zMem), IV (c + 1) S' sz' M' → zW mL_law 61 kc ks sc lwQ 1171 [some (zr (-2)), some (zn 0), some (zn 55), some (zi i)] [] sz' S' M') : zW mL_law 61 (kc + 11) (ks + 464) sc lwQ 763 [some (zr (-2)), some (zn 0), some (zn 55), some (zi i)] [] sz S M := by
  have hL := h.1
  have hs := h.2.1
  have hk := h.2.2.1
  have h54 := IV_54 h hc
  have ba1 : -2147483648 ≤ i + 1 ∧ i + 1 ≤ 2147483647 := by omega
  have ba2 : -2147483648 ≤ i + 2 ∧ i + 2 ≤ 2147483647 := by omega
  have ba3 : -2147483648 ≤ i + 3 ∧ i + 3 ≤ 2147483647 := by omega
  have ba4 : -2147483648 ≤ i + 4 ∧ i + 4 ≤ 2147483647 := by omega
  have ba5 : -2147483648 ≤ i + 5 ∧ i + 5 ≤ 2147483647 := by omega
  have bb1 : 0 ≤ i + 1 ∧ i + 1 < ((sc.length - 1 : Nat) : Int) := by omega
  have bb2 : 0 ≤ i + 2 ∧ i + 2 < ((sc.length - 1 : Nat) : Int) := by omega
  have bb3 : 0 ≤ i + 3 ∧ i + 3 < ((sc.length - 1 : Nat) : Int) := by omega
  have bb4 : 0 ≤ i + 4 ∧ i + 4 < ((sc.length - 1 : Nat) : Int) := by omega
  have bb5 : 0 ≤ i + 5 ∧ i + 5 < ((sc.length - 1 : Nat) : Int) := by omega
  have hx := h.2.2.2.2.2.2.2.2.2.2
  obtain ⟨Lw, hLc, hLi⟩ := LA_Lw hk h.2.2.2.2.2.2.2.1
  refine zW_room (kc' := kc) (ks' := ks) (by omega) (by omega) ?_
  refine x_aload_n 764 rfl dL_law_763 1 rfl rfl ?_
  refine x_aload_n 765 rfl dL_law_764 0 rfl rfl ?_
  refine x_iload_n 766 rfl dL_law_765 3 rfl rfl ?_
  refine x_iconst 767 rfl dL_law_766 (by decide) ?_
  refine y_iadd 768 rfl dL_law_767 ba1 ?_
  refine x_sld 769 rfl dL_law_768 hsc bb1.1 bb1.2 ?_
  refine x_aload_n 770 rfl dL_law_769 0 rfl rfl ?_
  refine x_iload_n 771 rfl dL_law_770 3 rfl rfl ?_
  refine x_iconst 772 rfl dL_law_771 (by decide) ?_
  refine y_iadd 773 rfl dL_law_772 ba2 ?_
  refine x_sld 774 rfl dL_law_773 hsc bb2.1 bb2.2 ?_
  refine x_cVj 777 rfl lL_107 dL_law_774 (lyl0 hL) (lys0 hL) (c_X10_best hL hs hk hLc hx.1 hx.2.2.1 hx.2.2.2.1) rfl rfl (Nat.le_of_ble_eq_true rfl) (fun r1 M1 h1 => ?_)
  have e1 := rS_qF h1.2.1
  obtain ⟨q1, q2, q3, q4, q5, q6, q7, q8⟩ := IV_rd h hc e1
  refine x_aload_n 778 rfl dL_law_777 2 rfl rfl ?_
  refine x_aload_n 779 rfl dL_law_778 0 rfl rfl ?_
  refine x_iload_n 780 rfl dL_law_779 3 rfl rfl ?_
  refine x_iconst 781 rfl dL_law_780 (by decide) ?_
  refine y_iadd 782 rfl dL_law_781 ba1 ?_
  refine x_sld 783 rfl dL_law_782 hsc bb1.1 bb1.2 ?_
  refine x_aload_n 784 rfl dL_law_783 0 rfl rfl ?_
  refine x_iload_n 785 rfl dL_law_784 3 rfl rfl ?_
  refine x_iconst 786 rfl dL_law_785 (by decide) ?_
  refine y_iadd 787 rfl dL_law_786 ba2 ?_
  refine x_sld 788 rfl dL_law_787 hsc bb2.1 bb2.2 ?_
  refine x_cVj 791 rfl lL_111 dL_law_788 (lyl55 hL) (lys55 hL) (c_X11_best hL q1 (by rw [e1 57 (by decide) (by decide)]; exact hLi) q5) rfl rfl (Nat.le_of_ble_eq_true rfl) (fun r2 M2 h2 => ?_)
  have hr : r1 = r2 := by rw [h1.1, h2.1, e1 57 (by decide) (by decide)]
  have hI := iv_pure h (cK_qF h1.2.1 h1.2.2.1 h1.2.2.2) (rK_bF h2.2.1 h2.2.2)
  refine x_lcmp 792 rfl dL_law_791 ?_
  refine x_if_eq 795 1171 rfl dL_law_792 (by decide) (fun c792 => ?_) (fun c792 => ?_)
  · exact K _ _ _ hI
  · exfalso; apply c792; rw [hr]; simp [zcmp]

set_option maxRecDepth 100000 in
set_option maxHeartbeats 4000000 in
theorem lw_c_odds {sc : List Int} (hsc : sc ≠ []) (hlen : sc.length ≤ 3073) {i : Int} (hi0 : 0 ≤ i) (hi6 : i + 6 ≤ ((sc.length - 1 : Nat) : Int)) {c : Int} (hc : c ≤ 1000) {kc ks : Nat} {S : zSh} {sz : Nat} {M : zMem} (h : IV c S sz M) (K : ∀ (S' : zSh) (sz' : Nat) (M' : zMem), IV (c + 1) S' sz' M' → zW mL_law 61 kc ks sc lwQ 1171 [some (zr (-2)), some (zn 0), some (zn 55), some (zi i)] [] sz' S' M') : zW mL_law 61 (kc + 11) (ks + 464) sc lwQ 797 [some (zr (-2)), some (zn 0), some (zn 55), some (zi i)] [] sz S M := by
  have hL := h.1
  have hs := h.2.1
  have hk := h.2.2.1
  have h54 := IV_54 h hc
  have ba1 : -2147483648 ≤ i + 1 ∧ i + 1 ≤ 2147483647 := by omega
  have ba2 : -2147483648 ≤ i + 2 ∧ i + 2 ≤ 2147483647 := by omega
  have ba3 : -2147483648 ≤ i + 3 ∧ i + 3 ≤ 2147483647 := by omega
  have ba4 : -2147483648 ≤ i + 4 ∧ i + 4 ≤ 2147483647 := by omega
  have ba5 : -2147483648 ≤ i + 5 ∧ i + 5 ≤ 2147483647 := by omega
  have bb1 : 0 ≤ i + 1 ∧ i + 1 < ((sc.length - 1 : Nat) : Int) := by omega
  have bb2 : 0 ≤ i + 2 ∧ i + 2 < ((sc.length - 1 : Nat) : Int) := by omega
  have bb3 : 0 ≤ i + 3 ∧ i + 3 < ((sc.length - 1 : Nat) : Int) := by omega
  have bb4 : 0 ≤ i + 4 ∧ i + 4 < ((sc.length - 1 : Nat) : Int) := by omega
  have bb5 : 0 ≤ i + 5 ∧ i + 5 < ((sc.length - 1 : Nat) : Int) := by omega
  have hx := h.2.2.2.2.2.2.2.2.2.2
  obtain ⟨Lw, hLc, hLi⟩ := LA_Lw hk h.2.2.2.2.2.2.2.1
  refine zW_room (kc' := kc) (ks' := ks) (by omega) (by omega) ?_
  refine x_aload_n 798 rfl dL_law_797 1 rfl rfl ?_
  refine x_aload_n 799 rfl dL_law_798 0 rfl rfl ?_
  refine x_iload_n 800 rfl dL_law_799 3 rfl rfl ?_
  refine x_iconst 801 rfl dL_law_800 (by decide) ?_
  refine y_iadd 802 rfl dL_law_801 ba1 ?_
  refine x_sld 803 rfl dL_law_802 hsc bb1.1 bb1.2 ?_
  refine x_aload_n 804 rfl dL_law_803 0 rfl rfl ?_
  refine x_iload_n 805 rfl dL_law_804 3 rfl rfl ?_
  refine x_iconst 806 rfl dL_law_805 (by decide) ?_
  refine y_iadd 807 rfl dL_law_806 ba2 ?_
  refine x_sld 808 rfl dL_law_807 hsc bb2.1 bb2.2 ?_
  refine x_aload_n 809 rfl dL_law_808 0 rfl rfl ?_
  refine x_iload_n 810 rfl dL_law_809 3 rfl rfl ?_
  refine x_iconst 811 rfl dL_law_810 (by decide) ?_
  refine y_iadd 812 rfl dL_law_811 ba3 ?_
  refine x_sld 813 rfl dL_law_812 hsc bb3.1 bb3.2 ?_
  refine x_cVj 816 rfl lL_112 dL_law_813 (lyl0 hL) (lys0 hL) (c_X10_odds hL hs hk hLc hx.1) rfl rfl (Nat.le_of_ble_eq_true rfl) (fun r1 M1 h1 => ?_)
  have e1 := rS_oF h1.2
  obtain ⟨q1, q2, q3, q4, q5, q6, q7, q8⟩ := IV_rd h hc e1
  refine x_aload_n 817 rfl dL_law_816 2 rfl rfl ?_
  refine x_aload_n 818 rfl dL_law_817 0 rfl rfl ?_
  refine x_iload_n 819 rfl dL_law_818 3 rfl rfl ?_
  refine x_iconst 820 rfl dL_law_819 (by decide) ?_
  refine y_iadd 821 rfl dL_law_820 ba1 ?_
  refine x_sld 822 rfl dL_law_821 hsc bb1.1 bb1.2 ?_
  refine x_aload_n 823 rfl dL_law_822 0 rfl rfl ?_
  refine x_iload_n 824 rfl dL_law_823 3 rfl rfl ?_
  refine x_iconst 825 rfl dL_law_824 (by decide) ?_
  refine y_iadd 826 rfl dL_law_825 ba2 ?_
  refine x_sld 827 rfl dL_law_826 hsc bb2.1 bb2.2 ?_
  refine x_aload_n 828 rfl dL_law_827 0 rfl rfl ?_
  refine x_iload_n 829 rfl dL_law_828 3 rfl rfl ?_
  refine x_iconst 830 rfl dL_law_829 (by decide) ?_
  refine y_iadd 831 rfl dL_law_830 ba3 ?_
  refine x_sld 832 rfl dL_law_831 hsc bb3.1 bb3.2 ?_
  refine x_cVj 835 rfl lL_116 dL_law_832 (lyl55 hL) (lys55 hL) (c_X11_odds hL q1 (by rw [e1 57 (by decide) (by decide)]; exact hLi)) rfl rfl (Nat.le_of_ble_eq_true rfl) (fun r2 M2 h2 => ?_)
  have hr : r1 = r2 := by rw [h1.1, h2.1, e1 57 (by decide) (by decide)]
  have hI := iv_pure h (cK_oF h h1.2) (rK_bF h2.2.1 (by rw [h2.2.2]; exact q5))
  refine x_lcmp 836 rfl dL_law_835 ?_
  refine x_if_eq 839 1171 rfl dL_law_836 (by decide) (fun c836 => ?_) (fun c836 => ?_)
  · exact K _ _ _ hI
  · exfalso; apply c836; rw [hr]; simp [zcmp]

set_option maxRecDepth 100000 in
set_option maxHeartbeats 4000000 in
theorem lw_c_left {sc : List Int} (hsc : sc ≠ []) (hlen : sc.length ≤ 3073) {i : Int} (hi0 : 0 ≤ i) (hi6 : i + 6 ≤ ((sc.length - 1 : Nat) : Int)) {c : Int} (hc : c ≤ 1000) {kc ks : Nat} {S : zSh} {sz : Nat} {M : zMem} (h : IV c S sz M) (K : ∀ (S' : zSh) (sz' : Nat) (M' : zMem), IV (c + 1) S' sz' M' → zW mL_law 61 kc ks sc lwQ 1171 [some (zr (-2)), some (zn 0), some (zn 55), some (zi i)] [] sz' S' M') : zW mL_law 61 (kc + 11) (ks + 464) sc lwQ 841 [some (zr (-2)), some (zn 0), some (zn 55), some (zi i)] [] sz S M := by
  have hL := h.1
  have hs := h.2.1
  have hk := h.2.2.1
  have h54 := IV_54 h hc
  have ba1 : -2147483648 ≤ i + 1 ∧ i + 1 ≤ 2147483647 := by omega
  have ba2 : -2147483648 ≤ i + 2 ∧ i + 2 ≤ 2147483647 := by omega
  have ba3 : -2147483648 ≤ i + 3 ∧ i + 3 ≤ 2147483647 := by omega
  have ba4 : -2147483648 ≤ i + 4 ∧ i + 4 ≤ 2147483647 := by omega
  have ba5 : -2147483648 ≤ i + 5 ∧ i + 5 ≤ 2147483647 := by omega
  have bb1 : 0 ≤ i + 1 ∧ i + 1 < ((sc.length - 1 : Nat) : Int) := by omega
  have bb2 : 0 ≤ i + 2 ∧ i + 2 < ((sc.length - 1 : Nat) : Int) := by omega
  have bb3 : 0 ≤ i + 3 ∧ i + 3 < ((sc.length - 1 : Nat) : Int) := by omega
  have bb4 : 0 ≤ i + 4 ∧ i + 4 < ((sc.length - 1 : Nat) : Int) := by omega
  have bb5 : 0 ≤ i + 5 ∧ i + 5 < ((sc.length - 1 : Nat) : Int) := by omega
  have hx := h.2.2.2.2.2.2.2.2.2.2
  obtain ⟨Lw, hLc, hLi⟩ := LA_Lw hk h.2.2.2.2.2.2.2.1
  refine zW_room (kc' := kc) (ks' := ks) (by omega) (by omega) ?_
  refine x_aload_n 842 rfl dL_law_841 1 rfl rfl ?_
  refine x_aload_n 843 rfl dL_law_842 0 rfl rfl ?_
  refine x_iload_n 844 rfl dL_law_843 3 rfl rfl ?_
  refine x_iconst 845 rfl dL_law_844 (by decide) ?_
  refine y_iadd 846 rfl dL_law_845 ba1 ?_
  refine x_sld 847 rfl dL_law_846 hsc bb1.1 bb1.2 ?_
  refine x_cVi 850 rfl lL_117 dL_law_847 (lyl0 hL) (lys0 hL) (c_X10_left hL hs hk hLc hx.1) rfl rfl (Nat.le_of_ble_eq_true rfl) (fun r1 M1 h1 => ?_)
  have e1 := rS_jF h1.2
  obtain ⟨q1, q2, q3, q4, q5, q6, q7, q8⟩ := IV_rd h hc e1
  refine x_aload_n 851 rfl dL_law_850 2 rfl rfl ?_
  refine x_aload_n 852 rfl dL_law_851 0 rfl rfl ?_
  refine x_iload_n 853 rfl dL_law_852 3 rfl rfl ?_
  refine x_iconst 854 rfl dL_law_853 (by decide) ?_
  refine y_iadd 855 rfl dL_law_854 ba1 ?_
  refine x_sld 856 rfl dL_law_855 hsc bb1.1 bb1.2 ?_
  refine x_cVi 859 rfl lL_120 dL_law_856 (lyl55 hL) (lys55 hL) (c_X11_left hL q1 (by rw [e1 57 (by decide) (by decide)]; exact hLi)) rfl rfl (Nat.le_of_ble_eq_true rfl) (fun r2 M2 h2 => ?_)
  have hr : r1 = r2 := by rw [h1.1, h2.1, e1 57 (by decide) (by decide)]
  have hI := iv_pure h (cK_jF h h1.2) (rK_mF q5 h2.2)
  refine x_icmp_eq 862 1171 rfl dL_law_859 (by decide) (fun c859 => ?_) (fun c859 => ?_)
  · exact K _ _ _ hI
  · first | exact absurd hr c859 | exact absurd hr.symm c859

set_option maxRecDepth 100000 in
set_option maxHeartbeats 4000000 in
theorem lw_c_least {sc : List Int} (hsc : sc ≠ []) (hlen : sc.length ≤ 3073) {i : Int} (hi0 : 0 ≤ i) (hi6 : i + 6 ≤ ((sc.length - 1 : Nat) : Int)) {c : Int} (hc : c ≤ 1000) {kc ks : Nat} {S : zSh} {sz : Nat} {M : zMem} (h : IV c S sz M) (K : ∀ (S' : zSh) (sz' : Nat) (M' : zMem), IV (c + 1) S' sz' M' → zW mL_law 61 kc ks sc lwQ 1171 [some (zr (-2)), some (zn 0), some (zn 55), some (zi i)] [] sz' S' M') : zW mL_law 61 (kc + 11) (ks + 464) sc lwQ 864 [some (zr (-2)), some (zn 0), some (zn 55), some (zi i)] [] sz S M := by
  have hL := h.1
  have hs := h.2.1
  have hk := h.2.2.1
  have h54 := IV_54 h hc
  have ba1 : -2147483648 ≤ i + 1 ∧ i + 1 ≤ 2147483647 := by omega
  have ba2 : -2147483648 ≤ i + 2 ∧ i + 2 ≤ 2147483647 := by omega
  have ba3 : -2147483648 ≤ i + 3 ∧ i + 3 ≤ 2147483647 := by omega
  have ba4 : -2147483648 ≤ i + 4 ∧ i + 4 ≤ 2147483647 := by omega
  have ba5 : -2147483648 ≤ i + 5 ∧ i + 5 ≤ 2147483647 := by omega
  have bb1 : 0 ≤ i + 1 ∧ i + 1 < ((sc.length - 1 : Nat) : Int) := by omega
  have bb2 : 0 ≤ i + 2 ∧ i + 2 < ((sc.length - 1 : Nat) : Int) := by omega
  have bb3 : 0 ≤ i + 3 ∧ i + 3 < ((sc.length - 1 : Nat) : Int) := by omega
  have bb4 : 0 ≤ i + 4 ∧ i + 4 < ((sc.length - 1 : Nat) : Int) := by omega
  have bb5 : 0 ≤ i + 5 ∧ i + 5 < ((sc.length - 1 : Nat) : Int) := by omega
  have hx := h.2.2.2.2.2.2.2.2.2.2
  obtain ⟨Lw, hLc, hLi⟩ := LA_Lw hk h.2.2.2.2.2.2.2.1
  refine zW_room (kc' := kc) (ks' := ks) (by omega) (by omega) ?_
  refine x_aload_n 865 rfl dL_law_864 1 rfl rfl ?_
  refine x_aload_n 866 rfl dL_law_865 0 rfl rfl ?_
  refine x_iload_n 867 rfl dL_law_866 3 rfl rfl ?_
  refine x_iconst 868 rfl dL_law_867 (by decide) ?_
  refine y_iadd 869 rfl dL_law_868 ba1 ?_
  refine x_sld 870 rfl dL_law_869 hsc bb1.1 bb1.2 ?_
  refine x_cVi 873 rfl lL_121 dL_law_870 (lyl0 hL) (lys0 hL) (c_X10_least hL hs hk hLc hx.1) rfl rfl (Nat.le_of_ble_eq_true rfl) (fun r1 M1 h1 => ?_)
  have e1 := rS_jF h1.2
  obtain ⟨q1, q2, q3, q4, q5, q6, q7, q8⟩ := IV_rd h hc e1
  refine x_aload_n 874 rfl dL_law_873 2 rfl rfl ?_
  refine x_aload_n 875 rfl dL_law_874 0 rfl rfl ?_
  refine x_iload_n 876 rfl dL_law_875 3 rfl rfl ?_
  refine x_iconst 877 rfl dL_law_876 (by decide) ?_
  refine y_iadd 878 rfl dL_law_877 ba1 ?_
  refine x_sld 879 rfl dL_law_878 hsc bb1.1 bb1.2 ?_
  refine x_cVi 882 rfl lL_124 dL_law_879 (lyl55 hL) (lys55 hL) (c_X11_least hL q1 (by rw [e1 57 (by decide) (by decide)]; exact hLi)) rfl rfl (Nat.le_of_ble_eq_true rfl) (fun r2 M2 h2 => ?_)
  have hr : r1 = r2 := by rw [h1.1, h2.1, e1 57 (by decide) (by decide)]
  have hI := iv_pure h (cK_jF h h1.2) (rK_mF q5 h2.2)
  refine x_icmp_eq 885 1171 rfl dL_law_882 (by decide) (fun c882 => ?_) (fun c882 => ?_)
  · exact K _ _ _ hI
  · first | exact absurd hr c882 | exact absurd hr.symm c882

set_option maxRecDepth 100000 in
set_option maxHeartbeats 4000000 in
theorem lw_c_crew {sc : List Int} (hsc : sc ≠ []) (hlen : sc.length ≤ 3073) {i : Int} (hi0 : 0 ≤ i) (hi6 : i + 6 ≤ ((sc.length - 1 : Nat) : Int)) {c : Int} (hc : c ≤ 1000) {kc ks : Nat} {S : zSh} {sz : Nat} {M : zMem} (h : IV c S sz M) (K : ∀ (S' : zSh) (sz' : Nat) (M' : zMem), IV (c + 1) S' sz' M' → zW mL_law 61 kc ks sc lwQ 1171 [some (zr (-2)), some (zn 0), some (zn 55), some (zi i)] [] sz' S' M') : zW mL_law 61 (kc + 11) (ks + 464) sc lwQ 887 [some (zr (-2)), some (zn 0), some (zn 55), some (zi i)] [] sz S M := by
  have hL := h.1
  have hs := h.2.1
  have hk := h.2.2.1
  have h54 := IV_54 h hc
  have ba1 : -2147483648 ≤ i + 1 ∧ i + 1 ≤ 2147483647 := by omega
  have ba2 : -2147483648 ≤ i + 2 ∧ i + 2 ≤ 2147483647 := by omega
  have ba3 : -2147483648 ≤ i + 3 ∧ i + 3 ≤ 2147483647 := by omega
  have ba4 : -2147483648 ≤ i + 4 ∧ i + 4 ≤ 2147483647 := by omega
  have ba5 : -2147483648 ≤ i + 5 ∧ i + 5 ≤ 2147483647 := by omega
  have bb1 : 0 ≤ i + 1 ∧ i + 1 < ((sc.length - 1 : Nat) : Int) := by omega
  have bb2 : 0 ≤ i + 2 ∧ i + 2 < ((sc.length - 1 : Nat) : Int) := by omega
  have bb3 : 0 ≤ i + 3 ∧ i + 3 < ((sc.length - 1 : Nat) : Int) := by omega
  have bb4 : 0 ≤ i + 4 ∧ i + 4 < ((sc.length - 1 : Nat) : Int) := by omega
  have bb5 : 0 ≤ i + 5 ∧ i + 5 < ((sc.length - 1 : Nat) : Int) := by omega
  have hx := h.2.2.2.2.2.2.2.2.2.2
  obtain ⟨Lw, hLc, hLi⟩ := LA_Lw hk h.2.2.2.2.2.2.2.1
  refine zW_room (kc' := kc) (ks' := ks) (by omega) (by omega) ?_
  refine x_aload_n 888 rfl dL_law_887 1 rfl rfl ?_
  refine x_aload_n 889 rfl dL_law_888 0 rfl rfl ?_
  refine x_iload_n 890 rfl dL_law_889 3 rfl rfl ?_
  refine x_iconst 891 rfl dL_law_890 (by decide) ?_
  refine y_iadd 892 rfl dL_law_891 ba1 ?_
  refine x_sld 893 rfl dL_law_892 hsc bb1.1 bb1.2 ?_
  refine x_aload_n 894 rfl dL_law_893 0 rfl rfl ?_
  refine x_iload_n 895 rfl dL_law_894 3 rfl rfl ?_
  refine x_iconst 896 rfl dL_law_895 (by decide) ?_
  refine y_iadd 897 rfl dL_law_896 ba2 ?_
  refine x_sld 898 rfl dL_law_897 hsc bb2.1 bb2.2 ?_
  refine x_aload_n 899 rfl dL_law_898 0 rfl rfl ?_
  refine x_iload_n 900 rfl dL_law_899 3 rfl rfl ?_
  refine x_iconst 901 rfl dL_law_900 (by decide) ?_
  refine y_iadd 902 rfl dL_law_901 ba3 ?_
  refine x_sld 903 rfl dL_law_902 hsc bb3.1 bb3.2 ?_
  refine x_cVj 906 rfl lL_125 dL_law_903 (lyl0 hL) (lys0 hL) (c_X10_crew hL hs hk hLc hx.1) rfl rfl (Nat.le_of_ble_eq_true rfl) (fun r1 M1 h1 => ?_)
  have e1 := rS_jF h1.2
  obtain ⟨q1, q2, q3, q4, q5, q6, q7, q8⟩ := IV_rd h hc e1
  refine x_aload_n 907 rfl dL_law_906 2 rfl rfl ?_
  refine x_aload_n 908 rfl dL_law_907 0 rfl rfl ?_
  refine x_iload_n 909 rfl dL_law_908 3 rfl rfl ?_
  refine x_iconst 910 rfl dL_law_909 (by decide) ?_
  refine y_iadd 911 rfl dL_law_910 ba1 ?_
  refine x_sld 912 rfl dL_law_911 hsc bb1.1 bb1.2 ?_
  refine x_aload_n 913 rfl dL_law_912 0 rfl rfl ?_
  refine x_iload_n 914 rfl dL_law_913 3 rfl rfl ?_
  refine x_iconst 915 rfl dL_law_914 (by decide) ?_
  refine y_iadd 916 rfl dL_law_915 ba2 ?_
  refine x_sld 917 rfl dL_law_916 hsc bb2.1 bb2.2 ?_
  refine x_aload_n 918 rfl dL_law_917 0 rfl rfl ?_
  refine x_iload_n 919 rfl dL_law_918 3 rfl rfl ?_
  refine x_iconst 920 rfl dL_law_919 (by decide) ?_
  refine y_iadd 921 rfl dL_law_920 ba3 ?_
  refine x_sld 922 rfl dL_law_921 hsc bb3.1 bb3.2 ?_
  refine x_cVj 925 rfl lL_128 dL_law_922 (lyl55 hL) (lys55 hL) (c_X11_crew hL q1 (by rw [e1 57 (by decide) (by decide)]; exact hLi)) rfl rfl (Nat.le_of_ble_eq_true rfl) (fun r2 M2 h2 => ?_)
  have hr : r1 = r2 := by rw [h1.1, h2.1, e1 57 (by decide) (by decide)]
  have hI := iv_pure h (cK_jF h h1.2) (rK_mF q5 h2.2)
  refine x_lcmp 926 rfl dL_law_925 ?_
  refine x_if_eq 929 1171 rfl dL_law_926 (by decide) (fun c926 => ?_) (fun c926 => ?_)
  · exact K _ _ _ hI
  · exfalso; apply c926; rw [hr]; simp [zcmp]

set_option maxRecDepth 100000 in
set_option maxHeartbeats 4000000 in
theorem lw_c_word {sc : List Int} (hsc : sc ≠ []) (hlen : sc.length ≤ 3073) {i : Int} (hi0 : 0 ≤ i) (hi6 : i + 6 ≤ ((sc.length - 1 : Nat) : Int)) {c : Int} (hc : c ≤ 1000) {kc ks : Nat} {S : zSh} {sz : Nat} {M : zMem} (h : IV c S sz M) (K : ∀ (S' : zSh) (sz' : Nat) (M' : zMem), IV (c + 1) S' sz' M' → zW mL_law 61 kc ks sc lwQ 1171 [some (zr (-2)), some (zn 0), some (zn 55), some (zi i)] [] sz' S' M') : zW mL_law 61 (kc + 11) (ks + 464) sc lwQ 931 [some (zr (-2)), some (zn 0), some (zn 55), some (zi i)] [] sz S M := by
  have hL := h.1
  have hs := h.2.1
  have hk := h.2.2.1
  have h54 := IV_54 h hc
  have ba1 : -2147483648 ≤ i + 1 ∧ i + 1 ≤ 2147483647 := by omega
  have ba2 : -2147483648 ≤ i + 2 ∧ i + 2 ≤ 2147483647 := by omega
  have ba3 : -2147483648 ≤ i + 3 ∧ i + 3 ≤ 2147483647 := by omega
  have ba4 : -2147483648 ≤ i + 4 ∧ i + 4 ≤ 2147483647 := by omega
  have ba5 : -2147483648 ≤ i + 5 ∧ i + 5 ≤ 2147483647 := by omega
  have bb1 : 0 ≤ i + 1 ∧ i + 1 < ((sc.length - 1 : Nat) : Int) := by omega
  have bb2 : 0 ≤ i + 2 ∧ i + 2 < ((sc.length - 1 : Nat) : Int) := by omega
  have bb3 : 0 ≤ i + 3 ∧ i + 3 < ((sc.length - 1 : Nat) : Int) := by omega
  have bb4 : 0 ≤ i + 4 ∧ i + 4 < ((sc.length - 1 : Nat) : Int) := by omega
  have bb5 : 0 ≤ i + 5 ∧ i + 5 < ((sc.length - 1 : Nat) : Int) := by omega
  have hx := h.2.2.2.2.2.2.2.2.2.2
  refine zW_room (kc' := kc) (ks' := ks) (by omega) (by omega) ?_
  refine x_aload_n 932 rfl dL_law_931 1 rfl rfl ?_
  refine x_aload_n 933 rfl dL_law_932 0 rfl rfl ?_
  refine x_iload_n 934 rfl dL_law_933 3 rfl rfl ?_
  refine x_iconst 935 rfl dL_law_934 (by decide) ?_
  refine y_iadd 936 rfl dL_law_935 ba1 ?_
  refine x_sld 937 rfl dL_law_936 hsc bb1.1 bb1.2 ?_
  refine x_aload_n 938 rfl dL_law_937 0 rfl rfl ?_
  refine x_iload_n 939 rfl dL_law_938 3 rfl rfl ?_
  refine x_iconst 940 rfl dL_law_939 (by decide) ?_
  refine y_iadd 941 rfl dL_law_940 ba2 ?_
  refine x_sld 942 rfl dL_law_941 hsc bb2.1 bb2.2 ?_
  refine x_cVi 945 rfl lL_129 dL_law_942 (lyl0 hL) (lys0 hL) (c_X10_word hL h54 hs hk) rfl rfl (Nat.le_of_ble_eq_true rfl) (fun r1 M1 h1 => ?_)
  have e1 : rS M M1 := by
    rcases h1 with ⟨-, -, e⟩ | ⟨-, -, -, e⟩ | ⟨-, -, -, -, e⟩ | ⟨-, -, -, -, e⟩
    · exact rS_ref e
    · exact rS_ref e
    · exact rS_ref e
    · exact rS_ok e
  obtain ⟨q1, q2, q3, q4, q5, q6, q7, q8⟩ := IV_rd h hc e1
  refine x_aload_n 946 rfl dL_law_945 2 rfl rfl ?_
  refine x_aload_n 947 rfl dL_law_946 0 rfl rfl ?_
  refine x_iload_n 948 rfl dL_law_947 3 rfl rfl ?_
  refine x_iconst 949 rfl dL_law_948 (by decide) ?_
  refine y_iadd 950 rfl dL_law_949 ba1 ?_
  refine x_sld 951 rfl dL_law_950 hsc bb1.1 bb1.2 ?_
  refine x_aload_n 952 rfl dL_law_951 0 rfl rfl ?_
  refine x_iload_n 953 rfl dL_law_952 3 rfl rfl ?_
  refine x_iconst 954 rfl dL_law_953 (by decide) ?_
  refine y_iadd 955 rfl dL_law_954 ba2 ?_
  refine x_sld 956 rfl dL_law_955 hsc bb2.1 bb2.2 ?_
  refine x_cVi 959 rfl lL_132 dL_law_956 (lyl55 hL) (lys55 hL) (c_X11_word hL q1 q2) rfl rfl (Nat.le_of_ble_eq_true rfl) (fun r2 M2 h2 => ?_)
  obtain ⟨hr, hI⟩ := iv_word h h1 (e1 57 (by decide) (by decide)) h2
  refine x_icmp_eq 962 1171 rfl dL_law_959 (by decide) (fun c959 => ?_) (fun c959 => ?_)
  · exact K _ _ _ hI
  · first | exact absurd hr c959 | exact absurd hr.symm c959

set_option maxRecDepth 100000 in
set_option maxHeartbeats 4000000 in
theorem lw_c_forget {sc : List Int} (hsc : sc ≠ []) (hlen : sc.length ≤ 3073) {i : Int} (hi0 : 0 ≤ i) (hi6 : i + 6 ≤ ((sc.length - 1 : Nat) : Int)) {c : Int} (hc : c ≤ 1000) {kc ks : Nat} {S : zSh} {sz : Nat} {M : zMem} (h : IV c S sz M) (K : ∀ (S' : zSh) (sz' : Nat) (M' : zMem), IV (c + 1) S' sz' M' → zW mL_law 61 kc ks sc lwQ 1171 [some (zr (-2)), some (zn 0), some (zn 55), some (zi i)] [] sz' S' M') : zW mL_law 61 (kc + 11) (ks + 464) sc lwQ 964 [some (zr (-2)), some (zn 0), some (zn 55), some (zi i)] [] sz S M := by
  have hL := h.1
  have hs := h.2.1
  have hk := h.2.2.1
  have h54 := IV_54 h hc
  have ba1 : -2147483648 ≤ i + 1 ∧ i + 1 ≤ 2147483647 := by omega
  have ba2 : -2147483648 ≤ i + 2 ∧ i + 2 ≤ 2147483647 := by omega
  have ba3 : -2147483648 ≤ i + 3 ∧ i + 3 ≤ 2147483647 := by omega
  have ba4 : -2147483648 ≤ i + 4 ∧ i + 4 ≤ 2147483647 := by omega
  have ba5 : -2147483648 ≤ i + 5 ∧ i + 5 ≤ 2147483647 := by omega
  have bb1 : 0 ≤ i + 1 ∧ i + 1 < ((sc.length - 1 : Nat) : Int) := by omega
  have bb2 : 0 ≤ i + 2 ∧ i + 2 < ((sc.length - 1 : Nat) : Int) := by omega
  have bb3 : 0 ≤ i + 3 ∧ i + 3 < ((sc.length - 1 : Nat) : Int) := by omega
  have bb4 : 0 ≤ i + 4 ∧ i + 4 < ((sc.length - 1 : Nat) : Int) := by omega
  have bb5 : 0 ≤ i + 5 ∧ i + 5 < ((sc.length - 1 : Nat) : Int) := by omega
  have hx := h.2.2.2.2.2.2.2.2.2.2
  refine zW_room (kc' := kc) (ks' := ks) (by omega) (by omega) ?_
  refine x_aload_n 965 rfl dL_law_964 1 rfl rfl ?_
  refine x_cVi 968 rfl lL_133 dL_law_965 (lyl0 hL) (lys0 hL) (c_X10_forget hL hs hk) rfl rfl (Nat.le_of_ble_eq_true rfl) (fun r1 M1 h1 => ?_)
  have e1 : rS M M1 := fun j a b => by rw [h1.2.1, z_up_ne (by omega)]
  obtain ⟨q1, q2, q3, q4, q5, q6, q7, q8⟩ := IV_rd h hc e1
  refine x_aload_n 969 rfl dL_law_968 2 rfl rfl ?_
  refine x_cVi 972 rfl lL_136 dL_law_969 (lyl55 hL) (lys55 hL) (c_X11_forget hL) rfl rfl (Nat.le_of_ble_eq_true rfl) (fun r2 M2 h2 => ?_)
  have hr : r1 = r2 := by rw [h1.1, h2.1, e1 57 (by decide) (by decide)]
  have hI := IV_mono (iv_forget h h1.2.1 h1.2.2 h2.2) (show c ≤ c + 1 by omega)
  refine x_icmp_eq 975 1171 rfl dL_law_972 (by decide) (fun c972 => ?_) (fun c972 => ?_)
  · exact K _ _ _ hI
  · first | exact absurd hr c972 | exact absurd hr.symm c972

set_option maxRecDepth 100000 in
set_option maxHeartbeats 4000000 in
theorem lw_c_barrels {sc : List Int} (hsc : sc ≠ []) (hlen : sc.length ≤ 3073) {i : Int} (hi0 : 0 ≤ i) (hi6 : i + 6 ≤ ((sc.length - 1 : Nat) : Int)) {c : Int} (hc : c ≤ 1000) {kc ks : Nat} {S : zSh} {sz : Nat} {M : zMem} (h : IV c S sz M) (K : ∀ (S' : zSh) (sz' : Nat) (M' : zMem), IV (c + 1) S' sz' M' → zW mL_law 61 kc ks sc lwQ 1171 [some (zr (-2)), some (zn 0), some (zn 55), some (zi i)] [] sz' S' M') : zW mL_law 61 (kc + 11) (ks + 464) sc lwQ 977 [some (zr (-2)), some (zn 0), some (zn 55), some (zi i)] [] sz S M := by
  have hL := h.1
  have hs := h.2.1
  have hk := h.2.2.1
  have h54 := IV_54 h hc
  have ba1 : -2147483648 ≤ i + 1 ∧ i + 1 ≤ 2147483647 := by omega
  have ba2 : -2147483648 ≤ i + 2 ∧ i + 2 ≤ 2147483647 := by omega
  have ba3 : -2147483648 ≤ i + 3 ∧ i + 3 ≤ 2147483647 := by omega
  have ba4 : -2147483648 ≤ i + 4 ∧ i + 4 ≤ 2147483647 := by omega
  have ba5 : -2147483648 ≤ i + 5 ∧ i + 5 ≤ 2147483647 := by omega
  have bb1 : 0 ≤ i + 1 ∧ i + 1 < ((sc.length - 1 : Nat) : Int) := by omega
  have bb2 : 0 ≤ i + 2 ∧ i + 2 < ((sc.length - 1 : Nat) : Int) := by omega
  have bb3 : 0 ≤ i + 3 ∧ i + 3 < ((sc.length - 1 : Nat) : Int) := by omega
  have bb4 : 0 ≤ i + 4 ∧ i + 4 < ((sc.length - 1 : Nat) : Int) := by omega
  have bb5 : 0 ≤ i + 5 ∧ i + 5 < ((sc.length - 1 : Nat) : Int) := by omega
  have hx := h.2.2.2.2.2.2.2.2.2.2
  refine zW_room (kc' := kc) (ks' := ks) (by omega) (by omega) ?_
  refine x_aload_n 978 rfl dL_law_977 1 rfl rfl ?_
  refine x_aload_n 979 rfl dL_law_978 0 rfl rfl ?_
  refine x_iload_n 980 rfl dL_law_979 3 rfl rfl ?_
  refine x_iconst 981 rfl dL_law_980 (by decide) ?_
  refine y_iadd 982 rfl dL_law_981 ba1 ?_
  refine x_sld 983 rfl dL_law_982 hsc bb1.1 bb1.2 ?_
  refine x_cVi 986 rfl lL_137 dL_law_983 (lyl0 hL) (lys0 hL) (c_X10_barrels hL hs hk) rfl rfl (Nat.le_of_ble_eq_true rfl) (fun r1 M1 h1 => ?_)
  have e1 := rS_pF h1.2
  obtain ⟨q1, q2, q3, q4, q5, q6, q7, q8⟩ := IV_rd h hc e1
  refine x_aload_n 987 rfl dL_law_986 2 rfl rfl ?_
  refine x_aload_n 988 rfl dL_law_987 0 rfl rfl ?_
  refine x_iload_n 989 rfl dL_law_988 3 rfl rfl ?_
  refine x_iconst 990 rfl dL_law_989 (by decide) ?_
  refine y_iadd 991 rfl dL_law_990 ba1 ?_
  refine x_sld 992 rfl dL_law_991 hsc bb1.1 bb1.2 ?_
  refine x_cVi 995 rfl lL_140 dL_law_992 (lyl55 hL) (lys55 hL) (c_X11_barrels hL q1) rfl rfl (Nat.le_of_ble_eq_true rfl) (fun r2 M2 h2 => ?_)
  have hr : r1 = r2 := by rw [h1.1, h2.1, e1 57 (by decide) (by decide)]
  have hI := iv_pure h (cK_pF h h1.2) (rK_eq q5 h2.2)
  refine x_icmp_eq 998 1171 rfl dL_law_995 (by decide) (fun c995 => ?_) (fun c995 => ?_)
  · exact K _ _ _ hI
  · first | exact absurd hr c995 | exact absurd hr.symm c995

set_option maxRecDepth 100000 in
set_option maxHeartbeats 4000000 in
theorem lw_c_ask {sc : List Int} (hsc : sc ≠ []) (hlen : sc.length ≤ 3073) {i : Int} (hi0 : 0 ≤ i) (hi6 : i + 6 ≤ ((sc.length - 1 : Nat) : Int)) {c : Int} (hc : c ≤ 1000) {kc ks : Nat} {S : zSh} {sz : Nat} {M : zMem} (h : IV c S sz M) (K : ∀ (S' : zSh) (sz' : Nat) (M' : zMem), IV (c + 1) S' sz' M' → zW mL_law 61 kc ks sc lwQ 1171 [some (zr (-2)), some (zn 0), some (zn 55), some (zi i)] [] sz' S' M') : zW mL_law 61 (kc + 11) (ks + 464) sc lwQ 1000 [some (zr (-2)), some (zn 0), some (zn 55), some (zi i)] [] sz S M := by
  have hL := h.1
  have hs := h.2.1
  have hk := h.2.2.1
  have h54 := IV_54 h hc
  have ba1 : -2147483648 ≤ i + 1 ∧ i + 1 ≤ 2147483647 := by omega
  have ba2 : -2147483648 ≤ i + 2 ∧ i + 2 ≤ 2147483647 := by omega
  have ba3 : -2147483648 ≤ i + 3 ∧ i + 3 ≤ 2147483647 := by omega
  have ba4 : -2147483648 ≤ i + 4 ∧ i + 4 ≤ 2147483647 := by omega
  have ba5 : -2147483648 ≤ i + 5 ∧ i + 5 ≤ 2147483647 := by omega
  have bb1 : 0 ≤ i + 1 ∧ i + 1 < ((sc.length - 1 : Nat) : Int) := by omega
  have bb2 : 0 ≤ i + 2 ∧ i + 2 < ((sc.length - 1 : Nat) : Int) := by omega
  have bb3 : 0 ≤ i + 3 ∧ i + 3 < ((sc.length - 1 : Nat) : Int) := by omega
  have bb4 : 0 ≤ i + 4 ∧ i + 4 < ((sc.length - 1 : Nat) : Int) := by omega
  have bb5 : 0 ≤ i + 5 ∧ i + 5 < ((sc.length - 1 : Nat) : Int) := by omega
  have hx := h.2.2.2.2.2.2.2.2.2.2
  refine zW_room (kc' := kc) (ks' := ks) (by omega) (by omega) ?_
  refine x_aload_n 1001 rfl dL_law_1000 1 rfl rfl ?_
  refine x_aload_n 1002 rfl dL_law_1001 0 rfl rfl ?_
  refine x_iload_n 1003 rfl dL_law_1002 3 rfl rfl ?_
  refine x_iconst 1004 rfl dL_law_1003 (by decide) ?_
  refine y_iadd 1005 rfl dL_law_1004 ba1 ?_
  refine x_sld 1006 rfl dL_law_1005 hsc bb1.1 bb1.2 ?_
  refine x_cVi 1009 rfl lL_141 dL_law_1006 (lyl0 hL) (lys0 hL) (c_X10_ask hL hs hk) rfl rfl (Nat.le_of_ble_eq_true rfl) (fun r1 M1 h1 => ?_)
  have e1 := rS_pF h1.2
  obtain ⟨q1, q2, q3, q4, q5, q6, q7, q8⟩ := IV_rd h hc e1
  refine x_aload_n 1010 rfl dL_law_1009 2 rfl rfl ?_
  refine x_aload_n 1011 rfl dL_law_1010 0 rfl rfl ?_
  refine x_iload_n 1012 rfl dL_law_1011 3 rfl rfl ?_
  refine x_iconst 1013 rfl dL_law_1012 (by decide) ?_
  refine y_iadd 1014 rfl dL_law_1013 ba1 ?_
  refine x_sld 1015 rfl dL_law_1014 hsc bb1.1 bb1.2 ?_
  refine x_cVi 1018 rfl lL_144 dL_law_1015 (lyl55 hL) (lys55 hL) (c_X11_ask hL q1) rfl rfl (Nat.le_of_ble_eq_true rfl) (fun r2 M2 h2 => ?_)
  have hr : r1 = r2 := by rw [h1.1, h2.1, e1 57 (by decide) (by decide)]
  have hI := iv_pure h (cK_pF h h1.2) (rK_eq q5 h2.2)
  refine x_icmp_eq 1021 1171 rfl dL_law_1018 (by decide) (fun c1018 => ?_) (fun c1018 => ?_)
  · exact K _ _ _ hI
  · first | exact absurd hr c1018 | exact absurd hr.symm c1018

set_option maxRecDepth 100000 in
set_option maxHeartbeats 4000000 in
theorem lw_c_years {sc : List Int} (hsc : sc ≠ []) (hlen : sc.length ≤ 3073) {i : Int} (hi0 : 0 ≤ i) (hi6 : i + 6 ≤ ((sc.length - 1 : Nat) : Int)) {c : Int} (hc : c ≤ 1000) {kc ks : Nat} {S : zSh} {sz : Nat} {M : zMem} (h : IV c S sz M) (K : ∀ (S' : zSh) (sz' : Nat) (M' : zMem), IV (c + 1) S' sz' M' → zW mL_law 61 kc ks sc lwQ 1171 [some (zr (-2)), some (zn 0), some (zn 55), some (zi i)] [] sz' S' M') : zW mL_law 61 (kc + 11) (ks + 464) sc lwQ 1023 [some (zr (-2)), some (zn 0), some (zn 55), some (zi i)] [] sz S M := by
  have hL := h.1
  have hs := h.2.1
  have hk := h.2.2.1
  have h54 := IV_54 h hc
  have ba1 : -2147483648 ≤ i + 1 ∧ i + 1 ≤ 2147483647 := by omega
  have ba2 : -2147483648 ≤ i + 2 ∧ i + 2 ≤ 2147483647 := by omega
  have ba3 : -2147483648 ≤ i + 3 ∧ i + 3 ≤ 2147483647 := by omega
  have ba4 : -2147483648 ≤ i + 4 ∧ i + 4 ≤ 2147483647 := by omega
  have ba5 : -2147483648 ≤ i + 5 ∧ i + 5 ≤ 2147483647 := by omega
  have bb1 : 0 ≤ i + 1 ∧ i + 1 < ((sc.length - 1 : Nat) : Int) := by omega
  have bb2 : 0 ≤ i + 2 ∧ i + 2 < ((sc.length - 1 : Nat) : Int) := by omega
  have bb3 : 0 ≤ i + 3 ∧ i + 3 < ((sc.length - 1 : Nat) : Int) := by omega
  have bb4 : 0 ≤ i + 4 ∧ i + 4 < ((sc.length - 1 : Nat) : Int) := by omega
  have bb5 : 0 ≤ i + 5 ∧ i + 5 < ((sc.length - 1 : Nat) : Int) := by omega
  have hx := h.2.2.2.2.2.2.2.2.2.2
  obtain ⟨Lw, hLc, hLi⟩ := LA_Lw hk h.2.2.2.2.2.2.2.1
  have hlt : M 0 3 = -1 ∨ ∃ a : Nat, M 0 3 = (a : Int) ∧ 75 ≤ a ∧ SH S sz a := by
    rcases h.2.2.2.2.2.2.2.2.2.1.2.2.1 with ⟨-, p, -⟩ | ⟨a, kd, p1, p2, p3, -⟩
    · exact .inl p
    · exact .inr ⟨a, p1, p2, p3⟩
  refine zW_room (kc' := kc + 11) (ks' := ks + 89) (by omega) (by omega) ?_
  refine x_aload_n 1024 rfl dL_law_1023 1 rfl rfl ?_
  refine x_aload_n 1025 rfl dL_law_1024 0 rfl rfl ?_
  refine x_iload_n 1026 rfl dL_law_1025 3 rfl rfl ?_
  refine x_iconst 1027 rfl dL_law_1026 (by decide) ?_
  refine y_iadd 1028 rfl dL_law_1027 ba1 ?_
  refine x_sld 1029 rfl dL_law_1028 hsc bb1.1 bb1.2 ?_
  refine x_aload_n 1030 rfl dL_law_1029 0 rfl rfl ?_
  refine x_iload_n 1031 rfl dL_law_1030 3 rfl rfl ?_
  refine x_iconst 1032 rfl dL_law_1031 (by decide) ?_
  refine y_iadd 1033 rfl dL_law_1032 ba2 ?_
  refine x_sld 1034 rfl dL_law_1033 hsc bb2.1 bb2.2 ?_
  refine x_callV 1037 rfl lL_145 dL_law_1034 (lyl0 hL) (lys0 hL) (c_X10_years hL h54 h.2.2.2.2.2.2.2.2.1 hs hk hLc hx.1 hlt) rfl rfl (Nat.le_of_ble_eq_true rfl) ?_
  intro v sz1 S1 M1 h1
  have hv1 : (∃ r1, v = some (zi r1)) ∧ LY S1 sz1 ∧ rS M M1 := by
    have hz := hL.1
    rcases h1 with ⟨-, e, e2, e3, e4⟩ | ⟨-, -, e, e2, e3, e4⟩ | ⟨-, -, e, a, e2, -, -, e3, -, -⟩
    · subst e2; subst e3; exact ⟨⟨_, e⟩, hL, rS_ref e4⟩
    · subst e2; subst e3; exact ⟨⟨_, e⟩, hL, rS_ref e4⟩
    · rcases e2 with ⟨-, p1, -, p2, p3⟩ | ⟨-, p1, p2, p3⟩
      · subst p2; subst p3; exact ⟨⟨_, e⟩, hL, fun j p q => e3 j (by omega) (by omega) (by omega) (by omega) (by omega) (by omega)⟩
      · subst p2; rw [p3]; exact ⟨⟨_, e⟩, LY_sh hL, fun j p q => e3 j (by omega) (by omega) (by omega) (by omega) (by omega) (by omega)⟩
  obtain ⟨⟨r1, rfl⟩, hL1, e1⟩ := hv1
  obtain ⟨q1, q2, q3, q4, q5, q6, q7, q8⟩ := IV_rd h hc e1
  show zW mL_law 61 kc ks sc lwQ _ _ [zi r1] sz1 S1 M1
  refine x_aload_n 1038 rfl dL_law_1037 2 rfl rfl ?_
  refine x_aload_n 1039 rfl dL_law_1038 0 rfl rfl ?_
  refine x_iload_n 1040 rfl dL_law_1039 3 rfl rfl ?_
  refine x_iconst 1041 rfl dL_law_1040 (by decide) ?_
  refine y_iadd 1042 rfl dL_law_1041 ba1 ?_
  refine x_sld 1043 rfl dL_law_1042 hsc bb1.1 bb1.2 ?_
  refine x_aload_n 1044 rfl dL_law_1043 0 rfl rfl ?_
  refine x_iload_n 1045 rfl dL_law_1044 3 rfl rfl ?_
  refine x_iconst 1046 rfl dL_law_1045 (by decide) ?_
  refine y_iadd 1047 rfl dL_law_1046 ba2 ?_
  refine x_sld 1048 rfl dL_law_1047 hsc bb2.1 bb2.2 ?_
  refine x_cVi 1051 rfl lL_148 dL_law_1048 (lyl55 hL1) (lys55 hL1) (c_X11_years hL1 q1 q2 (by rw [e1 57 (by decide) (by decide)]; exact hLi)) rfl rfl (Nat.le_of_ble_eq_true rfl) (fun r2 M2 h2 => ?_)
  obtain ⟨hr, hI⟩ := iv_years h h1 h2
  have hr : r1 = r2 := by cases hr; rfl
  refine x_icmp_eq 1054 1171 rfl dL_law_1051 (by decide) (fun c1051 => ?_) (fun c1051 => ?_)
  · exact K _ _ _ hI
  · first | exact absurd hr c1051 | exact absurd hr.symm c1051

set_option maxRecDepth 100000 in
set_option maxHeartbeats 4000000 in
theorem lw_c_drawn {sc : List Int} (hsc : sc ≠ []) (hlen : sc.length ≤ 3073) {i : Int} (hi0 : 0 ≤ i) (hi6 : i + 6 ≤ ((sc.length - 1 : Nat) : Int)) {c : Int} (hc : c ≤ 1000) {kc ks : Nat} {S : zSh} {sz : Nat} {M : zMem} (h : IV c S sz M) (K : ∀ (S' : zSh) (sz' : Nat) (M' : zMem), IV (c + 1) S' sz' M' → zW mL_law 61 kc ks sc lwQ 1171 [some (zr (-2)), some (zn 0), some (zn 55), some (zi i)] [] sz' S' M') : zW mL_law 61 (kc + 11) (ks + 464) sc lwQ 1056 [some (zr (-2)), some (zn 0), some (zn 55), some (zi i)] [] sz S M := by
  have hL := h.1
  have hs := h.2.1
  have hk := h.2.2.1
  have h54 := IV_54 h hc
  have ba1 : -2147483648 ≤ i + 1 ∧ i + 1 ≤ 2147483647 := by omega
  have ba2 : -2147483648 ≤ i + 2 ∧ i + 2 ≤ 2147483647 := by omega
  have ba3 : -2147483648 ≤ i + 3 ∧ i + 3 ≤ 2147483647 := by omega
  have ba4 : -2147483648 ≤ i + 4 ∧ i + 4 ≤ 2147483647 := by omega
  have ba5 : -2147483648 ≤ i + 5 ∧ i + 5 ≤ 2147483647 := by omega
  have bb1 : 0 ≤ i + 1 ∧ i + 1 < ((sc.length - 1 : Nat) : Int) := by omega
  have bb2 : 0 ≤ i + 2 ∧ i + 2 < ((sc.length - 1 : Nat) : Int) := by omega
  have bb3 : 0 ≤ i + 3 ∧ i + 3 < ((sc.length - 1 : Nat) : Int) := by omega
  have bb4 : 0 ≤ i + 4 ∧ i + 4 < ((sc.length - 1 : Nat) : Int) := by omega
  have bb5 : 0 ≤ i + 5 ∧ i + 5 < ((sc.length - 1 : Nat) : Int) := by omega
  have hx := h.2.2.2.2.2.2.2.2.2.2
  refine zW_room (kc' := kc) (ks' := ks) (by omega) (by omega) ?_
  rcases h.2.2.2.2.2.2.2.2.2.1.2.2.1 with ⟨p1, p2, p3⟩ | ⟨a, kd, p1, p2, p3, p4, p5, p6, p7, p8⟩
  · refine x_aload_n 1057 rfl dL_law_1056 1 rfl rfl ?_
    refine x_aload_n 1058 rfl dL_law_1057 0 rfl rfl ?_
    refine x_iload_n 1059 rfl dL_law_1058 3 rfl rfl ?_
    refine x_iconst 1060 rfl dL_law_1059 (by decide) ?_
    refine y_iadd 1061 rfl dL_law_1060 ba1 ?_
    refine x_sld 1062 rfl dL_law_1061 hsc bb1.1 bb1.2 ?_
    refine x_aload_n 1063 rfl dL_law_1062 0 rfl rfl ?_
    refine x_iload_n 1064 rfl dL_law_1063 3 rfl rfl ?_
    refine x_iconst 1065 rfl dL_law_1064 (by decide) ?_
    refine y_iadd 1066 rfl dL_law_1065 ba2 ?_
    refine x_sld 1067 rfl dL_law_1066 hsc bb2.1 bb2.2 ?_
    refine x_cVi 1070 rfl lL_149 dL_law_1067 (lyl0 hL) (lys0 hL) (c_X10_drawn0 hL p2) rfl rfl (Nat.le_of_ble_eq_true rfl) (fun r1 M1 h1 => ?_)
    have e1 := rS_eq h1.2
    obtain ⟨q1, q2, q3, q4, q5, q6, q7, q8⟩ := IV_rd h hc e1
    refine x_aload_n 1071 rfl dL_law_1070 2 rfl rfl ?_
    refine x_aload_n 1072 rfl dL_law_1071 0 rfl rfl ?_
    refine x_iload_n 1073 rfl dL_law_1072 3 rfl rfl ?_
    refine x_iconst 1074 rfl dL_law_1073 (by decide) ?_
    refine y_iadd 1075 rfl dL_law_1074 ba1 ?_
    refine x_sld 1076 rfl dL_law_1075 hsc bb1.1 bb1.2 ?_
    refine x_aload_n 1077 rfl dL_law_1076 0 rfl rfl ?_
    refine x_iload_n 1078 rfl dL_law_1077 3 rfl rfl ?_
    refine x_iconst 1079 rfl dL_law_1078 (by decide) ?_
    refine y_iadd 1080 rfl dL_law_1079 ba2 ?_
    refine x_sld 1081 rfl dL_law_1080 hsc bb2.1 bb2.2 ?_
    refine x_cVi 1084 rfl lL_152 dL_law_1081 (lyl55 hL) (lys55 hL) (c_X11_drawn hL q7 q8) rfl rfl (Nat.le_of_ble_eq_true rfl) (fun r2 M2 h2 => ?_)
    have hr : r1 = r2 := by rw [h1.1, h2.1, e1 55 (by decide) (by decide), p1]; unfold zdrawn; rw [if_pos rfl]
    have hI := iv_pure h (cK_eq h h1.2) (rK_eq q5 h2.2)
    refine x_icmp_eq 1087 1171 rfl dL_law_1084 (by decide) (fun c1084 => ?_) (fun c1084 => ?_)
    · exact K _ _ _ hI
    · first | exact absurd hr c1084 | exact absurd hr.symm c1084
  · refine x_aload_n 1057 rfl dL_law_1056 1 rfl rfl ?_
    refine x_aload_n 1058 rfl dL_law_1057 0 rfl rfl ?_
    refine x_iload_n 1059 rfl dL_law_1058 3 rfl rfl ?_
    refine x_iconst 1060 rfl dL_law_1059 (by decide) ?_
    refine y_iadd 1061 rfl dL_law_1060 ba1 ?_
    refine x_sld 1062 rfl dL_law_1061 hsc bb1.1 bb1.2 ?_
    refine x_aload_n 1063 rfl dL_law_1062 0 rfl rfl ?_
    refine x_iload_n 1064 rfl dL_law_1063 3 rfl rfl ?_
    refine x_iconst 1065 rfl dL_law_1064 (by decide) ?_
    refine y_iadd 1066 rfl dL_law_1065 ba2 ?_
    refine x_sld 1067 rfl dL_law_1066 hsc bb2.1 bb2.2 ?_
    refine x_cVi 1070 rfl lL_149 dL_law_1067 (lyl0 hL) (lys0 hL) (c_X10_drawn hL p1 p3 p4 p5) rfl rfl (Nat.le_of_ble_eq_true rfl) (fun r1 M1 h1 => ?_)
    have e1 := rS_eq h1.2
    obtain ⟨q1, q2, q3, q4, q5, q6, q7, q8⟩ := IV_rd h hc e1
    refine x_aload_n 1071 rfl dL_law_1070 2 rfl rfl ?_
    refine x_aload_n 1072 rfl dL_law_1071 0 rfl rfl ?_
    refine x_iload_n 1073 rfl dL_law_1072 3 rfl rfl ?_
    refine x_iconst 1074 rfl dL_law_1073 (by decide) ?_
    refine y_iadd 1075 rfl dL_law_1074 ba1 ?_
    refine x_sld 1076 rfl dL_law_1075 hsc bb1.1 bb1.2 ?_
    refine x_aload_n 1077 rfl dL_law_1076 0 rfl rfl ?_
    refine x_iload_n 1078 rfl dL_law_1077 3 rfl rfl ?_
    refine x_iconst 1079 rfl dL_law_1078 (by decide) ?_
    refine y_iadd 1080 rfl dL_law_1079 ba2 ?_
    refine x_sld 1081 rfl dL_law_1080 hsc bb2.1 bb2.2 ?_
    refine x_cVi 1084 rfl lL_152 dL_law_1081 (lyl55 hL) (lys55 hL) (c_X11_drawn hL q7 q8) rfl rfl (Nat.le_of_ble_eq_true rfl) (fun r2 M2 h2 => ?_)
    have hr : r1 = r2 := by rw [h1.1, h2.1, e1 55 (by decide) (by decide), e1 74 (by decide) (by decide), p6, p7]; exact zdrawn_congr (by have := p5.1; omega) (by have := p5.1; omega) p8
    have hI := iv_pure h (cK_eq h h1.2) (rK_eq q5 h2.2)
    refine x_icmp_eq 1087 1171 rfl dL_law_1084 (by decide) (fun c1084 => ?_) (fun c1084 => ?_)
    · exact K _ _ _ hI
    · first | exact absurd hr c1084 | exact absurd hr.symm c1084

set_option maxRecDepth 100000 in
set_option maxHeartbeats 4000000 in
theorem lw_c_image {sc : List Int} (hsc : sc ≠ []) (hlen : sc.length ≤ 3073) {i : Int} (hi0 : 0 ≤ i) (hi6 : i + 6 ≤ ((sc.length - 1 : Nat) : Int)) {c : Int} (hc : c ≤ 1000) {kc ks : Nat} {S : zSh} {sz : Nat} {M : zMem} (h : IV c S sz M) (K : ∀ (S' : zSh) (sz' : Nat) (M' : zMem), IV (c + 1) S' sz' M' → zW mL_law 61 kc ks sc lwQ 1171 [some (zr (-2)), some (zn 0), some (zn 55), some (zi i)] [] sz' S' M') : zW mL_law 61 (kc + 11) (ks + 464) sc lwQ 1089 [some (zr (-2)), some (zn 0), some (zn 55), some (zi i)] [] sz S M := by
  have hL := h.1
  have hs := h.2.1
  have hk := h.2.2.1
  have h54 := IV_54 h hc
  have ba1 : -2147483648 ≤ i + 1 ∧ i + 1 ≤ 2147483647 := by omega
  have ba2 : -2147483648 ≤ i + 2 ∧ i + 2 ≤ 2147483647 := by omega
  have ba3 : -2147483648 ≤ i + 3 ∧ i + 3 ≤ 2147483647 := by omega
  have ba4 : -2147483648 ≤ i + 4 ∧ i + 4 ≤ 2147483647 := by omega
  have ba5 : -2147483648 ≤ i + 5 ∧ i + 5 ≤ 2147483647 := by omega
  have bb1 : 0 ≤ i + 1 ∧ i + 1 < ((sc.length - 1 : Nat) : Int) := by omega
  have bb2 : 0 ≤ i + 2 ∧ i + 2 < ((sc.length - 1 : Nat) : Int) := by omega
  have bb3 : 0 ≤ i + 3 ∧ i + 3 < ((sc.length - 1 : Nat) : Int) := by omega
  have bb4 : 0 ≤ i + 4 ∧ i + 4 < ((sc.length - 1 : Nat) : Int) := by omega
  have bb5 : 0 ≤ i + 5 ∧ i + 5 < ((sc.length - 1 : Nat) : Int) := by omega
  have hx := h.2.2.2.2.2.2.2.2.2.2
  have himg : ∀ j, j < 2 → M 23 j = -1 ∨ ∃ a : Nat, M 23 j = (a : Int) ∧ 75 ≤ a ∧ SH S sz a ∧ lwT S sz M a := by
    intro j hj
    have hIM : IM S sz M M j := by
      have : j = 0 ∨ j = 1 := by omega
      rcases this with rfl | rfl
      · exact h.2.2.2.2.2.2.2.2.2.1.1
      · exact h.2.2.2.2.2.2.2.2.2.1.2.1
    rcases hIM with ⟨-, p⟩ | ⟨-, a, p1, p2, p3, p4, -⟩
    · exact .inl p
    · exact .inr ⟨a, p1, p2, p3, p4⟩
  refine zW_room (kc' := kc + 11) (ks' := ks + 89) (by omega) (by omega) ?_
  refine x_aload_n 1090 rfl dL_law_1089 1 rfl rfl ?_
  refine x_aload_n 1091 rfl dL_law_1090 0 rfl rfl ?_
  refine x_iload_n 1092 rfl dL_law_1091 3 rfl rfl ?_
  refine x_iconst 1093 rfl dL_law_1092 (by decide) ?_
  refine y_iadd 1094 rfl dL_law_1093 ba1 ?_
  refine x_sld 1095 rfl dL_law_1094 hsc bb1.1 bb1.2 ?_
  refine x_callV 1098 rfl lL_153 dL_law_1095 (lyl0 hL) (lys0 hL) (c_X10_image hL h54 h.2.2.2.2.2.2.2.2.1 (fun j hj => by rcases himg j hj with p | ⟨a, p1, p2, p3, -⟩; exact .inl p; exact .inr ⟨a, p1, p2, p3⟩)) rfl rfl (Nat.le_of_ble_eq_true rfl) ?_
  intro v sz1 S1 M1 h1
  have hv1 : (∃ r1, v = some (zi r1)) ∧ LY S1 sz1 ∧ rS M M1 := by
    have hz := hL.1
    rcases h1 with ⟨-, e, e2, e3, e4⟩ | ⟨-, e, a, ⟨e2, -, -, e3⟩, -, -⟩
    · subst e2; subst e3; exact ⟨⟨_, e⟩, hL, rS_ref e4⟩
    · rcases e2 with ⟨-, p1, -, p2, p3⟩ | ⟨-, p1, p2, p3⟩
      · subst p2; subst p3; exact ⟨⟨_, e⟩, hL, fun j p q => e3 j (by omega) (by omega) ⟨by omega, by omega⟩⟩
      · subst p2; rw [p3]; exact ⟨⟨_, e⟩, LY_sh hL, fun j p q => e3 j (by omega) (by omega) ⟨by omega, by omega⟩⟩
  obtain ⟨⟨r1, rfl⟩, hL1, e1⟩ := hv1
  obtain ⟨q1, q2, q3, q4, q5, q6, q7, q8⟩ := IV_rd h hc e1
  show zW mL_law 61 kc ks sc lwQ _ _ [zi r1] sz1 S1 M1
  refine x_aload_n 1099 rfl dL_law_1098 2 rfl rfl ?_
  refine x_aload_n 1100 rfl dL_law_1099 0 rfl rfl ?_
  refine x_iload_n 1101 rfl dL_law_1100 3 rfl rfl ?_
  refine x_iconst 1102 rfl dL_law_1101 (by decide) ?_
  refine y_iadd 1103 rfl dL_law_1102 ba1 ?_
  refine x_sld 1104 rfl dL_law_1103 hsc bb1.1 bb1.2 ?_
  refine x_cVi 1107 rfl lL_156 dL_law_1104 (lyl55 hL1) (lys55 hL1) (c_X11_image hL1 q2) rfl rfl (Nat.le_of_ble_eq_true rfl) (fun r2 M2 h2 => ?_)
  obtain ⟨hr, hI⟩ := iv_image h h1 h2
  have hr : r1 = r2 := by cases hr; rfl
  refine x_icmp_eq 1110 1171 rfl dL_law_1107 (by decide) (fun c1107 => ?_) (fun c1107 => ?_)
  · exact K _ _ _ hI
  · first | exact absurd hr c1107 | exact absurd hr.symm c1107

set_option maxRecDepth 100000 in
set_option maxHeartbeats 4000000 in
theorem lw_c_back {sc : List Int} (hsc : sc ≠ []) (hlen : sc.length ≤ 3073) {i : Int} (hi0 : 0 ≤ i) (hi6 : i + 6 ≤ ((sc.length - 1 : Nat) : Int)) {c : Int} (hc : c ≤ 1000) {kc ks : Nat} {S : zSh} {sz : Nat} {M : zMem} (h : IV c S sz M) (K : ∀ (S' : zSh) (sz' : Nat) (M' : zMem), IV (c + 1) S' sz' M' → zW mL_law 61 kc ks sc lwQ 1171 [some (zr (-2)), some (zn 0), some (zn 55), some (zi i)] [] sz' S' M') : zW mL_law 61 (kc + 11) (ks + 464) sc lwQ 1112 [some (zr (-2)), some (zn 0), some (zn 55), some (zi i)] [] sz S M := by
  have hL := h.1
  have hs := h.2.1
  have hk := h.2.2.1
  have h54 := IV_54 h hc
  have ba1 : -2147483648 ≤ i + 1 ∧ i + 1 ≤ 2147483647 := by omega
  have ba2 : -2147483648 ≤ i + 2 ∧ i + 2 ≤ 2147483647 := by omega
  have ba3 : -2147483648 ≤ i + 3 ∧ i + 3 ≤ 2147483647 := by omega
  have ba4 : -2147483648 ≤ i + 4 ∧ i + 4 ≤ 2147483647 := by omega
  have ba5 : -2147483648 ≤ i + 5 ∧ i + 5 ≤ 2147483647 := by omega
  have bb1 : 0 ≤ i + 1 ∧ i + 1 < ((sc.length - 1 : Nat) : Int) := by omega
  have bb2 : 0 ≤ i + 2 ∧ i + 2 < ((sc.length - 1 : Nat) : Int) := by omega
  have bb3 : 0 ≤ i + 3 ∧ i + 3 < ((sc.length - 1 : Nat) : Int) := by omega
  have bb4 : 0 ≤ i + 4 ∧ i + 4 < ((sc.length - 1 : Nat) : Int) := by omega
  have bb5 : 0 ≤ i + 5 ∧ i + 5 < ((sc.length - 1 : Nat) : Int) := by omega
  have hx := h.2.2.2.2.2.2.2.2.2.2
  have himg : ∀ j, j < 2 → M 23 j = -1 ∨ ∃ a : Nat, M 23 j = (a : Int) ∧ 75 ≤ a ∧ SH S sz a ∧ lwT S sz M a := by
    intro j hj
    have hIM : IM S sz M M j := by
      have : j = 0 ∨ j = 1 := by omega
      rcases this with rfl | rfl
      · exact h.2.2.2.2.2.2.2.2.2.1.1
      · exact h.2.2.2.2.2.2.2.2.2.1.2.1
    rcases hIM with ⟨-, p⟩ | ⟨-, a, p1, p2, p3, p4, -⟩
    · exact .inl p
    · exact .inr ⟨a, p1, p2, p3, p4⟩
  refine zW_room (kc' := kc) (ks' := ks) (by omega) (by omega) ?_
  refine x_aload_n 1113 rfl dL_law_1112 1 rfl rfl ?_
  refine x_aload_n 1114 rfl dL_law_1113 0 rfl rfl ?_
  refine x_iload_n 1115 rfl dL_law_1114 3 rfl rfl ?_
  refine x_iconst 1116 rfl dL_law_1115 (by decide) ?_
  refine y_iadd 1117 rfl dL_law_1116 ba1 ?_
  refine x_sld 1118 rfl dL_law_1117 hsc bb1.1 bb1.2 ?_
  refine x_cVi 1121 rfl lL_157 dL_law_1118 (lyl0 hL) (lys0 hL) (c_X10_back hL h54 himg) rfl rfl (Nat.le_of_ble_eq_true rfl) (fun r1 M1 h1 => ?_)
  have e1 : rS M M1 := by
    intro j a b
    rcases h1 with ⟨-, -, e⟩ | ⟨-, -, -, e⟩ | ⟨-, -, a, -, -, -, e, -, -⟩
    · exact rS_ref e j (by omega) (by omega)
    · exact rS_ref e j (by omega) (by omega)
    · exact e j (by omega) (by omega) (by omega)
  obtain ⟨q1, q2, q3, q4, q5, q6, q7, q8⟩ := IV_rd h hc e1
  refine x_aload_n 1122 rfl dL_law_1121 2 rfl rfl ?_
  refine x_aload_n 1123 rfl dL_law_1122 0 rfl rfl ?_
  refine x_iload_n 1124 rfl dL_law_1123 3 rfl rfl ?_
  refine x_iconst 1125 rfl dL_law_1124 (by decide) ?_
  refine y_iadd 1126 rfl dL_law_1125 ba1 ?_
  refine x_sld 1127 rfl dL_law_1126 hsc bb1.1 bb1.2 ?_
  refine x_cVi 1130 rfl lL_160 dL_law_1127 (lyl55 hL) (lys55 hL) (c_X11_back hL q2 q6) rfl rfl (Nat.le_of_ble_eq_true rfl) (fun r2 M2 h2 => ?_)
  obtain ⟨hr, hI⟩ := iv_back h h1 h2
  refine x_icmp_eq 1133 1171 rfl dL_law_1130 (by decide) (fun c1130 => ?_) (fun c1130 => ?_)
  · exact K _ _ _ hI
  · first | exact absurd hr c1130 | exact absurd hr.symm c1130

set_option maxRecDepth 100000 in
set_option maxHeartbeats 4000000 in
theorem lw_c_count {sc : List Int} (hsc : sc ≠ []) (hlen : sc.length ≤ 3073) {i : Int} (hi0 : 0 ≤ i) (hi6 : i + 6 ≤ ((sc.length - 1 : Nat) : Int)) {c : Int} (hc : c ≤ 1000) {kc ks : Nat} {S : zSh} {sz : Nat} {M : zMem} (h : IV c S sz M) (K : ∀ (S' : zSh) (sz' : Nat) (M' : zMem), IV (c + 1) S' sz' M' → zW mL_law 61 kc ks sc lwQ 1171 [some (zr (-2)), some (zn 0), some (zn 55), some (zi i)] [] sz' S' M') : zW mL_law 61 (kc + 11) (ks + 464) sc lwQ 1135 [some (zr (-2)), some (zn 0), some (zn 55), some (zi i)] [] sz S M := by
  have hL := h.1
  have hs := h.2.1
  have hk := h.2.2.1
  have h54 := IV_54 h hc
  have ba1 : -2147483648 ≤ i + 1 ∧ i + 1 ≤ 2147483647 := by omega
  have ba2 : -2147483648 ≤ i + 2 ∧ i + 2 ≤ 2147483647 := by omega
  have ba3 : -2147483648 ≤ i + 3 ∧ i + 3 ≤ 2147483647 := by omega
  have ba4 : -2147483648 ≤ i + 4 ∧ i + 4 ≤ 2147483647 := by omega
  have ba5 : -2147483648 ≤ i + 5 ∧ i + 5 ≤ 2147483647 := by omega
  have bb1 : 0 ≤ i + 1 ∧ i + 1 < ((sc.length - 1 : Nat) : Int) := by omega
  have bb2 : 0 ≤ i + 2 ∧ i + 2 < ((sc.length - 1 : Nat) : Int) := by omega
  have bb3 : 0 ≤ i + 3 ∧ i + 3 < ((sc.length - 1 : Nat) : Int) := by omega
  have bb4 : 0 ≤ i + 4 ∧ i + 4 < ((sc.length - 1 : Nat) : Int) := by omega
  have bb5 : 0 ≤ i + 5 ∧ i + 5 < ((sc.length - 1 : Nat) : Int) := by omega
  have hx := h.2.2.2.2.2.2.2.2.2.2
  obtain ⟨l, n0, hlr, hl2, h32, hv⟩ := h.2.2.2.2.2.2.1
  refine zW_room (kc' := kc) (ks' := ks) (by omega) (by omega) ?_
  refine x_aload_n 1136 rfl dL_law_1135 1 rfl rfl ?_
  refine x_aload_n 1137 rfl dL_law_1136 0 rfl rfl ?_
  refine x_iload_n 1138 rfl dL_law_1137 3 rfl rfl ?_
  refine x_iconst 1139 rfl dL_law_1138 (by decide) ?_
  refine y_iadd 1140 rfl dL_law_1139 ba1 ?_
  refine x_sld 1141 rfl dL_law_1140 hsc bb1.1 bb1.2 ?_
  refine x_cVi 1144 rfl lL_161 dL_law_1141 (lyl0 hL) (lys0 hL) (c_X10_count hL hs hk) rfl rfl (Nat.le_of_ble_eq_true rfl) (fun r1 M1 h1 => ?_)
  have e1 := rS_eq h1.2
  obtain ⟨q1, q2, q3, q4, q5, q6, q7, q8⟩ := IV_rd h hc e1
  refine x_aload_n 1145 rfl dL_law_1144 2 rfl rfl ?_
  refine x_aload_n 1146 rfl dL_law_1145 0 rfl rfl ?_
  refine x_iload_n 1147 rfl dL_law_1146 3 rfl rfl ?_
  refine x_iconst 1148 rfl dL_law_1147 (by decide) ?_
  refine y_iadd 1149 rfl dL_law_1148 ba1 ?_
  refine x_sld 1150 rfl dL_law_1149 hsc bb1.1 bb1.2 ?_
  refine x_cVi 1153 rfl lL_164 dL_law_1150 (lyl55 hL) (lys55 hL) (c_X11_count hL q1) rfl rfl (Nat.le_of_ble_eq_true rfl) (fun r2 M2 h2 => ?_)
  have hf : ∀ i, i < 7 → M 54 i = M 56 i := fun i hi => (h.2.2.2.1 i hi).1
  have hr : r1 = r2 := by
    rw [h1.1, h2.1, e1 57 (by decide) (by decide), e1 55 (by decide) (by decide), e1 56 (by decide) (by decide), ← h.2.2.2.2.2.1.1, h32, ← hlr.1]
    exact zcount_congr hf
  have hI := iv_pure h (cK_eq h h1.2) (rK_eq q5 h2.2)
  refine x_icmp_eq 1156 1171 rfl dL_law_1153 (by decide) (fun c1153 => ?_) (fun c1153 => ?_)
  · exact K _ _ _ hI
  · first | exact absurd hr c1153 | exact absurd hr.symm c1153

set_option maxRecDepth 100000 in
set_option maxHeartbeats 4000000 in
theorem lw_c_status {sc : List Int} (hsc : sc ≠ []) (hlen : sc.length ≤ 3073) {i : Int} (hi0 : 0 ≤ i) (hi6 : i + 6 ≤ ((sc.length - 1 : Nat) : Int)) {c : Int} (hc : c ≤ 1000) {kc ks : Nat} {S : zSh} {sz : Nat} {M : zMem} (h : IV c S sz M) (K : ∀ (S' : zSh) (sz' : Nat) (M' : zMem), IV (c + 1) S' sz' M' → zW mL_law 61 kc ks sc lwQ 1171 [some (zr (-2)), some (zn 0), some (zn 55), some (zi i)] [] sz' S' M') : zW mL_law 61 (kc + 11) (ks + 464) sc lwQ 1158 [some (zr (-2)), some (zn 0), some (zn 55), some (zi i)] [] sz S M := by
  have hL := h.1
  have hs := h.2.1
  have hk := h.2.2.1
  have h54 := IV_54 h hc
  have ba1 : -2147483648 ≤ i + 1 ∧ i + 1 ≤ 2147483647 := by omega
  have ba2 : -2147483648 ≤ i + 2 ∧ i + 2 ≤ 2147483647 := by omega
  have ba3 : -2147483648 ≤ i + 3 ∧ i + 3 ≤ 2147483647 := by omega
  have ba4 : -2147483648 ≤ i + 4 ∧ i + 4 ≤ 2147483647 := by omega
  have ba5 : -2147483648 ≤ i + 5 ∧ i + 5 ≤ 2147483647 := by omega
  have bb1 : 0 ≤ i + 1 ∧ i + 1 < ((sc.length - 1 : Nat) : Int) := by omega
  have bb2 : 0 ≤ i + 2 ∧ i + 2 < ((sc.length - 1 : Nat) : Int) := by omega
  have bb3 : 0 ≤ i + 3 ∧ i + 3 < ((sc.length - 1 : Nat) : Int) := by omega
  have bb4 : 0 ≤ i + 4 ∧ i + 4 < ((sc.length - 1 : Nat) : Int) := by omega
  have bb5 : 0 ≤ i + 5 ∧ i + 5 < ((sc.length - 1 : Nat) : Int) := by omega
  have hx := h.2.2.2.2.2.2.2.2.2.2
  refine zW_room (kc' := kc) (ks' := ks) (by omega) (by omega) ?_
  refine x_aload_n 1159 rfl dL_law_1158 1 rfl rfl ?_
  refine x_cVi 1162 rfl lL_165 dL_law_1159 (lyl0 hL) (lys0 hL) (c_X10_status hL) rfl rfl (Nat.le_of_ble_eq_true rfl) (fun r1 M1 h1 => ?_)
  have e1 := rS_eq h1.2
  obtain ⟨q1, q2, q3, q4, q5, q6, q7, q8⟩ := IV_rd h hc e1
  refine x_aload_n 1163 rfl dL_law_1162 2 rfl rfl ?_
  refine x_cVi 1166 rfl lL_168 dL_law_1163 (lyl55 hL) (lys55 hL) (c_X11_status hL) rfl rfl (Nat.le_of_ble_eq_true rfl) (fun r2 M2 h2 => ?_)
  have hr : r1 = r2 := by rw [h1.1, h2.1, e1 55 (by decide) (by decide)]; exact h.2.2.2.2.1.2.2.2
  have hI := iv_pure h (cK_eq h h1.2) (rK_eq q5 h2.2)
  refine x_icmp_eq 1169 1171 rfl dL_law_1166 (by decide) (fun c1166 => ?_) (fun c1166 => ?_)
  · exact K _ _ _ hI
  · first | exact absurd hr c1166 | exact absurd hr.symm c1166
