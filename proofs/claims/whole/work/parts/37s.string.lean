/-! STRINGS: the one literal, its length and its chars -/
abbrev mJlen : zMt := (yJ0_length_8abf5, prog_16_method_54_code, 1, some .int)
theorem mb_mJlen : z_MB mJlen 0 := ⟨z_tbk3 102 rfl rfl, z_tbm 15 (by decide +kernel) rfl, ⟨by decide, by decide, by decide +kernel⟩, by decide⟩
theorem pf_Jlen : plainFor yJ0_length_8abf5 = true := by decide +kernel
abbrev mJcod : zMt := (yJ0_coder_7d493, prog_16_method_152_code, 1, some .byte)
theorem mb_mJcod : z_MB mJcod 0 := ⟨z_tbk3 106 rfl rfl, z_tbm 15 (by decide +kernel) rfl, ⟨by decide, by decide, by decide +kernel⟩, by decide⟩
theorem pf_Jcod : plainFor yJ0_coder_7d493 = true := by decide +kernel
abbrev mJcha : zMt := (yJ0_charAt_5068e, prog_16_method_56_code, 2, some .char)
theorem mb_mJcha : z_MB mJcha 1 := ⟨z_tbk3 112 rfl rfl, z_tbm 15 (by decide +kernel) rfl, ⟨by decide, by decide, by decide +kernel⟩, by decide⟩
theorem pf_Jcha : plainFor yJ0_charAt_5068e = true := by decide +kernel
abbrev mJlat : zMt := (yJ0_isLatin1_aae02, prog_16_method_154_code, 1, some .boolean)
theorem mb_mJlat : z_MB mJlat 0 := ⟨z_tbk3 116 rfl rfl, z_tbm 15 (by decide +kernel) rfl, ⟨by decide, by decide, by decide +kernel⟩, by decide⟩
theorem pf_Jlat : plainFor yJ0_isLatin1_aae02 = true := by decide +kernel
abbrev mJch1 : zMt := (yJ1_charAt_3b067, prog_17_method_2_code, 2, some .char)
theorem mb_mJch1 : z_MB mJch1 2 := ⟨z_tbk3 119 rfl rfl, z_tbm 16 (by decide +kernel) rfl, ⟨by decide, by decide, by decide +kernel⟩, by decide⟩
theorem pf_Jch1 : plainFor yJ1_charAt_3b067 = true := by decide +kernel
abbrev mJck0 : zMt := (yJ0_checkIndex_df160, prog_16_method_155_code, 2, none)
theorem mb_mJck0 : z_MB mJck0 2 := ⟨z_tbk3 122 rfl rfl, z_tbm 15 (by decide +kernel) rfl, ⟨by decide, by decide, by decide +kernel⟩, by decide⟩
theorem pf_Jck0 : plainFor yJ0_checkIndex_df160 = true := by decide +kernel
theorem pf_Jck3 : plainFor yJ3_checkIndex_8e157 = true := by decide +kernel
theorem sl_len : Cond.methodLink RX6 95 yJ0_length_8abf5 ∈ z_tb := z_tbm 579 (by decide +kernel) rfl
theorem si_len : Cond.instanceMethod yJ0_length_8abf5 ∈ z_tb := z_tbm 580 (by decide +kernel) rfl
theorem ss_len : Cond.selects RJ0 yJ0_length_8abf5 yJ0_length_8abf5 ∈ z_tb := z_tbm 581 (by decide +kernel) rfl
theorem sl_cod : Cond.methodLink RJ0 335 yJ0_coder_7d493 ∈ z_tb := z_tbm 583 (by decide +kernel) rfl
theorem si_cod : Cond.instanceMethod yJ0_coder_7d493 ∈ z_tb := z_tbm 584 (by decide +kernel) rfl
theorem ss_cod : Cond.selects RJ0 yJ0_coder_7d493 yJ0_coder_7d493 ∈ z_tb := z_tbm 585 (by decide +kernel) rfl
theorem sf_38 : Cond.fieldLink RJ0 38 RJ0 "COMPACT_STRINGS" "Z" ∈ z_tb := z_tbm 587 (by decide +kernel) rfl
theorem sl_cha : Cond.methodLink RX6 101 yJ0_charAt_5068e ∈ z_tb := z_tbm 589 (by decide +kernel) rfl
theorem si_cha : Cond.instanceMethod yJ0_charAt_5068e ∈ z_tb := z_tbm 590 (by decide +kernel) rfl
theorem ss_cha : Cond.selects RJ0 yJ0_charAt_5068e yJ0_charAt_5068e ∈ z_tb := z_tbm 591 (by decide +kernel) rfl
theorem sl_lat : Cond.methodLink RJ0 492 yJ0_isLatin1_aae02 ∈ z_tb := z_tbm 593 (by decide +kernel) rfl
theorem si_lat : Cond.instanceMethod yJ0_isLatin1_aae02 ∈ z_tb := z_tbm 594 (by decide +kernel) rfl
theorem ss_lat : Cond.selects RJ0 yJ0_isLatin1_aae02 yJ0_isLatin1_aae02 ∈ z_tb := z_tbm 595 (by decide +kernel) rfl
theorem sl_ch1 : Cond.methodLink RJ0 495 yJ1_charAt_3b067 ∈ z_tb := z_tbm 597 (by decide +kernel) rfl
theorem is_ch1 : Cond.static yJ1_charAt_3b067 ∈ z_tb := z_tbm 598 (by decide +kernel) rfl
theorem sl_ck0 : Cond.methodLink RJ1 9 yJ0_checkIndex_df160 ∈ z_tb := z_tbm 600 (by decide +kernel) rfl
theorem is_ck0 : Cond.static yJ0_checkIndex_df160 ∈ z_tb := z_tbm 601 (by decide +kernel) rfl
theorem sf_1053 : Cond.fieldLink RJ0 1053 RJ3 "SIOOBE_FORMATTER" "Ljava/util/function/BiFunction;" ∈ z_tb := z_tbm 603 (by decide +kernel) rfl
theorem sl_ck3 : Cond.methodLink RJ0 1059 yJ3_checkIndex_8e157 ∈ z_tb := z_tbm 605 (by decide +kernel) rfl
theorem sf_9 : Cond.fieldLink RJ0 9 RJ0 "value" "[B" ∈ z_tb := z_tbm 1681 (by decide +kernel) rfl
theorem sf_15 : Cond.fieldLink RJ0 15 RJ0 "coder" "B" ∈ z_tb := z_tbm 1682 (by decide +kernel) rfl
/-- what a call brings, its arguments as they are -/
def zPr (E : zAd) (D : va_G) (dA : Nat → ClassId) (X : State → Prop) (vs : List Value) (sz : Nat) (S : zSh) (M : zMem) : Array Value → State → Prop := fun v U => v = vs.toArray ∧ z_R E D dA sz S M U.heap ∧ z_C E D dA U U.heap ∧ X U
def zTb (E : zAd) (av : Nat) (U : State) : Prop := va_T .byte av 141 (fun j => .int (Int32.ofNat (z_wbs.getD j 0))) (z_A E) U U.heap
theorem zPr_blind (E : zAd) (D : va_G) (dA : Nat → ClassId) (vs : List Value) (sz : Nat) (S : zSh) (M : zMem) : FrameBlind (zPr E D dA (fun _ => True) vs sz S M) := fun a U g mk h => ⟨h.1, h.2.1, z_C_calling h.2.2.1, trivial⟩
theorem zPt_blind (E : zAd) (D : va_G) (dA : Nat → ClassId) (av : Nat) (vs : List Value) (sz : Nat) (S : zSh) (M : zMem) : FrameBlind (zPr E D dA (zTb E av) vs sz S M) := fun a U g mk h => ⟨h.1, h.2.1, z_C_calling h.2.2.1, va_T.moved (Vm.Alike.refl U.vm) h.2.2.2⟩
theorem z_hq {E : zAd} {D : va_G} {dA : Nat → ClassId} {Q : zQ} {aa : Array Value} {s : State} {sz : Nat} {S : zSh} {M : zMem} (hR : z_R E D dA sz S M s.heap) (v : Option zV) (hv : ∀ x, v = some x → z_ok x) (hQ : Q v sz S M) : ∀ t : State, t.heap = s.heap → s.WarmedH t.vm → z_Post E D dA Q aa s (.returned (v.map (z_val E))) t := fun t ht _ => ⟨⟨v, sz, S, M, rfl, hQ, hv, by rw [ht]; exact hR⟩, va_S.rf.F ht⟩
theorem c_Jck3 {l : Launch} {E : zAd} {D : va_G} {dA : Nat → ClassId} {d sz : Nat} {S : zSh} {M : zMem} {x n : Int} (hx : 0 ≤ x ∧ x < n) (hn : n ≤ 2147483647) {w : Value} (hw : w.category = 1) : Met l mJ3_checkIndex_8e157.1 (z_wd mJ3_checkIndex_8e157) (z_rm d 0 0) (zPr E D dA (fun _ => True) [.int (Int32.ofInt x), .int (Int32.ofInt n), w] sz S M) (z_Post E D dA (zI sz S (fun r M' => r = x ∧ M' = M))) 0 0 (z_A E) := by
  have hxi : z_i32 x := ⟨by omega, by omega⟩
  have hni : z_i32 n := ⟨by omega, by omega⟩
  refine z_ofWF (cc := mJ3_checkIndex_8e157.2.1) (maxL := mJ3_checkIndex_8e157.2.2.1) (ret := mJ3_checkIndex_8e157.2.2.2) pf_Jck3 rfl ?_
  intro p e s m args below meth c s₁ B hml hv
  obtain ⟨rfl, hR, hC, -⟩ := hv
  have hS0 : va_S (z_A E) s.heap s.heap [] := va_S.rf
  have hret := B.returns
  have hlocks := B.notSynchronized
  have hl := lv_entry ([.int (Int32.ofInt x), .int (Int32.ofInt n), w] : List Value) (n := 3) (by cases w <;> simp [lg_sl, Value.category] at hw ⊢)
  rw [lg_entry_eq]
  generalize (lg_sl ([.int (Int32.ofInt x), .int (Int32.ofInt n), w] : List Value) ++ List.replicate (3 - (lg_sl ([.int (Int32.ofInt x), .int (Int32.ofInt n), w] : List Value)).length) Slot.unset).toArray = lr at hl ⊢
  have h0 : lr[0]? = some (.val (.int (Int32.ofInt x))) := hl.2.2 (0, .int (Int32.ofInt x)) (by simp [lv_args])
  have h1 : lr[1]? = some (.val (.int (Int32.ofInt n))) := hl.2.2 (1, .int (Int32.ofInt n)) (by simp [lv_args, Value.category])
  refine lv_iload_n B.exec B.bytes dJ3_checkIndex_8e157_0 rfl h0 ?_
  refine lv_if_lt B.exec B.bytes dJ3_checkIndex_8e157_1 (tgt := 9) (by decide) (fun h => ?_) (fun _ => ?_)
  · exfalso
    have := (z_lt hxi z_i32_0).mp h
    omega
  refine lv_iload_n B.exec B.bytes dJ3_checkIndex_8e157_4 rfl h0 ?_
  refine lv_iload_n B.exec B.bytes dJ3_checkIndex_8e157_5 rfl h1 ?_
  refine lv_icmp_lt B.exec B.bytes dJ3_checkIndex_8e157_6 (tgt := 16) (by decide) (fun _ => ?_) (fun h => absurd ((z_lt hxi hni).mpr hx.2) h)
  refine lv_iload_n B.exec B.bytes dJ3_checkIndex_8e157_16 rfl h0 ?_
  exact W.iret B.exec B.bytes hret (z_hq hR (some (zi x)) (fun y hy => by cases hy; exact hxi) ⟨x, rfl, rfl, rfl, rfl, rfl⟩) hS0.2.2 dJ3_checkIndex_8e157_17
theorem c_Jck0 {d sz : Nat} {S : zSh} {M : zMem} {x n : Int} (hx : 0 ≤ x ∧ x < n) (hn : n ≤ 2147483647) : zX (d + 1) 0 0 mJck0 [zi x, zi n] sz S M (zU sz S (fun M' => M' = M)) := by
  have hxi : z_i32 x := ⟨by omega, by omega⟩
  have hni : z_i32 n := ⟨by omega, by omega⟩
  intro l E D dA hok
  refine z_ofWF (cc := mJck0.2.1) (maxL := mJck0.2.2.1) (ret := mJck0.2.2.2) pf_Jck0 rfl ?_
  intro p e s m args below meth c s₁ B hml hv
  obtain ⟨rfl, hR, hC⟩ := hv
  have hS0 : va_S (z_A E) s.heap s.heap [] := va_S.rf
  have hret := B.returns
  have hlocks := B.notSynchronized
  have hown := findClass_of_methodNamed B.named
  have hts0 := atoms_spec (ws := z_wd mJck0) B.pre
  have hts : ∀ w ∈ z_tb, w.before _ s = true := fun w hw => hts0 w (List.mem_cons_of_mem _ hw)
  obtain ⟨q1, q2, q3, ⟨av, q4, q5⟩, q6, q7⟩ := hC.2.2.2.2
  have hl := lv_entry (([zi x, zi n] : List zV).map (z_val E)) (n := 2) (by rw [z_in_len]; exact Nat.le_refl _)
  rw [lg_entry_eq]
  generalize (lg_sl (([zi x, zi n] : List zV).map (z_val E)) ++ List.replicate (2 - (lg_sl (([zi x, zi n] : List zV).map (z_val E))).length) Slot.unset).toArray = lr at hl ⊢
  have h0 : lr[0]? = some (.val (.int (Int32.ofInt x))) := hl.2.2 (0, .int (Int32.ofInt x)) (by simp [lv_args, z_val])
  have h1 : lr[1]? = some (.val (.int (Int32.ofInt n))) := hl.2.2 (1, .int (Int32.ofInt n)) (by simp [lv_args, z_val, Value.category])
  have go : ∀ w : Value, w.category = 1 → va_Z RJ3 "SIOOBE_FORMATTER" "Ljava/util/function/BiFunction;" w (z_A E) s s.heap → W p l e (headSpec (z_wd mJck0) (z_rm (d + 1) 0 0)).room s m (([zi x, zi n] : List zV).map (z_val E)).toArray below meth c s.heap [] 0 0 (MQ below (z_Post E D dA (zU sz S (fun M' => M' = M))) (([zi x, zi n] : List zV).map (z_val E)).toArray s 0 0 (z_A E)) (F0 m 0 lr []) := by
    intro w hw hZ
    refine lv_iload_n B.exec B.bytes dJ0_checkIndex_df160_0 rfl h0 ?_
    refine lv_iload_n B.exec B.bytes dJ0_checkIndex_df160_1 rfl h1 ?_
    refine va_gets B.exec B.bytes hZ va_S.rf hown (hts _ sf_1053) (fun _ h => h) dJ0_checkIndex_df160_2 ?_
    have hrun := va_runS (R := (headSpec (z_wd mJck0) (z_rm (d + 1) 0 0)).room) (g := F0 m 5 lr [w, .int (Int32.ofInt n), .int (Int32.ofInt x)]) (As := [.int (Int32.ofInt x), .int (Int32.ofInt n), w]) (rest := []) (H := s.heap) (locs := []) (cells := 0) (slots := 0) (e := e) (below := below) (meth := meth) (l := l) (n := 3) (index := 1059) ⟨B.exec, B.bytes, hml, hown, hts⟩ (c_Jck3 (l := l) (E := E) (D := D) (dA := dA) (d := d) (sz := sz) (S := S) (M := M) hx hn hw) ⟨z_callB (d := d) (E := E) hts mb_mJ3_checkIndex_8e157 sl_ck3 (Nat.le_refl _) (Nat.le_refl _), hts _ is_mJ3_checkIndex_8e157⟩ ⟨zPr_blind _ _ _ _ _ _ _, fun U hU hW => ⟨rfl, by rw [hU]; exact hR, by rw [hU]; exact z_C_warm hW va_S.rf.2.1 hC, trivial⟩⟩ rfl rfl hl.1 rfl (by show 2 * 0 + _ ≤ 8; simp) dJ0_checkIndex_df160_5 ⟨Nat.le_refl _, Nat.le_refl _⟩
    refine z_cont hrun va_S.rf (fun v sz' S' M' H1 locs1 hq hvo hR1 hS1 => ?_)
    obtain ⟨r, rfl, rfl, rfl, rfl, rfl⟩ := hq
    refine lv_pop B.exec B.bytes dJ0_checkIndex_df160_8 rfl ?_
    exact W.vret B.exec B.bytes hret (fun t ht _ => ⟨⟨none, _, _, _, rfl, ⟨rfl, rfl, rfl, rfl⟩, (fun y hy => (by cases hy)), by rw [ht]; exact hR1⟩, hS1.F ht⟩) hS1.2.2 dJ0_checkIndex_df160_9
  rcases q7 with q7 | ⟨t, q7⟩
  · exact go _ rfl q7
  · exact go _ rfl q7

theorem c_Jcod {d sz : Nat} {S : zSh} {M : zMem} : zX d 0 0 mJcod [zr (-3)] sz S M (zI sz S (fun r M' => r = 0 ∧ M' = M)) := by
  intro l E D dA hok
  refine z_ofWF (cc := mJcod.2.1) (maxL := mJcod.2.2.1) (ret := mJcod.2.2.2) pf_Jcod rfl ?_
  intro p e s m args below meth c s₁ B hml hv
  obtain ⟨rfl, hR, hC⟩ := hv
  have hS0 : va_S (z_A E) s.heap s.heap [] := va_S.rf
  have hret := B.returns
  have hlocks := B.notSynchronized
  have hown := findClass_of_methodNamed B.named
  have hts0 := atoms_spec (ws := z_wd mJcod) B.pre
  have hts : ∀ w ∈ z_tb, w.before _ s = true := fun w hw => hts0 w (List.mem_cons_of_mem _ hw)
  obtain ⟨q1, q2, q3, ⟨av, q4, q5⟩, q6, q7⟩ := hC.2.2.2.2
  have hl := lv_entry (([zr (-3)] : List zV).map (z_val E)) (n := 1) (by rw [z_in_len]; exact Nat.le_refl _)
  rw [lg_entry_eq]
  generalize (lg_sl (([zr (-3)] : List zV).map (z_val E)) ++ List.replicate (1 - (lg_sl (([zr (-3)] : List zV).map (z_val E))).length) Slot.unset).toArray = lr at hl ⊢
  have h0 : lr[0]? = some (.val (.ref E.2.2)) := hl.2.2 (0, .ref E.2.2) (by simp [lv_args, z_val, z_rf])
  refine va_gets B.exec B.bytes q6 va_S.rf hown (hts _ sf_38) (fun _ h => h) dJ0_coder_7d493_0 ?_
  refine lv_if_eq B.exec B.bytes dJ0_coder_7d493_3 (tgt := 13) (by decide) (fun h => absurd h (by decide)) (fun _ => ?_)
  refine lv_aload_n B.exec B.bytes dJ0_coder_7d493_6 rfl h0 ?_
  refine vk_getf B.exec B.bytes q3 va_S.rf hown (hts _ sf_15) (fun _ h => h) dJ0_coder_7d493_7 ?_
  refine lv_goto B.exec B.bytes dJ0_coder_7d493_10 (tgt := 14) (by decide) ?_
  exact W.zret (ty := .byte) B.exec B.bytes hret (by decide) (z_hq hR (some (zi 0)) (fun y hy => by cases hy; exact z_i32_0) ⟨0, rfl, rfl, rfl, rfl, rfl⟩) hS0.2.2 dJ0_coder_7d493_14
theorem c_Jlat {d sz : Nat} {S : zSh} {M : zMem} : zX d 0 0 mJlat [zr (-3)] sz S M (zI sz S (fun r M' => r = 1 ∧ M' = M)) := by
  intro l E D dA hok
  refine z_ofWF (cc := mJlat.2.1) (maxL := mJlat.2.2.1) (ret := mJlat.2.2.2) pf_Jlat rfl ?_
  intro p e s m args below meth c s₁ B hml hv
  obtain ⟨rfl, hR, hC⟩ := hv
  have hS0 : va_S (z_A E) s.heap s.heap [] := va_S.rf
  have hret := B.returns
  have hlocks := B.notSynchronized
  have hown := findClass_of_methodNamed B.named
  have hts0 := atoms_spec (ws := z_wd mJlat) B.pre
  have hts : ∀ w ∈ z_tb, w.before _ s = true := fun w hw => hts0 w (List.mem_cons_of_mem _ hw)
  obtain ⟨q1, q2, q3, ⟨av, q4, q5⟩, q6, q7⟩ := hC.2.2.2.2
  have hl := lv_entry (([zr (-3)] : List zV).map (z_val E)) (n := 1) (by rw [z_in_len]; exact Nat.le_refl _)
  rw [lg_entry_eq]
  generalize (lg_sl (([zr (-3)] : List zV).map (z_val E)) ++ List.replicate (1 - (lg_sl (([zr (-3)] : List zV).map (z_val E))).length) Slot.unset).toArray = lr at hl ⊢
  have h0 : lr[0]? = some (.val (.ref E.2.2)) := hl.2.2 (0, .ref E.2.2) (by simp [lv_args, z_val, z_rf])
  refine va_gets B.exec B.bytes q6 va_S.rf hown (hts _ sf_38) (fun _ h => h) dJ0_isLatin1_aae02_0 ?_
  refine lv_if_eq B.exec B.bytes dJ0_isLatin1_aae02_3 (tgt := 17) (by decide) (fun h => absurd h (by decide)) (fun _ => ?_)
  refine lv_aload_n B.exec B.bytes dJ0_isLatin1_aae02_6 rfl h0 ?_
  refine vk_getf B.exec B.bytes q3 va_S.rf hown (hts _ sf_15) (fun _ h => h) dJ0_isLatin1_aae02_7 ?_
  refine lv_if_ne B.exec B.bytes dJ0_isLatin1_aae02_10 (tgt := 17) (by decide) (fun h => absurd rfl h) (fun _ => ?_)
  refine lv_iconst B.exec B.bytes dJ0_isLatin1_aae02_13 rfl ?_
  refine lv_goto B.exec B.bytes dJ0_isLatin1_aae02_14 (tgt := 18) (by decide) ?_
  exact W.zret (ty := .boolean) B.exec B.bytes hret (by decide) (z_hq hR (some (zi 1)) (fun y hy => by cases hy; exact ⟨by decide, by decide⟩) ⟨1, rfl, rfl, rfl, rfl, rfl⟩) hS0.2.2 dJ0_isLatin1_aae02_18
theorem c_Jlen {d sz : Nat} {S : zSh} {M : zMem} : zX (d + 1) 0 0 mJlen [zr (-3)] sz S M (zI sz S (fun r M' => r = 141 ∧ M' = M)) := by
  intro l E D dA hok
  refine z_ofWF (cc := mJlen.2.1) (maxL := mJlen.2.2.1) (ret := mJlen.2.2.2) pf_Jlen rfl ?_
  intro p e s m args below meth c s₁ B hml hv
  obtain ⟨rfl, hR, hC⟩ := hv
  have hS0 : va_S (z_A E) s.heap s.heap [] := va_S.rf
  have hret := B.returns
  have hlocks := B.notSynchronized
  have hown := findClass_of_methodNamed B.named
  have hts0 := atoms_spec (ws := z_wd mJlen) B.pre
  have hts : ∀ w ∈ z_tb, w.before _ s = true := fun w hw => hts0 w (List.mem_cons_of_mem _ hw)
  obtain ⟨q1, q2, q3, ⟨av, q4, q5⟩, q6, q7⟩ := hC.2.2.2.2
  have hl := lv_entry (([zr (-3)] : List zV).map (z_val E)) (n := 1) (by rw [z_in_len]; exact Nat.le_refl _)
  rw [lg_entry_eq]
  generalize (lg_sl (([zr (-3)] : List zV).map (z_val E)) ++ List.replicate (1 - (lg_sl (([zr (-3)] : List zV).map (z_val E))).length) Slot.unset).toArray = lr at hl ⊢
  have h0 : lr[0]? = some (.val (.ref E.2.2)) := hl.2.2 (0, .ref E.2.2) (by simp [lv_args, z_val, z_rf])
  have eR : z_val E (zr (-3)) = .ref E.2.2 := by simp [z_val, z_rf]
  refine lv_aload_n B.exec B.bytes dJ0_length_8abf5_0 rfl h0 ?_
  refine vk_getf B.exec B.bytes q4 va_S.rf hown (hts _ sf_9) (fun _ h => h) dJ0_length_8abf5_1 ?_
  refine va_tlen B.exec B.bytes q5 va_S.rf (v := 141) rfl dJ0_length_8abf5_4 ?_
  refine lv_aload_n B.exec B.bytes dJ0_length_8abf5_5 rfl h0 ?_
  obtain ⟨cell, g1, g2, g3, -⟩ := q2
  have hrun := va_runV (R := (headSpec (z_wd mJlen) (z_rm (d + 1) 0 0)).room) (g := F0 m 6 lr [.ref E.2.2, .int 141]) (As := []) (rest := [.int 141]) (b := E.2.2) (C := RJ0) (H := s.heap) (locs := []) (cells := 0) (slots := 0) (e := e) (below := below) (meth := meth) (l := l) (n := 0) (index := 335) ⟨B.exec, B.bytes, hml, hown, hts⟩ (c_Jcod (d := d) (sz := sz) (S := S) (M := M) l E D dA (fun v hv => by simp at hv; subst hv; trivial)) ⟨z_callB (d := d) (E := E) hts mb_mJcod sl_cod (Nat.le_refl _) (Nat.le_refl _), hts _ si_cod, hts _ ss_cod⟩ ⟨z_blind _ _ _ _ _ _ _, ⟨cell, g1, g2, g3⟩, fun U hU hW => by
    have := z_pre (as := [zr (-3)]) hR hC va_S.rf U hU hW
    rwa [List.map_cons, eR] at this⟩ rfl rfl hl.1 rfl (by show 2 * 0 + _ ≤ 8; decide) dJ0_length_8abf5_6 ⟨Nat.le_refl _, Nat.le_refl _⟩
  refine z_cont hrun va_S.rf (fun v sz' S' M' H1 locs1 hq hvo hR1 hS1 => ?_)
  obtain ⟨r, rfl, rfl, rfl, rfl, rfl⟩ := hq
  refine lv_ishr B.exec B.bytes dJ0_length_8abf5_9 ?_
  exact W.iret B.exec B.bytes hret (fun t ht _ => ⟨⟨some (zi 141), _, _, _, rfl, ⟨141, rfl, rfl, rfl, rfl, rfl⟩, fun y hy => by cases hy; exact ⟨by decide, by decide⟩, by rw [ht]; exact hR1⟩, hS1.F ht⟩) hS1.2.2 dJ0_length_8abf5_10
theorem z_chr {k : Nat} (h : k < 141) : ((Int32.ofNat (z_wbs.getD k 0) &&& 255).toUInt32 % 65536).toInt32 = Int32.ofNat (z_wbs.getD k 0) ∧ narrow .char (.int (Int32.ofNat (z_wbs.getD k 0))) = .int (Int32.ofNat (z_wbs.getD k 0)) ∧ z_i32 ((z_wbs.getD k 0 : Nat) : Int) ∧ Int32.ofInt ((z_wbs.getD k 0 : Nat) : Int) = Int32.ofNat (z_wbs.getD k 0) := by
  have h1 : z_wbs.getD k 0 < 128 := by
    have : ∀ k, k < 141 → z_wbs.getD k 0 < 128 := by decide +kernel
    exact this k h
  generalize z_wbs.getD k 0 = n at h1
  have : ∀ n, n < 128 → ((Int32.ofNat n &&& 255).toUInt32 % 65536).toInt32 = Int32.ofNat n ∧ narrow .char (.int (Int32.ofNat n)) = .int (Int32.ofNat n) ∧ Int32.ofInt ((n : Nat) : Int) = Int32.ofNat n := by decide +kernel
  obtain ⟨a1, a2, a3⟩ := this n h1
  exact ⟨a1, a2, ⟨by omega, by omega⟩, a3⟩
theorem c_Jch1 {l : Launch} {E : zAd} {D : va_G} {dA : Nat → ClassId} {d sz : Nat} {S : zSh} {M : zMem} {av : Nat} {x : Int} (hx : 0 ≤ x ∧ x < 141) : Met l mJch1.1 (z_wd mJch1) (z_rm (d + 2) 0 0) (zPr E D dA (zTb E av) ([.ref av, .int (Int32.ofInt x)] : List Value) sz S M) (z_Post E D dA (zI sz S (fun r M' => r = ((z_wbs.getD x.toNat 0 : Nat) : Int) ∧ M' = M))) 0 0 (z_A E) := by
  have hxi : z_i32 x := ⟨by omega, by omega⟩
  obtain ⟨c1, c2, c3, c4⟩ := z_chr (k := x.toNat) (by omega)
  refine z_ofWF (cc := mJch1.2.1) (maxL := mJch1.2.2.1) (ret := mJch1.2.2.2) pf_Jch1 rfl ?_
  intro p e s m args below meth c s₁ B hml hv
  obtain ⟨rfl, hR, hC, hT⟩ := hv
  have hS0 : va_S (z_A E) s.heap s.heap [] := va_S.rf
  have hret := B.returns
  have hlocks := B.notSynchronized
  have hown := findClass_of_methodNamed B.named
  have hts0 := atoms_spec (ws := z_wd mJch1) B.pre
  have hts : ∀ w ∈ z_tb, w.before _ s = true := fun w hw => hts0 w (List.mem_cons_of_mem _ hw)
  have hl := lv_entry ([.ref av, .int (Int32.ofInt x)] : List Value) (n := 2) (by simp [lg_sl, Value.category])
  rw [lg_entry_eq]
  generalize (lg_sl ([.ref av, .int (Int32.ofInt x)] : List Value) ++ List.replicate (2 - (lg_sl ([.ref av, .int (Int32.ofInt x)] : List Value)).length) Slot.unset).toArray = lr at hl ⊢
  have h0 : lr[0]? = some (.val (.ref av)) := hl.2.2 (0, .ref av) (by simp [lv_args])
  have h1 : lr[1]? = some (.val (.int (Int32.ofInt x))) := hl.2.2 (1, .int (Int32.ofInt x)) (by simp [lv_args, Value.category])
  refine lv_iload_n B.exec B.bytes dJ1_charAt_3b067_0 rfl h1 ?_
  refine lv_aload_n B.exec B.bytes dJ1_charAt_3b067_1 rfl h0 ?_
  refine va_tlen B.exec B.bytes hT va_S.rf (v := 141) rfl dJ1_charAt_3b067_2 ?_
  have hrun := va_runS (R := (headSpec (z_wd mJch1) (z_rm (d + 2) 0 0)).room) (g := F0 m 3 lr [.int 141, .int (Int32.ofInt x)]) (As := ([zi x, zi 141] : List zV).map (z_val E)) (rest := []) (H := s.heap) (locs := []) (cells := 0) (slots := 0) (e := e) (below := below) (meth := meth) (l := l) (n := 2) (index := 9) ⟨B.exec, B.bytes, hml, hown, hts⟩ (c_Jck0 (d := d) (sz := sz) (S := S) (M := M) hx (by decide) l E D dA (fun v hv => by
    simp at hv
    rcases hv with rfl | rfl
    · exact hxi
    · exact ⟨by decide, by decide⟩)) ⟨z_callB (d := d + 1) (E := E) hts mb_mJck0 sl_ck0 (Nat.le_refl _) (Nat.le_refl _), hts _ is_ck0⟩ ⟨z_blind _ _ _ _ _ _ _, z_pre hR hC va_S.rf⟩ rfl rfl hl.1 rfl (by show 2 * 0 + _ ≤ 8; simp) dJ1_charAt_3b067_3 ⟨Nat.le_refl _, Nat.le_refl _⟩
  refine z_cont hrun va_S.rf (fun v sz' S' M' H1 locs1 hq hvo hR1 hS1 => ?_)
  obtain ⟨rfl, rfl, rfl, rfl⟩ := hq
  refine lv_aload_n B.exec B.bytes dJ1_charAt_3b067_6 rfl h0 ?_
  refine lv_iload_n B.exec B.bytes dJ1_charAt_3b067_7 rfl h1 ?_
  refine va_tb B.exec B.bytes hT hS1 (z_vpin hxi hx.1 hx.2) (v := .int (Int32.ofNat (z_wbs.getD x.toNat 0))) (by rw [z_clamp hxi]) dJ1_charAt_3b067_8 ?_
  refine lv_sipush B.exec B.bytes dJ1_charAt_3b067_9 (v := 255) (by decide) ?_
  refine lv_iand B.exec B.bytes dJ1_charAt_3b067_12 ?_
  refine lv_i2c B.exec B.bytes dJ1_charAt_3b067_13 c1 ?_
  exact W.zret (ty := .char) B.exec B.bytes hret c2 (fun t ht _ => ⟨⟨some (zi ((z_wbs.getD x.toNat 0 : Nat) : Int)), _, _, _, by show _ = Outcome.returned (some (Value.int (Int32.ofInt _))); rw [c4], ⟨_, rfl, rfl, rfl, rfl, rfl⟩, fun y hy => by cases hy; exact c3, by rw [ht]; exact hR1⟩, hS1.F ht⟩) hS1.2.2 dJ1_charAt_3b067_14
theorem c_Jcha {d sz : Nat} {S : zSh} {M : zMem} {x : Int} (hx : 0 ≤ x ∧ x < 141) : zX (d + 3) 0 0 mJcha [zr (-3), zi x] sz S M (zI sz S (fun r M' => r = ((z_wbs.getD x.toNat 0 : Nat) : Int) ∧ M' = M)) := by
  have hxi : z_i32 x := ⟨by omega, by omega⟩
  obtain ⟨c1, c2, c3, c4⟩ := z_chr (k := x.toNat) (by omega)
  intro l E D dA hok
  refine z_ofWF (cc := mJcha.2.1) (maxL := mJcha.2.2.1) (ret := mJcha.2.2.2) pf_Jcha rfl ?_
  intro p e s m args below meth c s₁ B hml hv
  obtain ⟨rfl, hR, hC⟩ := hv
  have hS0 : va_S (z_A E) s.heap s.heap [] := va_S.rf
  have hret := B.returns
  have hlocks := B.notSynchronized
  have hown := findClass_of_methodNamed B.named
  have hts0 := atoms_spec (ws := z_wd mJcha) B.pre
  have hts : ∀ w ∈ z_tb, w.before _ s = true := fun w hw => hts0 w (List.mem_cons_of_mem _ hw)
  obtain ⟨q1, q2, q3, ⟨av, q4, q5⟩, q6, q7⟩ := hC.2.2.2.2
  have hl := lv_entry (([zr (-3), zi x] : List zV).map (z_val E)) (n := 2) (by rw [z_in_len]; exact Nat.le_refl _)
  rw [lg_entry_eq]
  generalize (lg_sl (([zr (-3), zi x] : List zV).map (z_val E)) ++ List.replicate (2 - (lg_sl (([zr (-3), zi x] : List zV).map (z_val E))).length) Slot.unset).toArray = lr at hl ⊢
  have h0 : lr[0]? = some (.val (.ref E.2.2)) := hl.2.2 (0, .ref E.2.2) (by simp [lv_args, z_val, z_rf])
  have h1 : lr[1]? = some (.val (.int (Int32.ofInt x))) := hl.2.2 (1, .int (Int32.ofInt x)) (by simp [lv_args, z_val, z_rf, Value.category])
  have eR : z_val E (zr (-3)) = .ref E.2.2 := by simp [z_val, z_rf]
  refine lv_aload_n B.exec B.bytes dJ0_charAt_5068e_0 rfl h0 ?_
  obtain ⟨cell, g1, g2, g3, -⟩ := q2
  have hrun := va_runV (R := (headSpec (z_wd mJcha) (z_rm (d + 3) 0 0)).room) (g := F0 m 1 lr [.ref E.2.2]) (As := []) (rest := []) (b := E.2.2) (C := RJ0) (H := s.heap) (locs := []) (cells := 0) (slots := 0) (e := e) (below := below) (meth := meth) (l := l) (n := 0) (index := 492) ⟨B.exec, B.bytes, hml, hown, hts⟩ (c_Jlat (d := d + 2) (sz := sz) (S := S) (M := M) l E D dA (fun v hv => by simp at hv; subst hv; trivial)) ⟨z_callB (d := d + 2) (E := E) hts mb_mJlat sl_lat (Nat.le_refl _) (Nat.le_refl _), hts _ si_lat, hts _ ss_lat⟩ ⟨z_blind _ _ _ _ _ _ _, ⟨cell, g1, g2, g3⟩, fun U hU hW => by
    have := z_pre (as := [zr (-3)]) hR hC va_S.rf U hU hW
    rwa [List.map_cons, eR] at this⟩ rfl rfl hl.1 rfl (by show 2 * 0 + _ ≤ 8; decide) dJ0_charAt_5068e_1 ⟨Nat.le_refl _, Nat.le_refl _⟩
  refine z_cont hrun va_S.rf (fun v sz' S' M' H1 locs1 hq hvo hR1 hS1 => ?_)
  obtain ⟨r, rfl, rfl, rfl, rfl, rfl⟩ := hq
  refine lv_if_eq B.exec B.bytes dJ0_charAt_5068e_4 (tgt := 16) (by decide) (fun h => absurd h (by decide)) (fun _ => ?_)
  refine lv_aload_n B.exec B.bytes dJ0_charAt_5068e_7 rfl h0 ?_
  refine vk_getf B.exec B.bytes q4 hS1 hown (hts _ sf_9) (fun _ h => h) dJ0_charAt_5068e_8 ?_
  refine lv_iload_n B.exec B.bytes dJ0_charAt_5068e_11 rfl h1 ?_
  have hrun2 := va_runS (R := (headSpec (z_wd mJcha) (z_rm (d + 3) 0 0)).room) (g := F0 m 12 lr [.int (Int32.ofInt x), .ref av]) (As := ([.ref av, .int (Int32.ofInt x)] : List Value)) (rest := []) (H := H1) (locs := locs1) (cells := 0 + 0) (slots := 0 + 0) (e := e) (below := below) (meth := meth) (l := l) (n := 2) (index := 495) ⟨B.exec, B.bytes, hml, hown, hts⟩ (c_Jch1 (l := l) (E := E) (D := D) (dA := dA) (d := d) (sz := sz') (S := S') (M := M') (av := av) hx) ⟨z_callB (d := d + 2) (E := E) hts mb_mJch1 sl_ch1 (Nat.le_refl _) (Nat.le_refl _), hts _ is_ch1⟩ ⟨zPt_blind _ _ _ _ _ _ _ _, fun U hU hW => ⟨rfl, by rw [hU]; exact hR1, by rw [hU]; exact z_C_warm hW hS1.2.1 hC, by unfold zTb; rw [hU]; exact (va_T.moved hW.alike q5).kept hS1.2.1⟩⟩ rfl rfl hl.1 rfl (by show 2 * 0 + _ ≤ 8; simp) dJ0_charAt_5068e_12 ⟨Nat.le_refl _, Nat.le_refl _⟩
  refine z_cont hrun2 hS1 (fun v sz2 S2 M2 H2 locs2 hq hvo2 hR2 hS2 => ?_)
  obtain ⟨r, rfl, rfl, rfl, rfl, rfl⟩ := hq
  refine W.widen (k := 0) (n := 0) (Nat.le_refl _) (Nat.le_refl _) ?_
  show W p l e (headSpec (z_wd mJcha) (z_rm (d + 3) 0 0)).room s m _ below meth c H2 locs2 0 0 _ (F0 m 15 lr [.int (Int32.ofInt ((z_wbs.getD x.toNat 0 : Nat) : Int))])
  rw [c4]
  exact W.zret (ty := .char) B.exec B.bytes hret c2 (fun t ht _ => ⟨⟨some (zi ((z_wbs.getD x.toNat 0 : Nat) : Int)), _, _, _, by show _ = Outcome.returned (some (Value.int (Int32.ofInt _))); rw [c4], ⟨_, rfl, rfl, rfl, rfl, rfl⟩, fun y hy => by cases hy; exact c3, by rw [ht]; exact hR2⟩, hS2.F ht⟩) hS2.2.2 dJ0_charAt_5068e_15
