/-! THE CLAIM: what the Statement gives at the law's start -/
abbrev zTs : Term := .string RX6 93
abbrev zTv : Term := .field zTs "java/lang/String" "value" "[B"
def zFl : List Cond := flatC (Jvm.Cond.and given_1 narrow_1)
theorem zf_cs : zFl[4]? = some (Cond.eq (.static "java/lang/String" "COMPACT_STRINGS" "Z") (.int 1)) := by decide +kernel
theorem zf_sf : zFl[5]? = some (Cond.isRef (.static "jdk/internal/util/Preconditions" "SIOOBE_FORMATTER" "Ljava/util/function/BiFunction;")) := by decide +kernel
theorem zf_ex : zFl[33]? = some (Cond.exactly zTs "java/lang/String") := by decide +kernel
theorem zf_co : zFl[34]? = some (Cond.eq (.field zTs "java/lang/String" "coder" "B") (.int 0)) := by decide +kernel
theorem zf_ar : zFl[35]? = some (Cond.arrayOf zTv .byte) := by decide +kernel
theorem zf_le : zFl[36]? = some (Cond.eq (.length zTv) (.int 141)) := by decide +kernel
set_option maxRecDepth 100000 in
theorem zf_el : ∀ j : Nat, j < 141 → zFl[37 + j]? = some (Cond.eq (.elem zTv (.int (Int32.ofNat j))) (.int (Int32.ofNat (z_wbs.getD j 0)))) := by decide +kernel
theorem zs_at {args : Array Value} {s : State} (hgv : (Jvm.Cond.and given_1 narrow_1).before args s = true) {i : Nat} {w : Cond} (h : zFl[i]? = some w) : w.before args s = true := flat_of_before _ hgv w (List.mem_of_getElem? h)
theorem zs_tb (i : Nat) {w : Cond} (h : tables_1[i]? = some w) : w ∈ lw_tbl := List.mem_append_right _ (List.mem_of_getElem? h)
theorem zt_sr : Cond.stringRef RX6 93 z_words ∈ lw_tbl := zs_tb 578 (by decide +kernel)
theorem zt_l1 : Cond.laysStatic "java/lang/String" "COMPACT_STRINGS" "Z" ∈ lw_tbl := zs_tb 588 (by decide +kernel)
theorem zt_l2 : Cond.laysStatic "jdk/internal/util/Preconditions" "SIOOBE_FORMATTER" "Ljava/util/function/BiFunction;" ∈ lw_tbl := zs_tb 604 (by decide +kernel)
theorem zt_i1 : Cond.initialized "java/lang/String" ∈ lw_tbl := zs_tb 15 (by decide +kernel)
theorem zt_i2 : Cond.initialized "jdk/internal/util/Preconditions" ∈ lw_tbl := zs_tb 17 (by decide +kernel)
theorem zt_a7 : Cond.arrayOver (.object RX7) ∈ lw_tbl := zs_tb 143 (by decide +kernel)
theorem zt_a9 : Cond.arrayOver (.object RX9) ∈ lw_tbl := zs_tb 35 (by decide +kernel)
/-- the text that the class's reader holds its words in -/
theorem zs_str {args : Array Value} {s : State} {b : Nat} (hts : ∀ w ∈ lw_tbl, w.before args s = true) (hgv : (Jvm.Cond.and given_1 narrow_1).before args s = true) : ∃ a : Nat, z_Str (s.heap.size, b, a) s s.heap := by
  have hA : ∀ a : Nat, a < s.heap.size → ¬ (fun q : Nat => s.heap.size ≤ q) a := fun a h => Nat.not_le.mpr h
  have hex := zs_at hgv zf_ex
  obtain ⟨a, c9, cell, k9, q1, -⟩ := Cond.exactly_spec (args := args) (first := s) (o := none) (s := s) (idx := []) (t := zTs) (cls := "java/lang/String") hex
  have hco : (Term.field zTs "java/lang/String" "coder" "B").eval args s none [] s = some (.int 0) := va_eqv (zs_at hgv zf_co) rfl
  have hlen : (Term.length zTv).eval args s none [] s = some (.int (Int32.ofNat 141)) := va_eqv (zs_at hgv zf_le) rfl
  obtain ⟨av, hav, hT⟩ := va_Tof (f := fun j => Value.int (Int32.ofNat (z_wbs.getD j 0))) (by decide) (zs_at hgv zf_ar) hlen (fun j hj => va_eqv (zs_at hgv (zf_el j hj)) rfl) hA
  have hcs : (Term.static "java/lang/String" "COMPACT_STRINGS" "Z").eval args s none [] s = some (.int 1) := va_eqv (zs_at hgv zf_cs) rfl
  exact ⟨a, vk_R.of (hts _ zt_sr) q1, va_Oof hex q1 hA, vk_OFof q1 hco hA, ⟨av, vk_OFof q1 hav hA, hT⟩, va_Zof (hts _ zt_l1) (hts _ zt_i1) hcs hA, va_Zqof (hts _ zt_l2) (hts _ zt_i2) (zs_at hgv zf_sf) hA⟩
/-- the classes -/
theorem zs_D {args : Array Value} {s : State} (hts : ∀ w ∈ z_tb, w.before args s = true) : ∃ D : va_G, ∀ (k : Nat) (q : vw_C), vwCl[k]? = some q → u_Kn s q.1 q.2.1 q.2.2 (D.1 k) (D.2 k) := by
  have kn : ∀ {ci : Nat} {C : String} {T : u_T} {N : Nat}, z_CF ci C T N → Cond.instantiable C N ∈ z_tb → ∃ p : ClassId × (Nat → Nat), ∀ q : vw_C, vwCl[ci]? = some q → u_Kn s q.1 q.2.1 q.2.2 p.1 p.2 := by
    intro ci C T N hcf hi
    obtain ⟨cC, iS, hkn⟩ := u_known hts hcf.2.2.1 (hts _ hi)
    refine ⟨(cC, iS), fun q hq => ?_⟩
    have eq1 : (C, T, N) = q := Option.some.inj (hcf.1.symm.trans hq)
    rw [← eq1]; exact hkn
  have k0' := kn cfX0 (z_tbm 277 (by decide +kernel) rfl)
  have k1' := kn cfX1 (z_tbm 241 (by decide +kernel) rfl)
  have k2' := kn cfX2 (z_tbm 145 (by decide +kernel) rfl)
  have k3' := kn cfX3 (z_tbm 247 (by decide +kernel) rfl)
  have k4' := kn cfX4 (z_tbm 264 (by decide +kernel) rfl)
  have k5' := kn cfX5 (z_tbm 299 (by decide +kernel) rfl)
  have k6' := kn cfX6 (z_tbm 179 (by decide +kernel) rfl)
  have k7' := kn cfX7 (z_tbm 29 (by decide +kernel) rfl)
  have k8' := kn cfX8 (z_tbm 165 (by decide +kernel) rfl)
  have k9' := kn cfX9 (z_tbm 185 (by decide +kernel) rfl)
  have k10' := kn cfX10 (z_tbm 21 (by decide +kernel) rfl)
  have k11' := kn cfX11 (z_tbm 1027 (by decide +kernel) rfl)
  have key : ∀ k : Nat, ∃ p : ClassId × (Nat → Nat), ∀ q : vw_C, vwCl[k]? = some q → u_Kn s q.1 q.2.1 q.2.2 p.1 p.2 := by
    intro k
    by_cases h12 : k < 12
    · have hk : k = 0 ∨ k = 1 ∨ k = 2 ∨ k = 3 ∨ k = 4 ∨ k = 5 ∨ k = 6 ∨ k = 7 ∨ k = 8 ∨ k = 9 ∨ k = 10 ∨ k = 11 := by omega
      rcases hk with hk | hk | hk | hk | hk | hk | hk | hk | hk | hk | hk | hk <;> rw [hk] <;> assumption
    · obtain ⟨p0, hp0⟩ := k0'
      refine ⟨p0, fun q hq => ?_⟩
      have h9 : k < 12 := (List.getElem?_eq_some_iff.mp hq).1
      exact absurd h9 h12
  exact ⟨(fun k => (Classical.choose (key k)).1, fun k => (Classical.choose (key k)).2), fun k q hq => Classical.choose_spec (key k) q hq⟩
theorem zs_pr {args : Array Value} {s : State} {ty : FieldType} (h : (Cond.arrayClass ty).before args s = true) : ∃ cA : ClassId, ArrOfT s cA ty ∧ s.vm.findClass ("[" ++ ty.toString) = some cA := by
  obtain ⟨cA, kA, comp, h1, h2, h3⟩ := Cond.arrayClass_spec h
  exact ⟨cA, fun n z => ⟨(fun k hk => by cases hk), kA, h2, comp, h3⟩, h1⟩
theorem zs_or {args : Array Value} {s : State} {C : String} (h : (Cond.arrayOver (.object C)).before args s = true) : ∃ cA : ClassId, ArrOfT s cA (.object C) ∧ va_RA s cA (.object C) := by
  obtain ⟨comp, cA, kA, h1, -, h3, h4, h5⟩ := Cond.arrayOver_spec h
  exact ⟨cA, fun n z => ⟨(fun k hk => by cases hk), kA, h3, comp, h4⟩, kA, comp, h3, h4, h1, h5⟩
def z_six (c0 c1 c2 c3 c4 c5 : ClassId) : Nat → ClassId
  | 0 => c0
  | 1 => c1
  | 2 => c2
  | 3 => c3
  | 4 => c4
  | _ => c5
/-- the arrays' classes -/
theorem zs_dA {args : Array Value} {s : State} (hts : ∀ w ∈ lw_tbl, w.before args s = true) : ∃ dA : Nat → ClassId, ∀ (k : Nat) (q : ClassId × FieldType), (z_tys dA)[k]? = some q → ArrOfT s q.1 q.2 ∧ va_RA s q.1 q.2 := by
  have htz : ∀ w ∈ z_tb, w.before args s = true := fun w hw => hts w (List.mem_filter.mp hw).1
  obtain ⟨c0, a0, b0⟩ := zs_pr (htz _ wa_int)
  obtain ⟨c1, a1, b1⟩ := zs_pr (htz _ wa_long)
  obtain ⟨c2, a2, b2⟩ := zs_pr (htz _ wa_byte)
  obtain ⟨c3, a3, b3⟩ := zs_pr (htz _ wa_boolean)
  obtain ⟨c4, a4, b4⟩ := zs_or (hts _ zt_a7)
  obtain ⟨c5, a5, b5⟩ := zs_or (hts _ zt_a9)
  refine ⟨z_six c0 c1 c2 c3 c4 c5, fun k q hq => ?_⟩
  by_cases h6 : k < 6
  · have hk : k = 0 ∨ k = 1 ∨ k = 2 ∨ k = 3 ∨ k = 4 ∨ k = 5 := by omega
    rcases hk with hk | hk | hk | hk | hk | hk <;> rw [hk] at hq
    · have eq1 : (c0, FieldType.int) = q := Option.some.inj hq
      rw [← eq1]; exact ⟨a0, b0⟩
    · have eq1 : (c1, FieldType.long) = q := Option.some.inj hq
      rw [← eq1]; exact ⟨a1, b1⟩
    · have eq1 : (c2, FieldType.byte) = q := Option.some.inj hq
      rw [← eq1]; exact ⟨a2, b2⟩
    · have eq1 : (c3, FieldType.boolean) = q := Option.some.inj hq
      rw [← eq1]; exact ⟨a3, b3⟩
    · have eq1 : (c4, FieldType.object RX7) = q := Option.some.inj hq
      rw [← eq1]; exact ⟨a4, b4⟩
    · have eq1 : (c5, FieldType.object RX9) = q := Option.some.inj hq
      rw [← eq1]; exact ⟨a5, b5⟩
  · have h9 : k < 6 := (List.getElem?_eq_some_iff.mp hq).1
    exact absurd h9 h6
theorem zs_ne {args : Array Value} {s : State} (hts : ∀ w ∈ lw_tbl, w.before args s = true) : ∀ w ∈ z_nest, va_Nw w s := by
  intro w hw
  have h0 := hts w (List.mem_append_right _ (List.mem_filter.mp hw).1)
  refine va_Nw.of ?_ h0
  have h1 := (List.mem_filter.mp hw).2
  clear h0 hw
  cases w <;> first | rfl | (simp [z_isNest] at h1)
