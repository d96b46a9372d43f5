/-! THE PLAIN MACHINE: ints are Int, memory is Nat → Nat → Int, addresses are counted from a base. -/
abbrev zV : Type := Int ⊕ Int ⊕ Int
abbrev zi (x : Int) : zV := Sum.inl x
abbrev zl (x : Int) : zV := Sum.inr (Sum.inl x)
abbrev zr (x : Int) : zV := Sum.inr (Sum.inr x)
abbrev zn (a : Nat) : zV := zr (a : Int)
abbrev zSh : Type := Nat → Nat × Nat × (Nat → Int)
abbrev zMem : Type := Nat → Nat → Int
abbrev zMt : Type := MethodName × ByteArray × Nat × Option FieldType
abbrev zAd : Type := Nat × Nat × Nat
def w32 (x : Int) : Int := (x + 2147483648) % 4294967296 - 2147483648
def w64 (x : Int) : Int := (x + 9223372036854775808) % 18446744073709551616 - 9223372036854775808
def z_i32 (x : Int) : Prop := -2147483648 ≤ x ∧ x ≤ 2147483647
def z_i64 (x : Int) : Prop := -9223372036854775808 ≤ x ∧ x ≤ 9223372036854775807
theorem w32_ok (x : Int) : z_i32 (w32 x) := by unfold z_i32 w32; omega
theorem w64_ok (x : Int) : z_i64 (w64 x) := by unfold z_i64 w64; omega
theorem w32_id {x : Int} (h : z_i32 x) : w32 x = x := by unfold z_i32 at h; unfold w32; omega
theorem w64_id {x : Int} (h : z_i64 x) : w64 x = x := by unfold z_i64 at h; unfold w64; omega
theorem i32_to {x : Int} (h : z_i32 x) : (Int32.ofInt x).toInt = x := by
  unfold z_i32 at h
  exact Int32.toInt_ofInt_of_le (by omega) (by omega)
theorem i64_to {x : Int} (h : z_i64 x) : (Int64.ofInt x).toInt = x := by
  unfold z_i64 at h
  exact Int64.toInt_ofInt_of_le (by omega) (by omega)
theorem i32_eq {a : Int32} {x : Int} (h : a.toInt = x) : a = Int32.ofInt x := by rw [← h]; exact (Int32.ofInt_toInt a).symm
theorem i64_eq {a : Int64} {x : Int} (h : a.toInt = x) : a = Int64.ofInt x := by rw [← h]; exact (Int64.ofInt_toInt a).symm
theorem i32_in (a : Int32) : z_i32 a.toInt := by
  have h1 := Int32.le_toInt a
  have h2 := Int32.toInt_lt a
  unfold z_i32
  omega
theorem i64_in (a : Int64) : z_i64 a.toInt := by
  have h1 := Int64.le_toInt a
  have h2 := Int64.toInt_lt a
  unfold z_i64
  omega
theorem bm32 (x : Int) : x.bmod (2 ^ 32) = w32 x := by
  unfold w32
  rw [Int.bmod_def]
  split <;> omega
theorem bm64 (x : Int) : x.bmod (2 ^ 64) = w64 x := by
  unfold w64
  rw [Int.bmod_def]
  split <;> omega
def z_rf (E : zAd) (x : Int) : Value := if 0 ≤ x then .ref (E.1 + x.toNat) else if x = -1 then .null else if x = -2 then .ref E.2.1 else .ref E.2.2
def z_val (E : zAd) : zV → Value
  | .inl x => .int (Int32.ofInt x)
  | .inr (.inl x) => .long (Int64.ofInt x)
  | .inr (.inr x) => z_rf E x
def z_ok : zV → Prop
  | .inl x => z_i32 x
  | .inr (.inl x) => z_i64 x
  | .inr (.inr _) => True
def z_fty : FieldType → Nat
  | .long => 1
  | .object _ => 2
  | .array _ => 2
  | .boolean => 3
  | _ => 0
def z_tyOf : Nat → Nat → FieldType
  | 0 => tyX0 | 1 => tyX1 | 2 => tyX2 | 3 => tyX3 | 4 => tyX4 | 5 => tyX5 | 6 => tyX6 | 7 => tyX7 | 8 => tyX8 | 9 => tyX9 | 10 => tyX10 | _ => tyX11
def z_finOf : Nat → Nat → Bool
  | 0 => fun k => (TX0 k).2.2.2 | 1 => fun k => (TX1 k).2.2.2 | 2 => fun k => (TX2 k).2.2.2 | 3 => fun k => (TX3 k).2.2.2 | 4 => fun k => (TX4 k).2.2.2 | 5 => fun k => (TX5 k).2.2.2 | 6 => fun k => (TX6 k).2.2.2 | 7 => fun k => (TX7 k).2.2.2 | 8 => fun k => (TX8 k).2.2.2 | 9 => fun k => (TX9 k).2.2.2 | 10 => fun k => (TX10 k).2.2.2 | _ => fun k => (TX11 k).2.2.2
/-- 0 a number, 1 a long, 2 a reference that may change, 3 a boolean, 4 a reference that is final -/
def z_ft (ci k : Nat) : Nat := match z_fty (z_tyOf ci k) with
  | 2 => if z_finOf ci k = true then 4 else 2
  | t => t
def z_mk : Nat → Int → zV
  | 1, x => zl x
  | 2, x => zr x
  | 4, x => zr x
  | _, x => zi x
def z_df (ci k : Nat) : Int := match z_ft ci k with
  | 2 => -1
  | _ => 0
def z_up (M : zMem) (a k : Nat) (x : Int) : zMem := fun i j => if i = a ∧ j = k then x else M i j
def z_mup (M : zMem) (a : Nat) (f : Nat → Int) : zMem := fun i => if i = a then f else M i
def z_sup (S : zSh) (a : Nat) (v : Nat × Nat × (Nat → Int)) : zSh := fun i => if i = a then v else S i
def z_op (E : zAd) (x : Int) : Option Nat := if 0 ≤ x then some (E.1 + x.toNat) else none
def z_fv (S : zSh) (M : zMem) (i k : Nat) : Int := if z_ft (S i).1 k = 4 then (S i).2.2 k else M i k
def z_ent (E : zAd) (dA : Nat → ClassId) (S : zSh) (M : zMem) (i : Nat) : va_E :=
  if (S i).1 < 20 then .inr ((S i).1, (List.range (S i).2.1).map fun k => z_val E (z_mk (z_ft (S i).1 k) (z_fv S M i k)))
  else if (S i).1 = 21 then .inl (dA 1, (S i).2.1, .inr (.inl fun j => Int64.ofInt (M i j)))
  else if (S i).1 < 24 then .inl (dA ((S i).1 - 20), (S i).2.1, .inl fun j => Int32.ofInt (M i j))
  else .inl (dA ((S i).1 - 20), (S i).2.1, .inr (.inr (.inr (.inr fun j => z_op E (M i j)))))
/-- what a cell may hold -/
def z_cok (S : zSh) (M : zMem) (i : Nat) : Prop := ∀ k, k < (S i).2.1 →
  ((S i).1 < 20 → z_ok (z_mk (z_ft (S i).1 k) (z_fv S M i k))) ∧ ((S i).1 = 20 → z_i32 (M i k)) ∧ ((S i).1 = 21 → z_i64 (M i k)) ∧ ((S i).1 = 22 → -128 ≤ M i k ∧ M i k ≤ 127) ∧ ((S i).1 = 23 → 0 ≤ M i k ∧ M i k ≤ 1) ∧ (24 ≤ (S i).1 → -1 ≤ M i k)
def z_ws (E : zAd) (dA : Nat → ClassId) (sz : Nat) (S : zSh) (M : zMem) : va_W := (List.range sz).map fun i => (E.1 + i, z_ent E dA S M i)
def z_R (E : zAd) (D : va_G) (dA : Nat → ClassId) (sz : Nat) (S : zSh) (M : zMem) (H : Heap) : Prop :=
  H.size = E.1 + sz ∧ va_P D vwCl (z_ws E dA sz S M) H ∧ ∀ i, i < sz → z_cok S M i
abbrev z_A (E : zAd) : Nat → Prop := fun q => E.1 ≤ q
theorem z_ws_get {E : zAd} {dA : Nat → ClassId} {sz : Nat} {S : zSh} {M : zMem} {i : Nat} (h : i < sz) : (z_ws E dA sz S M)[i]? = some (E.1 + i, z_ent E dA S M i) := by
  simp [z_ws, h]
theorem z_ent_row {E : zAd} {dA : Nat → ClassId} {S S' : zSh} {M M' : zMem} {i : Nat} (hS : S' i = S i) (hM : M' i = M i) : z_ent E dA S' M' i = z_ent E dA S M i := by
  unfold z_ent z_fv; rw [hS, hM]
theorem z_ws_set {E : zAd} {dA : Nat → ClassId} {sz : Nat} {S : zSh} {M M' : zMem} {a : Nat} (hM : ∀ i, i ≠ a → M' i = M i) : z_ws E dA sz S M' = (z_ws E dA sz S M).set a (E.1 + a, z_ent E dA S M' a) := by
  apply List.ext_getElem?
  intro i
  rw [List.getElem?_set]
  by_cases hi : i < sz
  · rw [z_ws_get hi]
    by_cases h : a = i
    · subst h
      simp [z_ws, hi]
    · rw [if_neg h, z_ws_get hi, z_ent_row rfl (hM i (fun e => h e.symm))]
  · have h1 : ∀ N : zMem, (z_ws E dA sz S N)[i]? = none := fun N => by simp [z_ws]; omega
    rw [h1, h1]
    have h2 : ¬ i < (z_ws E dA sz S M).length := by simpa [z_ws] using hi
    split
    · rename_i h
      subst h
      rw [if_neg h2]
    · rfl
theorem z_ws_push {E : zAd} {dA : Nat → ClassId} {sz : Nat} {S S' : zSh} {M M' : zMem} (hS : ∀ i, i < sz → S' i = S i) (hM : ∀ i, i < sz → M' i = M i) : z_ws E dA (sz + 1) S' M' = z_ws E dA sz S M ++ [(E.1 + sz, z_ent E dA S' M' sz)] := by
  unfold z_ws
  rw [List.range_succ, List.map_append]
  congr 1
  apply List.map_congr_left
  intro i hi
  have := List.mem_range.mp hi
  rw [z_ent_row (hS i this) (hM i this)]
theorem z_D {E : zAd} {dA : Nat → ClassId} {sz : Nat} {S : zSh} {M : zMem} : va_D (z_A E) (z_ws E dA sz S M) := by
  refine ⟨fun i j p q hp hq h => ?_, fun k q hq => ?_⟩
  · have hi : i < sz := by
      have := (List.getElem?_eq_some_iff.mp hp).1
      simpa [z_ws] using this
    have hj : j < sz := by
      have := (List.getElem?_eq_some_iff.mp hq).1
      simpa [z_ws] using this
    rw [z_ws_get hi] at hp
    rw [z_ws_get hj] at hq
    cases hp
    cases hq
    simp at h
    exact h
  · have hi : k < sz := by
      have := (List.getElem?_eq_some_iff.mp hq).1
      simpa [z_ws] using this
    rw [z_ws_get hi] at hq
    cases hq
    exact Nat.le_add_right _ _
/-! words -/
def z_tb : List Cond := lw_tbl.filter goodWord
def z_isNest : Cond → Bool
  | .fieldLinkNest .. => true
  | .methodLinkNest .. => true
  | _ => false
def z_nest : List Cond := tables_1.filter z_isNest
theorem z_tbm {w : Cond} (i : Nat) (h : tables_1[i]? = some w) (hg : goodWord w = true) : w ∈ z_tb := List.mem_filter.mpr ⟨List.mem_append_right _ (List.mem_of_getElem? h), hg⟩
theorem z_nem {w : Cond} (i : Nat) (h : tables_1[i]? = some w) (hg : z_isNest w = true) : w ∈ z_nest := List.mem_filter.mpr ⟨List.mem_of_getElem? h, hg⟩
def z_wd (mt : zMt) : List Cond := Cond.code mt.1 mt.2.1 mt.2.2.1 mt.2.2.2 :: z_tb
theorem z_good {mt : zMt} (h : Cond.code mt.1 mt.2.1 mt.2.2.1 mt.2.2.2 ∈ z_tb) : GoodIn z_tb (z_wd mt) := by
  intro w hw
  have hm : w ∈ z_tb := by
    rcases List.mem_cons.mp hw with rfl | h2
    · exact h
    · exact h2
  exact ⟨hm, good_of_word (List.mem_filter.mp hm).2⟩
def z_tys (dA : Nat → ClassId) : List (ClassId × FieldType) := [(dA 0, .int), (dA 1, .long), (dA 2, .byte), (dA 3, .boolean), (dA 4, .object RX7), (dA 5, .object RX9)]
def z_words : String := "hand lay debt served ground whales oil crew month mood done gone purse casks eats deserts hunt sell advance leave for by times if or and not "
def z_wbs : List Nat := [104, 97, 110, 100, 32, 108, 97, 121, 32, 100, 101, 98, 116, 32, 115, 101, 114, 118, 101, 100, 32, 103, 114, 111, 117, 110, 100, 32, 119, 104, 97, 108, 101, 115, 32, 111, 105, 108, 32, 99, 114, 101, 119, 32, 109, 111, 110, 116, 104, 32, 109, 111, 111, 100, 32, 100, 111, 110, 101, 32, 103, 111, 110, 101, 32, 112, 117, 114, 115, 101, 32, 99, 97, 115, 107, 115, 32, 101, 97, 116, 115, 32, 100, 101, 115, 101, 114, 116, 115, 32, 104, 117, 110, 116, 32, 115, 101, 108, 108, 32, 97, 100, 118, 97, 110, 99, 101, 32, 108, 101, 97, 118, 101, 32, 102, 111, 114, 32, 98, 121, 32, 116, 105, 109, 101, 115, 32, 105, 102, 32, 111, 114, 32, 97, 110, 100, 32, 110, 111, 116, 32]
def z_Str (E : zAd) (U : State) (H : Heap) : Prop :=
  vk_R RX6 93 z_words E.2.2 U ∧ va_O "java/lang/String" E.2.2 (z_A E) U H ∧ va_OF "java/lang/String" "coder" "B" (.int 0) E.2.2 (z_A E) U H ∧ (∃ av : Nat, va_OF "java/lang/String" "value" "[B" (.ref av) E.2.2 (z_A E) U H ∧ va_T .byte av 141 (fun j => .int (Int32.ofNat (z_wbs.getD j 0))) (z_A E) U H) ∧ va_Z "java/lang/String" "COMPACT_STRINGS" "Z" (.int 1) (z_A E) U H ∧ va_Zq "jdk/internal/util/Preconditions" "SIOOBE_FORMATTER" "Ljava/util/function/BiFunction;" (z_A E) U H
def z_C (E : zAd) (D : va_G) (dA : Nat → ClassId) (U : State) (H : Heap) : Prop :=
  va_K D vwCl (z_tys dA) U ∧ (∀ w ∈ z_nest, va_Nw w U) ∧ va_AO RX7 U ∧ va_AO RX9 U ∧ z_Str E U H
theorem z_nest_warm {s U : State} (hW : s.WarmedH U.vm) {w : Cond} (hw : w ∈ z_nest) (h : va_Nw w s) : va_Nw w U := by
  have h1 := (List.mem_filter.mp hw).2
  cases w <;> first | exact va_Nw.warmF hW h | exact va_Nw.warmM hW h | (simp [z_isNest] at h1)
theorem z_Str_moved {E : zAd} {s U : State} {H H1 : Heap} (hW : s.WarmedH U.vm) (hq : ∀ a : Nat, a < H.size → ¬ z_A E a → H1[a]? = H[a]?) (h : z_Str E s H) : z_Str E U H1 := by
  obtain ⟨h1, h2, h3, ⟨av, h4, h5⟩, h6, h7⟩ := h
  exact ⟨h1.warm hW, (va_O.moved hW.alike h2).kept hq, (va_OF.moved hW.alike h3).kept hq, ⟨av, (va_OF.moved hW.alike h4).kept hq, (va_T.moved hW.alike h5).kept hq⟩, (va_Z.moved hW.alike h6).kept hq, (va_Zq.moved hW.alike h7).kept hq⟩
theorem z_Str_calling {E : zAd} {U : State} {g : JFrame} {mk : MethodId} {a : Array Value} (h : z_Str E U U.heap) : z_Str E (U.calling g mk a) (U.calling g mk a).heap := by
  obtain ⟨h1, h2, h3, ⟨av, h4, h5⟩, h6, h7⟩ := h
  have hr : U.vm.Alike (U.calling g mk a).vm := Vm.Alike.refl U.vm
  exact ⟨vk_R.same (u := U) rfl h1, va_O.moved hr h2, va_OF.moved hr h3, ⟨av, va_OF.moved hr h4, va_T.moved hr h5⟩, va_Z.moved hr h6, va_Zq.moved hr h7⟩
theorem z_C_warm {E : zAd} {D : va_G} {dA : Nat → ClassId} {s U : State} {H H1 : Heap} (hW : s.WarmedH U.vm) (hq : ∀ a : Nat, a < H.size → ¬ z_A E a → H1[a]? = H[a]?) (h : z_C E D dA s H) : z_C E D dA U H1 := by
  obtain ⟨h1, h2, h3, h4, h5⟩ := h
  exact ⟨va_K.moved hW.alike h1, fun w hw => z_nest_warm hW hw (h2 w hw), va_AO.moved hW.alike h3, va_AO.moved hW.alike h4, z_Str_moved hW hq h5⟩
theorem z_C_calling {E : zAd} {D : va_G} {dA : Nat → ClassId} {U : State} {g : JFrame} {mk : MethodId} {a : Array Value} (h : z_C E D dA U U.heap) : z_C E D dA (U.calling g mk a) (U.calling g mk a).heap := by
  obtain ⟨h1, h2, h3, h4, h5⟩ := h
  have hr : U.vm.Alike (U.calling g mk a).vm := Vm.Alike.refl U.vm
  refine ⟨va_K.moved hr h1, fun w hw => ?_, va_AO.moved hr h3, va_AO.moved hr h4, z_Str_calling h5⟩
  refine va_Nw.same ?_ (u := U) rfl (h2 w hw)
  have h1 := (List.mem_filter.mp hw).2
  cases w <;> first | rfl | (simp [z_isNest] at h1)
/-! locals -/
abbrev zLs : Type := List (Option zV)
def z_as (E : zAd) : Nat → zLs → List (Nat × Value)
  | _, [] => []
  | i, none :: t => z_as E (i + 1) t
  | i, some v :: t => (i, z_val E v) :: z_as E (i + 1) t
def z_noL : Option zV → Option zV
  | some (.inr (.inl _)) => none
  | v => v
def z_st1 : zLs → Nat → zV → zLs
  | [], _, _ => []
  | _ :: t, 0, v => some v :: t
  | a :: t, n + 1, v => (match n with | 0 => z_noL a | _ => a) :: z_st1 t n v
def z_st2 : zLs → Nat → zV → zLs
  | [], _, _ => []
  | _ :: t, 0, v => some v :: (match t with | [] => [] | _ :: t' => none :: t')
  | a :: t, n + 1, v => (match n with | 0 => z_noL a | _ => a) :: z_st2 t n v
def z_L (E : zAd) (nL : Nat) (ls : zLs) (lr : Array Slot) : Prop := lv_has lr nL (z_as E 0 ls) ∧ (∀ v, some v ∈ ls → z_ok v) ∧ ls.length = nL
theorem z_as_mem {E : zAd} {q : Nat × Value} : ∀ {ls : zLs} {k : Nat}, q ∈ z_as E k ls ↔ ∃ (j : Nat) (v : zV), ls[j]? = some (some v) ∧ q = (k + j, z_val E v)
  | [], k => by simp [z_as]
  | none :: t, k => by
    simp only [z_as]
    rw [z_as_mem (ls := t)]
    constructor
    · rintro ⟨j, v, h, rfl⟩
      exact ⟨j + 1, v, by simpa using h, by congr 1; omega⟩
    · rintro ⟨j, v, h, rfl⟩
      cases j with
      | zero => simp at h
      | succ j => exact ⟨j, v, by simpa using h, by congr 1; omega⟩
  | some w :: t, k => by
    simp only [z_as, List.mem_cons]
    rw [z_as_mem (ls := t)]
    constructor
    · rintro (rfl | ⟨j, v, h, rfl⟩)
      · exact ⟨0, w, rfl, rfl⟩
      · exact ⟨j + 1, v, by simpa using h, by congr 1; omega⟩
    · rintro ⟨j, v, h, rfl⟩
      cases j with
      | zero => simp at h; subst h; exact Or.inl rfl
      | succ j => exact Or.inr ⟨j, v, by simpa using h, by congr 1; omega⟩
theorem z_cat (E : zAd) : ∀ v : zV, (z_val E v).category = 2 → ∃ x, v = zl x
  | .inl x => fun h => by simp [z_val, Value.category] at h
  | .inr (.inl x) => fun _ => ⟨x, rfl⟩
  | .inr (.inr x) => fun h => by
    simp only [z_val, z_rf] at h
    split at h
    · simp [Value.category] at h
    · split at h
      · simp [Value.category] at h
      · split at h <;> simp [Value.category] at h
theorem z_st1_len (v : zV) : ∀ (ls : zLs) (i : Nat), (z_st1 ls i v).length = ls.length
  | [], _ => rfl
  | _ :: t, 0 => rfl
  | _ :: t, n + 1 => by simp [z_st1, z_st1_len v t n]
theorem z_st2_len (v : zV) : ∀ (ls : zLs) (i : Nat), (z_st2 ls i v).length = ls.length
  | [], _ => rfl
  | [_], 0 => rfl
  | _ :: _ :: t, 0 => rfl
  | _ :: t, n + 1 => by simp [z_st2, z_st2_len v t n]
theorem z_noL_some {a : Option zV} {v : zV} (h : z_noL a = some v) : a = some v ∧ ∀ x, v ≠ zl x := by
  rcases a with _ | (x | x | x)
  · simp [z_noL] at h
  · simp [z_noL] at h; subst h; exact ⟨rfl, fun x => by simp⟩
  · simp [z_noL] at h
  · simp [z_noL] at h; subst h; exact ⟨rfl, fun x => by simp⟩
theorem z_st1_get (v : zV) : ∀ (ls : zLs) (i j : Nat) (w : zV), (z_st1 ls i v)[j]? = some (some w) → (j = i ∧ w = v) ∨ (j ≠ i ∧ ls[j]? = some (some w) ∧ (j + 1 = i → ∀ x, w ≠ zl x))
  | [], i, j, w => by simp [z_st1]
  | a :: t, 0, j, w => by
    intro h
    cases j with
    | zero => simp [z_st1] at h; exact Or.inl ⟨rfl, h.symm⟩
    | succ j => simp [z_st1] at h; exact Or.inr ⟨by omega, by simpa using h, by omega⟩
  | a :: t, n + 1, j, w => by
    intro h
    cases j with
    | zero =>
      right
      cases n with
      | zero =>
        simp [z_st1] at h
        obtain ⟨h1, h2⟩ := z_noL_some h
        exact ⟨by omega, by simpa using h1, fun _ => h2⟩
      | succ n => simp [z_st1] at h; exact ⟨by omega, by simpa using h, by omega⟩
    | succ j =>
      simp [z_st1] at h
      rcases z_st1_get v t n j w h with ⟨rfl, rfl⟩ | ⟨h1, h2, h3⟩
      · exact Or.inl ⟨rfl, rfl⟩
      · exact Or.inr ⟨by omega, by simpa using h2, fun e => h3 (by omega)⟩
theorem z_st2_get (v : zV) : ∀ (ls : zLs) (i j : Nat) (w : zV), (z_st2 ls i v)[j]? = some (some w) → (j = i ∧ w = v) ∨ (j ≠ i ∧ j ≠ i + 1 ∧ ls[j]? = some (some w) ∧ (j + 1 = i → ∀ x, w ≠ zl x))
  | [], i, j, w => by simp [z_st2]
  | a :: t, 0, j, w => by
    intro h
    cases j with
    | zero => simp [z_st2] at h; exact Or.inl ⟨rfl, h.symm⟩
    | succ j =>
      cases t with
      | nil => simp [z_st2] at h
      | cons b t =>
        simp [z_st2] at h
        cases j with
        | zero => simp at h
        | succ j => simp at h; exact Or.inr ⟨by omega, by omega, by simpa using h, by omega⟩
  | a :: t, n + 1, j, w => by
    intro h
    cases j with
    | zero =>
      right
      cases n with
      | zero =>
        simp [z_st2] at h
        obtain ⟨h1, h2⟩ := z_noL_some h
        exact ⟨by omega, by omega, by simpa using h1, fun _ => h2⟩
      | succ n => simp [z_st2] at h; exact ⟨by omega, by omega, by simpa using h, by omega⟩
    | succ j =>
      simp [z_st2] at h
      rcases z_st2_get v t n j w h with ⟨rfl, rfl⟩ | ⟨h1, h2, h3, h4⟩
      · exact Or.inl ⟨rfl, rfl⟩
      · exact Or.inr ⟨by omega, by omega, by simpa using h3, fun e => h4 (by omega)⟩
theorem z_L_get {E : zAd} {nL : Nat} {ls : zLs} {lr : Array Slot} (h : z_L E nL ls lr) {i : Nat} {v : zV} (hi : ls[i]? = some (some v)) : lr[i]? = some (.val (z_val E v)) :=
  h.1.2.2 (i, z_val E v) (z_as_mem.mpr ⟨i, v, hi, by simp⟩)
theorem z_L_ok {E : zAd} {nL : Nat} {ls : zLs} {lr : Array Slot} (h : z_L E nL ls lr) {i : Nat} {v : zV} (hi : ls[i]? = some (some v)) : z_ok v := h.2.1 v (List.mem_of_getElem? hi)
theorem z_L_st1 {E : zAd} {nL : Nat} {ls : zLs} {lr lr' : Array Slot} {i : Nat} {v : zV} (h : z_L E nL ls lr) (hv : z_ok v) (h' : lv_has lr' nL ((i, z_val E v) :: (z_as E 0 ls).filter (fun q => !(q.1 == i) && !(q.1 + 1 == i && q.2.category == 2)))) : z_L E nL (z_st1 ls i v) lr' := by
  refine ⟨⟨h'.1, h'.2.1, fun q hq => h'.2.2 q ?_⟩, fun w hw => ?_, by rw [z_st1_len]; exact h.2.2⟩
  · obtain ⟨j, w, hj, rfl⟩ := z_as_mem.mp hq
    rcases z_st1_get v ls i j w hj with ⟨rfl, rfl⟩ | ⟨h1, h2, h3⟩
    · simp
    · refine List.mem_cons_of_mem _ (List.mem_filter.mpr ⟨z_as_mem.mpr ⟨j, w, h2, rfl⟩, ?_⟩)
      simp only [Nat.zero_add, Bool.and_eq_true, Bool.not_eq_true', beq_eq_false_iff_ne, ne_eq, Bool.and_eq_false_iff]
      refine ⟨h1, ?_⟩
      by_cases hc : (z_val E w).category = 2
      · obtain ⟨x, rfl⟩ := z_cat E w hc
        exact Or.inl (fun e => h3 e x rfl)
      · exact Or.inr hc
  · obtain ⟨j, hj⟩ := List.getElem?_of_mem hw
    rcases z_st1_get v ls i j w hj with ⟨rfl, rfl⟩ | ⟨h1, h2, h3⟩
    · exact hv
    · exact h.2.1 w (List.mem_of_getElem? h2)
theorem z_L_st2 {E : zAd} {nL : Nat} {ls : zLs} {lr lr' : Array Slot} {i : Nat} {v : zV} (h : z_L E nL ls lr) (hv : z_ok v) (h' : lv_has lr' nL ((i, z_val E v) :: (z_as E 0 ls).filter (fun q => !(q.1 == i) && (!(q.1 == i + 1) && !(q.1 + 1 == i && q.2.category == 2))))) : z_L E nL (z_st2 ls i v) lr' := by
  refine ⟨⟨h'.1, h'.2.1, fun q hq => h'.2.2 q ?_⟩, fun w hw => ?_, by rw [z_st2_len]; exact h.2.2⟩
  · obtain ⟨j, w, hj, rfl⟩ := z_as_mem.mp hq
    rcases z_st2_get v ls i j w hj with ⟨rfl, rfl⟩ | ⟨h1, h0, h2, h3⟩
    · simp
    · refine List.mem_cons_of_mem _ (List.mem_filter.mpr ⟨z_as_mem.mpr ⟨j, w, h2, rfl⟩, ?_⟩)
      simp only [Nat.zero_add, Bool.and_eq_true, Bool.not_eq_true', beq_eq_false_iff_ne, ne_eq, Bool.and_eq_false_iff]
      refine ⟨h1, h0, ?_⟩
      by_cases hc : (z_val E w).category = 2
      · obtain ⟨x, rfl⟩ := z_cat E w hc
        exact Or.inl (fun e => h3 e x rfl)
      · exact Or.inr hc
  · obtain ⟨j, hj⟩ := List.getElem?_of_mem hw
    rcases z_st2_get v ls i j w hj with ⟨rfl, rfl⟩ | ⟨h1, h0, h2, h3⟩
    · exact hv
    · exact h.2.1 w (List.mem_of_getElem? h2)
