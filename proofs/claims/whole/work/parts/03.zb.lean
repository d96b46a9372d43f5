/-! THE JUDGEMENT -/
abbrev zQ : Type := Option zV → Nat → zSh → zMem → Prop
def z_sc (sc : List Int) (E : zAd) (s : State) : Prop := sc = [] ∨ (va_X E.2.1 (sc.length - 1) (fun j => Int32.ofInt (sc.getD j 0)) s s.heap ∧ E.2.1 < s.heap.size ∧ E.2.1 < E.1 ∧ (∀ x ∈ sc, z_i32 x) ∧ sc.length < 2 ^ 31)
def z_rd (cc : ByteArray) (ret : Option FieldType) (pc : Nat) : Option zV → Prop
  | none => decode cc pc = .ok (.return_, 1) ∧ ret = none
  | some (.inl x) => decode cc pc = .ok (.ireturn, 1) ∧ (ret = some .int ∨ (ret = some .boolean ∧ (x = 0 ∨ x = 1)))
  | some (.inr (.inl _)) => decode cc pc = .ok (.lreturn, 1) ∧ ret = some .long
  | some (.inr (.inr _)) => decode cc pc = .ok (.areturn, 1) ∧ ∃ n, ret = some (.object n)
def z_Ret (mt : zMt) (Q : zQ) (E : zAd) (D : va_G) (dA : Nat → ClassId) (p : Program) (l : Launch) (e : Env) (R : Room) (s : State) (m : MethodId) (args : Array Value) (below : List Frame) (meth : Method) (c : Code) (QQ : State → Prop) : Prop :=
  ∀ (v : Option zV) (sz : Nat) (S : zSh) (M : zMem) (H : Heap) (locs : List Loc) (cells slots pc : Nat) (lr : Array Slot), Q v sz S M → z_R E D dA sz S M H → va_S (z_A E) s.heap H locs → cells ≤ R.cells → slots ≤ R.slots → (∀ x, v = some x → z_ok x) → z_rd mt.2.1 mt.2.2.2 pc v → W p l e R s m args below meth c H locs cells slots QQ (F0 m pc lr (v.toList.map (z_val E)))
def z_E (mt : zMt) (d : Nat) (sc : List Int) (Q : zQ) (E : zAd) (D : va_G) (dA : Nat → ClassId) (p : Program) (l : Launch) (e : Env) (R : Room) (s : State) (m : MethodId) (args : Array Value) (below : List Frame) (meth : Method) (c : Code) (QQ : State → Prop) : Prop :=
  p.tables.exec = Jvm.exec ∧ c.code = mt.2.1 ∧ c.maxLocals = mt.2.2.1 ∧ s.vm.findClass mt.1.cls = some m.cls ∧ (∀ w ∈ z_tb, w.before args s = true) ∧ meth.name = mt.1.name ∧ d ≤ R.frames ∧ 64 * d + 64 ≤ R.locals ∧ E.1 ≤ s.heap.size ∧ z_C E D dA s s.heap ∧ z_sc sc E s ∧ z_Ret mt Q E D dA p l e R s m args below meth c QQ
def zW (mt : zMt) (d kc ks : Nat) (sc : List Int) (Q : zQ) (pc : Nat) (ls : zLs) (st : List zV) (sz : Nat) (S : zSh) (M : zMem) : Prop :=
  ∀ (E : zAd) (D : va_G) (dA : Nat → ClassId) (p : Program) (l : Launch) (e : Env) (R : Room) (s : State) (m : MethodId) (args : Array Value) (below : List Frame) (meth : Method) (c : Code) (QQ : State → Prop), z_E mt d sc Q E D dA p l e R s m args below meth c QQ → ∀ (H : Heap) (locs : List Loc) (cells slots : Nat) (lr : Array Slot), z_R E D dA sz S M H → va_S (z_A E) s.heap H locs → cells + kc ≤ R.cells → slots + ks ≤ R.slots → (∀ v ∈ st, z_ok v) → z_L E mt.2.2.1 ls lr → W p l e R s m args below meth c H locs cells slots QQ (F0 m pc lr (st.map (z_val E)))
def zand (x y : Int) : Int := (Int32.ofInt x &&& Int32.ofInt y).toInt
def zor (x y : Int) : Int := (Int32.ofInt x ||| Int32.ofInt y).toInt
def zxor (x y : Int) : Int := (Int32.ofInt x ^^^ Int32.ofInt y).toInt
def zshl (x y : Int) : Int := (Int32.ofInt x <<< (Int32.ofInt y &&& 31)).toInt
def zshr (x y : Int) : Int := (Int32.ofInt x >>> (Int32.ofInt y &&& 31)).toInt
def zushr (x y : Int) : Int := ((Int32.ofInt x).toUInt32 >>> ((Int32.ofInt y).toUInt32 &&& Int32.toUInt32 31)).toInt32.toInt
def zcmp (x y : Int) : Int := if x > y then 1 else if x = y then 0 else -1
def w8 (x : Int) : Int := (x + 128) % 256 - 128
theorem z_ofI (a : Int32) : a = Int32.ofInt a.toInt := (Int32.ofInt_toInt a).symm
theorem z_ofL (a : Int64) : a = Int64.ofInt a.toInt := (Int64.ofInt_toInt a).symm
theorem z_lt {x y : Int} (hx : z_i32 x) (hy : z_i32 y) : (Int32.ofInt x < Int32.ofInt y) ↔ x < y := by rw [Int32.lt_iff_toInt_lt, i32_to hx, i32_to hy]
theorem z_le {x y : Int} (hx : z_i32 x) (hy : z_i32 y) : (Int32.ofInt x ≤ Int32.ofInt y) ↔ x ≤ y := by rw [Int32.le_iff_toInt_le, i32_to hx, i32_to hy]
theorem z_eq {x y : Int} (hx : z_i32 x) (hy : z_i32 y) : (Int32.ofInt x = Int32.ofInt y) ↔ x = y := by rw [← Int32.toInt_inj, i32_to hx, i32_to hy]
theorem z_llt {x y : Int} (hx : z_i64 x) (hy : z_i64 y) : (Int64.ofInt x < Int64.ofInt y) ↔ x < y := by rw [Int64.lt_iff_toInt_lt, i64_to hx, i64_to hy]
theorem z_leq {x y : Int} (hx : z_i64 x) (hy : z_i64 y) : (Int64.ofInt x = Int64.ofInt y) ↔ x = y := by rw [← Int64.toInt_inj, i64_to hx, i64_to hy]
theorem z_i32_0 : z_i32 0 := ⟨by decide, by decide⟩
theorem z_i64_0 : z_i64 0 := ⟨by decide, by decide⟩
theorem z_e_add {x y : Int} (hx : z_i32 x) (hy : z_i32 y) : Int32.ofInt x + Int32.ofInt y = Int32.ofInt (w32 (x + y)) := i32_eq (by rw [Int32.toInt_add, i32_to hx, i32_to hy]; exact bm32 _)
theorem z_e_sub {x y : Int} (hx : z_i32 x) (hy : z_i32 y) : Int32.ofInt x - Int32.ofInt y = Int32.ofInt (w32 (x - y)) := i32_eq (by rw [Int32.toInt_sub, i32_to hx, i32_to hy]; exact bm32 _)
theorem z_e_mul {x y : Int} (hx : z_i32 x) (hy : z_i32 y) : Int32.ofInt x * Int32.ofInt y = Int32.ofInt (w32 (x * y)) := i32_eq (by rw [Int32.toInt_mul, i32_to hx, i32_to hy]; exact bm32 _)
theorem z_e_neg {x : Int} (hx : z_i32 x) : -Int32.ofInt x = Int32.ofInt (w32 (-x)) := i32_eq (by rw [Int32.toInt_neg, i32_to hx]; exact bm32 _)
theorem z_e_div {x y : Int} (hx : z_i32 x) (hy : z_i32 y) : Int32.ofInt x / Int32.ofInt y = Int32.ofInt (w32 (x.tdiv y)) := i32_eq (by rw [Int32.toInt_div, i32_to hx, i32_to hy]; exact bm32 _)
theorem z_tmod {x y : Int} (hx : z_i32 x) : z_i32 (x.tmod y) := by
  have h1 := Int.natAbs_tmod x y
  have h2 : x.natAbs % y.natAbs ≤ x.natAbs := Nat.mod_le _ _
  have h3 : (x.tmod y).natAbs ≤ x.natAbs := by omega
  unfold z_i32 at hx ⊢
  by_cases h0 : 0 ≤ x
  · have := Int.tmod_nonneg y h0
    omega
  · have h4 : (-x).tmod y = -(x.tmod y) := Int.neg_tmod x y
    have h5 := Int.tmod_nonneg (a := -x) y (by omega)
    omega
theorem z_ltmod {x y : Int} (hx : z_i64 x) : z_i64 (x.tmod y) := by
  have h1 := Int.natAbs_tmod x y
  have h2 : x.natAbs % y.natAbs ≤ x.natAbs := Nat.mod_le _ _
  have h3 : (x.tmod y).natAbs ≤ x.natAbs := by omega
  unfold z_i64 at hx ⊢
  by_cases h0 : 0 ≤ x
  · have := Int.tmod_nonneg y h0
    omega
  · have h4 : (-x).tmod y = -(x.tmod y) := Int.neg_tmod x y
    have h5 := Int.tmod_nonneg (a := -x) y (by omega)
    omega
theorem z_e_rem {x y : Int} (hx : z_i32 x) (hy : z_i32 y) : Int32.ofInt x - Int32.ofInt x / Int32.ofInt y * Int32.ofInt y = Int32.ofInt (x.tmod y) := i32_eq (by
  have h := Int.tmod_add_mul_tdiv x y
  simp only [Int32.toInt_sub, Int32.toInt_mul, Int32.toInt_div, i32_to hx, i32_to hy]
  simp only [Int.sub_bmod_bmod, Int.bmod_mul_bmod]
  rw [bm32, show x - x.tdiv y * y = x.tmod y by rw [Int.mul_comm]; omega]
  exact w32_id (z_tmod hx))
theorem z_e_ladd {x y : Int} (hx : z_i64 x) (hy : z_i64 y) : Int64.ofInt x + Int64.ofInt y = Int64.ofInt (w64 (x + y)) := i64_eq (by rw [Int64.toInt_add, i64_to hx, i64_to hy]; exact bm64 _)
theorem z_e_lsub {x y : Int} (hx : z_i64 x) (hy : z_i64 y) : Int64.ofInt x - Int64.ofInt y = Int64.ofInt (w64 (x - y)) := i64_eq (by rw [Int64.toInt_sub, i64_to hx, i64_to hy]; exact bm64 _)
theorem z_e_lmul {x y : Int} (hx : z_i64 x) (hy : z_i64 y) : Int64.ofInt x * Int64.ofInt y = Int64.ofInt (w64 (x * y)) := i64_eq (by rw [Int64.toInt_mul, i64_to hx, i64_to hy]; exact bm64 _)
theorem z_e_ldiv {x y : Int} (hx : z_i64 x) (hy : z_i64 y) : Int64.ofInt x / Int64.ofInt y = Int64.ofInt (w64 (x.tdiv y)) := i64_eq (by rw [Int64.toInt_div, i64_to hx, i64_to hy]; exact bm64 _)
theorem z_e_lrem {x y : Int} (hx : z_i64 x) (hy : z_i64 y) : Int64.ofInt x - Int64.ofInt x / Int64.ofInt y * Int64.ofInt y = Int64.ofInt (x.tmod y) := i64_eq (by
  have h := Int.tmod_add_mul_tdiv x y
  simp only [Int64.toInt_sub, Int64.toInt_mul, Int64.toInt_div, i64_to hx, i64_to hy]
  simp only [Int.sub_bmod_bmod, Int.bmod_mul_bmod]
  rw [bm64, show x - x.tdiv y * y = x.tmod y by rw [Int.mul_comm]; omega]
  exact w64_id (z_ltmod hx))
theorem z_e_cmp {x y : Int} (hx : z_i64 x) (hy : z_i64 y) : lg_cmp (Int64.ofInt x) (Int64.ofInt y) = Int32.ofInt (zcmp x y) := by
  unfold lg_cmp zcmp
  have h1 : (Int64.ofInt x > Int64.ofInt y) ↔ x > y := z_llt hy hx
  have h2 := z_leq hx hy
  by_cases a : x > y
  · rw [if_pos (h1.mpr a), if_pos a]; rfl
  · rw [if_neg (fun h => a (h1.mp h)), if_neg a]
    by_cases b : x = y
    · rw [if_pos (h2.mpr b), if_pos b]; rfl
    · rw [if_neg (fun h => b (h2.mp h)), if_neg b]; rfl
theorem zcmp_ok (x y : Int) : z_i32 (zcmp x y) := by unfold zcmp z_i32; split <;> (try split) <;> omega
theorem z_e_i2l {x : Int} (hx : z_i32 x) : (Int32.ofInt x).toInt64 = Int64.ofInt x := i64_eq (by rw [Int32.toInt_toInt64, i32_to hx])
theorem z_e_l2i {x : Int} (hx : z_i64 x) : (Int64.ofInt x).toInt32 = Int32.ofInt (w32 x) := i32_eq (by rw [Int64.toInt_toInt32, i64_to hx]; exact bm32 _)
theorem z_e_i2b {x : Int} (hx : z_i32 x) : (Int32.ofInt x).toInt8.toInt32 = Int32.ofInt (w8 x) := i32_eq (by
  rw [lg_i2b_toInt, i32_to hx]
  unfold w8
  rw [Int.bmod_def]
  split <;> omega)
theorem w8_ok (x : Int) : z_i32 (w8 x) := by unfold w8 z_i32; omega
theorem z_e_bi {n : Int} (h : -128 ≤ n ∧ n ≤ 127) : (Int8.ofInt n).toInt32 = Int32.ofInt n := i32_eq (by rw [Int8.toInt_toInt32]; exact Int8.toInt_ofInt_of_le (by omega) (by omega))
theorem z_e_si {n : Int} (h : -32768 ≤ n ∧ n ≤ 32767) : (Int16.ofInt n).toInt32 = Int32.ofInt n := i32_eq (by rw [Int16.toInt_toInt32]; exact Int16.toInt_ofInt_of_le (by omega) (by omega))
theorem z_oks1 {v : zV} {st : List zV} (hv : z_ok v) (h : ∀ u ∈ st, z_ok u) : ∀ u ∈ v :: st, z_ok u := fun u hu => (List.mem_cons.mp hu).elim (fun e => e ▸ hv) (h u)
section ZR
variable {mt : zMt} {d kc ks : Nat} {sc : List Int} {Q : zQ} {pc : Nat} {ls : zLs} {st : List zV} {sz : Nat} {S : zSh} {M : zMem} {x y : Int}
theorem x_iadd (pc' : Nat) (hp : pc + 1 = pc') (hdg : decode mt.2.1 pc = .ok (.iadd, 1)) (k : zW mt d kc ks sc Q pc' ls (zi (w32 (x + y)) :: st) sz S M) : zW mt d kc ks sc Q pc ls (zi y :: zi x :: st) sz S M := by
  subst hp
  intro E D dA p l e R s m args below meth c QQ hE H locs cells slots lr hR hS hc hs ho hL
  have hy : z_i32 y := ho (zi y) (by simp)
  have hx : z_i32 x := ho (zi x) (by simp)
  have h2 := k E D dA p l e R s m args below meth c QQ hE H locs cells slots lr hR hS hc hs (z_oks1 (v := zi (w32 (x + y))) (w32_ok _) (fun u hu => ho u (by simp [hu]))) hL
  refine lv_iadd hE.1 hE.2.1 hdg ?_
  rw [z_e_add hx hy]
  exact h2
theorem x_isub (pc' : Nat) (hp : pc + 1 = pc') (hdg : decode mt.2.1 pc = .ok (.isub, 1)) (k : zW mt d kc ks sc Q pc' ls (zi (w32 (x - y)) :: st) sz S M) : zW mt d kc ks sc Q pc ls (zi y :: zi x :: st) sz S M := by
  subst hp
  intro E D dA p l e R s m args below meth c QQ hE H locs cells slots lr hR hS hc hs ho hL
  have hy : z_i32 y := ho (zi y) (by simp)
  have hx : z_i32 x := ho (zi x) (by simp)
  have h2 := k E D dA p l e R s m args below meth c QQ hE H locs cells slots lr hR hS hc hs (z_oks1 (v := zi (w32 (x - y))) (w32_ok _) (fun u hu => ho u (by simp [hu]))) hL
  refine lv_isub hE.1 hE.2.1 hdg ?_
  rw [z_e_sub hx hy]
  exact h2
theorem x_imul (pc' : Nat) (hp : pc + 1 = pc') (hdg : decode mt.2.1 pc = .ok (.imul, 1)) (k : zW mt d kc ks sc Q pc' ls (zi (w32 (x * y)) :: st) sz S M) : zW mt d kc ks sc Q pc ls (zi y :: zi x :: st) sz S M := by
  subst hp
  intro E D dA p l e R s m args below meth c QQ hE H locs cells slots lr hR hS hc hs ho hL
  have hy : z_i32 y := ho (zi y) (by simp)
  have hx : z_i32 x := ho (zi x) (by simp)
  have h2 := k E D dA p l e R s m args below meth c QQ hE H locs cells slots lr hR hS hc hs (z_oks1 (v := zi (w32 (x * y))) (w32_ok _) (fun u hu => ho u (by simp [hu]))) hL
  refine lv_imul hE.1 hE.2.1 hdg ?_
  rw [z_e_mul hx hy]
  exact h2
theorem x_idiv (pc' : Nat) (hp : pc + 1 = pc') (hdg : decode mt.2.1 pc = .ok (.idiv, 1)) (h0 : y ≠ 0) (k : zW mt d kc ks sc Q pc' ls (zi (w32 (x.tdiv y)) :: st) sz S M) : zW mt d kc ks sc Q pc ls (zi y :: zi x :: st) sz S M := by
  subst hp
  intro E D dA p l e R s m args below meth c QQ hE H locs cells slots lr hR hS hc hs ho hL
  have hy : z_i32 y := ho (zi y) (by simp)
  have hx : z_i32 x := ho (zi x) (by simp)
  have h2 := k E D dA p l e R s m args below meth c QQ hE H locs cells slots lr hR hS hc hs (z_oks1 (v := zi (w32 (x.tdiv y))) (w32_ok _) (fun u hu => ho u (by simp [hu]))) hL
  refine lv_idiv hE.1 hE.2.1 hdg (fun e => h0 ((z_eq hy z_i32_0).mp e)) ?_
  rw [z_e_div hx hy]
  exact h2
theorem x_irem (pc' : Nat) (hp : pc + 1 = pc') (hdg : decode mt.2.1 pc = .ok (.irem, 1)) (h0 : y ≠ 0) (k : zW mt d kc ks sc Q pc' ls (zi (x.tmod y) :: st) sz S M) : zW mt d kc ks sc Q pc ls (zi y :: zi x :: st) sz S M := by
  subst hp
  intro E D dA p l e R s m args below meth c QQ hE H locs cells slots lr hR hS hc hs ho hL
  have hy : z_i32 y := ho (zi y) (by simp)
  have hx : z_i32 x := ho (zi x) (by simp)
  have h2 := k E D dA p l e R s m args below meth c QQ hE H locs cells slots lr hR hS hc hs (z_oks1 (v := zi (x.tmod y)) (z_tmod hx) (fun u hu => ho u (by simp [hu]))) hL
  refine lv_irem hE.1 hE.2.1 hdg (fun e => h0 ((z_eq hy z_i32_0).mp e)) ?_
  rw [z_e_rem hx hy]
  exact h2
theorem x_iand (pc' : Nat) (hp : pc + 1 = pc') (hdg : decode mt.2.1 pc = .ok (.iand, 1)) (k : zW mt d kc ks sc Q pc' ls (zi (zand x y) :: st) sz S M) : zW mt d kc ks sc Q pc ls (zi y :: zi x :: st) sz S M := by
  subst hp
  intro E D dA p l e R s m args below meth c QQ hE H locs cells slots lr hR hS hc hs ho hL
  have hy : z_i32 y := ho (zi y) (by simp)
  have hx : z_i32 x := ho (zi x) (by simp)
  have h2 := k E D dA p l e R s m args below meth c QQ hE H locs cells slots lr hR hS hc hs (z_oks1 (v := zi (zand x y)) (i32_in _) (fun u hu => ho u (by simp [hu]))) hL
  refine lv_iand hE.1 hE.2.1 hdg ?_
  rw [z_ofI (Int32.ofInt x &&& Int32.ofInt y)]
  exact h2
theorem x_ior (pc' : Nat) (hp : pc + 1 = pc') (hdg : decode mt.2.1 pc = .ok (.ior, 1)) (k : zW mt d kc ks sc Q pc' ls (zi (zor x y) :: st) sz S M) : zW mt d kc ks sc Q pc ls (zi y :: zi x :: st) sz S M := by
  subst hp
  intro E D dA p l e R s m args below meth c QQ hE H locs cells slots lr hR hS hc hs ho hL
  have hy : z_i32 y := ho (zi y) (by simp)
  have hx : z_i32 x := ho (zi x) (by simp)
  have h2 := k E D dA p l e R s m args below meth c QQ hE H locs cells slots lr hR hS hc hs (z_oks1 (v := zi (zor x y)) (i32_in _) (fun u hu => ho u (by simp [hu]))) hL
  refine lv_ior hE.1 hE.2.1 hdg ?_
  rw [z_ofI (Int32.ofInt x ||| Int32.ofInt y)]
  exact h2
theorem x_ixor (pc' : Nat) (hp : pc + 1 = pc') (hdg : decode mt.2.1 pc = .ok (.ixor, 1)) (k : zW mt d kc ks sc Q pc' ls (zi (zxor x y) :: st) sz S M) : zW mt d kc ks sc Q pc ls (zi y :: zi x :: st) sz S M := by
  subst hp
  intro E D dA p l e R s m args below meth c QQ hE H locs cells slots lr hR hS hc hs ho hL
  have hy : z_i32 y := ho (zi y) (by simp)
  have hx : z_i32 x := ho (zi x) (by simp)
  have h2 := k E D dA p l e R s m args below meth c QQ hE H locs cells slots lr hR hS hc hs (z_oks1 (v := zi (zxor x y)) (i32_in _) (fun u hu => ho u (by simp [hu]))) hL
  refine lv_ixor hE.1 hE.2.1 hdg ?_
  rw [z_ofI (Int32.ofInt x ^^^ Int32.ofInt y)]
  exact h2
theorem x_ishl (pc' : Nat) (hp : pc + 1 = pc') (hdg : decode mt.2.1 pc = .ok (.ishl, 1)) (k : zW mt d kc ks sc Q pc' ls (zi (zshl x y) :: st) sz S M) : zW mt d kc ks sc Q pc ls (zi y :: zi x :: st) sz S M := by
  subst hp
  intro E D dA p l e R s m args below meth c QQ hE H locs cells slots lr hR hS hc hs ho hL
  have hy : z_i32 y := ho (zi y) (by simp)
  have hx : z_i32 x := ho (zi x) (by simp)
  have h2 := k E D dA p l e R s m args below meth c QQ hE H locs cells slots lr hR hS hc hs (z_oks1 (v := zi (zshl x y)) (i32_in _) (fun u hu => ho u (by simp [hu]))) hL
  refine lv_ishl hE.1 hE.2.1 hdg ?_
  rw [z_ofI (Int32.ofInt x <<< (Int32.ofInt y &&& 31))]
  exact h2
theorem x_ishr (pc' : Nat) (hp : pc + 1 = pc') (hdg : decode mt.2.1 pc = .ok (.ishr, 1)) (k : zW mt d kc ks sc Q pc' ls (zi (zshr x y) :: st) sz S M) : zW mt d kc ks sc Q pc ls (zi y :: zi x :: st) sz S M := by
  subst hp
  intro E D dA p l e R s m args below meth c QQ hE H locs cells slots lr hR hS hc hs ho hL
  have hy : z_i32 y := ho (zi y) (by simp)
  have hx : z_i32 x := ho (zi x) (by simp)
  have h2 := k E D dA p l e R s m args below meth c QQ hE H locs cells slots lr hR hS hc hs (z_oks1 (v := zi (zshr x y)) (i32_in _) (fun u hu => ho u (by simp [hu]))) hL
  refine lv_ishr hE.1 hE.2.1 hdg ?_
  rw [z_ofI (Int32.ofInt x >>> (Int32.ofInt y &&& 31))]
  exact h2
theorem x_iushr (pc' : Nat) (hp : pc + 1 = pc') (hdg : decode mt.2.1 pc = .ok (.iushr, 1)) (k : zW mt d kc ks sc Q pc' ls (zi (zushr x y) :: st) sz S M) : zW mt d kc ks sc Q pc ls (zi y :: zi x :: st) sz S M := by
  subst hp
  intro E D dA p l e R s m args below meth c QQ hE H locs cells slots lr hR hS hc hs ho hL
  have h2 := k E D dA p l e R s m args below meth c QQ hE H locs cells slots lr hR hS hc hs (z_oks1 (v := zi (zushr x y)) (i32_in _) (fun u hu => ho u (by simp [hu]))) hL
  refine lv_iushr hE.1 hE.2.1 hdg rfl ?_
  rw [z_ofI ((Int32.ofInt x).toUInt32 >>> ((Int32.ofInt y).toUInt32 &&& Int32.toUInt32 31)).toInt32]
  exact h2
theorem x_ladd (pc' : Nat) (hp : pc + 1 = pc') (hdg : decode mt.2.1 pc = .ok (.ladd, 1)) (k : zW mt d kc ks sc Q pc' ls (zl (w64 (x + y)) :: st) sz S M) : zW mt d kc ks sc Q pc ls (zl y :: zl x :: st) sz S M := by
  subst hp
  intro E D dA p l e R s m args below meth c QQ hE H locs cells slots lr hR hS hc hs ho hL
  have hy : z_i64 y := ho (zl y) (by simp)
  have hx : z_i64 x := ho (zl x) (by simp)
  have h2 := k E D dA p l e R s m args below meth c QQ hE H locs cells slots lr hR hS hc hs (z_oks1 (v := zl (w64 (x + y))) (w64_ok _) (fun u hu => ho u (by simp [hu]))) hL
  refine lv_ladd hE.1 hE.2.1 hdg ?_
  rw [z_e_ladd hx hy]
  exact h2
theorem x_lsub (pc' : Nat) (hp : pc + 1 = pc') (hdg : decode mt.2.1 pc = .ok (.lsub, 1)) (k : zW mt d kc ks sc Q pc' ls (zl (w64 (x - y)) :: st) sz S M) : zW mt d kc ks sc Q pc ls (zl y :: zl x :: st) sz S M := by
  subst hp
  intro E D dA p l e R s m args below meth c QQ hE H locs cells slots lr hR hS hc hs ho hL
  have hy : z_i64 y := ho (zl y) (by simp)
  have hx : z_i64 x := ho (zl x) (by simp)
  have h2 := k E D dA p l e R s m args below meth c QQ hE H locs cells slots lr hR hS hc hs (z_oks1 (v := zl (w64 (x - y))) (w64_ok _) (fun u hu => ho u (by simp [hu]))) hL
  refine lv_lsub hE.1 hE.2.1 hdg ?_
  rw [z_e_lsub hx hy]
  exact h2
theorem x_lmul (pc' : Nat) (hp : pc + 1 = pc') (hdg : decode mt.2.1 pc = .ok (.lmul, 1)) (k : zW mt d kc ks sc Q pc' ls (zl (w64 (x * y)) :: st) sz S M) : zW mt d kc ks sc Q pc ls (zl y :: zl x :: st) sz S M := by
  subst hp
  intro E D dA p l e R s m args below meth c QQ hE H locs cells slots lr hR hS hc hs ho hL
  have hy : z_i64 y := ho (zl y) (by simp)
  have hx : z_i64 x := ho (zl x) (by simp)
  have h2 := k E D dA p l e R s m args below meth c QQ hE H locs cells slots lr hR hS hc hs (z_oks1 (v := zl (w64 (x * y))) (w64_ok _) (fun u hu => ho u (by simp [hu]))) hL
  refine lv_lmul hE.1 hE.2.1 hdg ?_
  rw [z_e_lmul hx hy]
  exact h2
theorem x_ldiv (pc' : Nat) (hp : pc + 1 = pc') (hdg : decode mt.2.1 pc = .ok (.ldiv, 1)) (h0 : y ≠ 0) (k : zW mt d kc ks sc Q pc' ls (zl (w64 (x.tdiv y)) :: st) sz S M) : zW mt d kc ks sc Q pc ls (zl y :: zl x :: st) sz S M := by
  subst hp
  intro E D dA p l e R s m args below meth c QQ hE H locs cells slots lr hR hS hc hs ho hL
  have hy : z_i64 y := ho (zl y) (by simp)
  have hx : z_i64 x := ho (zl x) (by simp)
  have h2 := k E D dA p l e R s m args below meth c QQ hE H locs cells slots lr hR hS hc hs (z_oks1 (v := zl (w64 (x.tdiv y))) (w64_ok _) (fun u hu => ho u (by simp [hu]))) hL
  refine lv_ldiv hE.1 hE.2.1 hdg (fun e => h0 ((z_leq hy z_i64_0).mp e)) ?_
  rw [z_e_ldiv hx hy]
  exact h2
theorem x_lrem (pc' : Nat) (hp : pc + 1 = pc') (hdg : decode mt.2.1 pc = .ok (.lrem, 1)) (h0 : y ≠ 0) (k : zW mt d kc ks sc Q pc' ls (zl (x.tmod y) :: st) sz S M) : zW mt d kc ks sc Q pc ls (zl y :: zl x :: st) sz S M := by
  subst hp
  intro E D dA p l e R s m args below meth c QQ hE H locs cells slots lr hR hS hc hs ho hL
  have hy : z_i64 y := ho (zl y) (by simp)
  have hx : z_i64 x := ho (zl x) (by simp)
  have h2 := k E D dA p l e R s m args below meth c QQ hE H locs cells slots lr hR hS hc hs (z_oks1 (v := zl (x.tmod y)) (z_ltmod hx) (fun u hu => ho u (by simp [hu]))) hL
  refine lv_lrem hE.1 hE.2.1 hdg (fun e => h0 ((z_leq hy z_i64_0).mp e)) ?_
  rw [z_e_lrem hx hy]
  exact h2
theorem x_lcmp (pc' : Nat) (hp : pc + 1 = pc') (hdg : decode mt.2.1 pc = .ok (.lcmp, 1)) (k : zW mt d kc ks sc Q pc' ls (zi (zcmp x y) :: st) sz S M) : zW mt d kc ks sc Q pc ls (zl y :: zl x :: st) sz S M := by
  subst hp
  intro E D dA p l e R s m args below meth c QQ hE H locs cells slots lr hR hS hc hs ho hL
  have hy : z_i64 y := ho (zl y) (by simp)
  have hx : z_i64 x := ho (zl x) (by simp)
  have h2 := k E D dA p l e R s m args below meth c QQ hE H locs cells slots lr hR hS hc hs (z_oks1 (v := zi (zcmp x y)) (zcmp_ok _ _) (fun u hu => ho u (by simp [hu]))) hL
  refine W.lcmp hE.1 hE.2.1 hdg ?_
  rw [z_e_cmp hx hy]
  exact h2
theorem x_ineg (pc' : Nat) (hp : pc + 1 = pc') (hdg : decode mt.2.1 pc = .ok (.ineg, 1)) (k : zW mt d kc ks sc Q pc' ls (zi (w32 (-x)) :: st) sz S M) : zW mt d kc ks sc Q pc ls (zi x :: st) sz S M := by
  subst hp
  intro E D dA p l e R s m args below meth c QQ hE H locs cells slots lr hR hS hc hs ho hL
  have hx : z_i32 x := ho (zi x) (by simp)
  have h2 := k E D dA p l e R s m args below meth c QQ hE H locs cells slots lr hR hS hc hs (z_oks1 (v := zi (w32 (-x))) (w32_ok _) (fun u hu => ho u (by simp [hu]))) hL
  refine lv_ineg hE.1 hE.2.1 hdg ?_
  rw [z_e_neg hx]
  exact h2
theorem x_i2l (pc' : Nat) (hp : pc + 1 = pc') (hdg : decode mt.2.1 pc = .ok (.i2l, 1)) (k : zW mt d kc ks sc Q pc' ls (zl x :: st) sz S M) : zW mt d kc ks sc Q pc ls (zi x :: st) sz S M := by
  subst hp
  intro E D dA p l e R s m args below meth c QQ hE H locs cells slots lr hR hS hc hs ho hL
  have hx : z_i32 x := ho (zi x) (by simp)
  have h2 := k E D dA p l e R s m args below meth c QQ hE H locs cells slots lr hR hS hc hs (z_oks1 (v := zl x) (by unfold z_i32 at hx; show z_i64 x; unfold z_i64; omega) (fun u hu => ho u (by simp [hu]))) hL
  refine lv_i2l hE.1 hE.2.1 hdg (z_e_i2l hx) ?_
  exact h2
theorem x_l2i (pc' : Nat) (hp : pc + 1 = pc') (hdg : decode mt.2.1 pc = .ok (.l2i, 1)) (k : zW mt d kc ks sc Q pc' ls (zi (w32 x) :: st) sz S M) : zW mt d kc ks sc Q pc ls (zl x :: st) sz S M := by
  subst hp
  intro E D dA p l e R s m args below meth c QQ hE H locs cells slots lr hR hS hc hs ho hL
  have hx : z_i64 x := ho (zl x) (by simp)
  have h2 := k E D dA p l e R s m args below meth c QQ hE H locs cells slots lr hR hS hc hs (z_oks1 (v := zi (w32 x)) (w32_ok _) (fun u hu => ho u (by simp [hu]))) hL
  refine lv_l2i hE.1 hE.2.1 hdg (z_e_l2i hx) ?_
  exact h2
theorem x_i2b (pc' : Nat) (hp : pc + 1 = pc') (hdg : decode mt.2.1 pc = .ok (.i2b, 1)) (k : zW mt d kc ks sc Q pc' ls (zi (w8 x) :: st) sz S M) : zW mt d kc ks sc Q pc ls (zi x :: st) sz S M := by
  subst hp
  intro E D dA p l e R s m args below meth c QQ hE H locs cells slots lr hR hS hc hs ho hL
  have hx : z_i32 x := ho (zi x) (by simp)
  have h2 := k E D dA p l e R s m args below meth c QQ hE H locs cells slots lr hR hS hc hs (z_oks1 (v := zi (w8 x)) (w8_ok _) (fun u hu => ho u (by simp [hu]))) hL
  refine lv_i2b hE.1 hE.2.1 hdg (z_e_i2b hx) ?_
  exact h2
theorem x_iconst (pc' : Nat) (hp : pc + 1 = pc') {n : Int} (hdg : decode mt.2.1 pc = .ok (.iconst n, 1)) (hn : (-2147483648 : Int) ≤ n ∧ n ≤ 2147483647) (k : zW mt d kc ks sc Q pc' ls (zi n :: st) sz S M) : zW mt d kc ks sc Q pc ls (st) sz S M := by
  subst hp
  intro E D dA p l e R s m args below meth c QQ hE H locs cells slots lr hR hS hc hs ho hL
  exact lv_iconst hE.1 hE.2.1 hdg rfl (k E D dA p l e R s m args below meth c QQ hE H locs cells slots lr hR hS hc hs (z_oks1 (v := zi n) hn ho) hL)
theorem x_bipush (pc' : Nat) (hp : pc + 2 = pc') {n : Int} (hdg : decode mt.2.1 pc = .ok (.bipush n, 2)) (hn : (-128 : Int) ≤ n ∧ n ≤ 127) (k : zW mt d kc ks sc Q pc' ls (zi n :: st) sz S M) : zW mt d kc ks sc Q pc ls (st) sz S M := by
  subst hp
  intro E D dA p l e R s m args below meth c QQ hE H locs cells slots lr hR hS hc hs ho hL
  exact lv_bipush hE.1 hE.2.1 hdg (z_e_bi hn) (k E D dA p l e R s m args below meth c QQ hE H locs cells slots lr hR hS hc hs (z_oks1 (v := zi n) (by show z_i32 n; unfold z_i32; omega) ho) hL)
theorem x_sipush (pc' : Nat) (hp : pc + 3 = pc') {n : Int} (hdg : decode mt.2.1 pc = .ok (.sipush n, 3)) (hn : (-32768 : Int) ≤ n ∧ n ≤ 32767) (k : zW mt d kc ks sc Q pc' ls (zi n :: st) sz S M) : zW mt d kc ks sc Q pc ls (st) sz S M := by
  subst hp
  intro E D dA p l e R s m args below meth c QQ hE H locs cells slots lr hR hS hc hs ho hL
  exact lv_sipush hE.1 hE.2.1 hdg (z_e_si hn) (k E D dA p l e R s m args below meth c QQ hE H locs cells slots lr hR hS hc hs (z_oks1 (v := zi n) (by show z_i32 n; unfold z_i32; omega) ho) hL)
theorem x_lconst (pc' : Nat) (hp : pc + 1 = pc') {n : Fin 2} (hdg : decode mt.2.1 pc = .ok (.lconst n, 1)) (hn : ((n : Nat) : Int) = x) (k : zW mt d kc ks sc Q pc' ls (zl x :: st) sz S M) : zW mt d kc ks sc Q pc ls (st) sz S M := by
  subst hp
  intro E D dA p l e R s m args below meth c QQ hE H locs cells slots lr hR hS hc hs ho hL
  subst hn
  refine lv_lconst hE.1 hE.2.1 hdg (v := Int64.ofInt ((n : Nat) : Int)) rfl ?_
  exact k E D dA p l e R s m args below meth c QQ hE H locs cells slots lr hR hS hc hs (z_oks1 (v := zl ((n : Nat) : Int)) (by show z_i64 _; unfold z_i64; have := n.isLt; omega) ho) hL
theorem x_ldc (pc' : Nat) (hp : pc + 2 = pc') {index : Nat} {v : Int32} (hw : Cond.constant mt.1.cls index v ∈ z_tb) (hv : v.toInt = x) (hdg : decode mt.2.1 pc = .ok (.ldc index, 2)) (k : zW mt d kc ks sc Q pc' ls (zi x :: st) sz S M) : zW mt d kc ks sc Q pc ls (st) sz S M := by
  subst hp
  intro E D dA p l e R s m args below meth c QQ hE H locs cells slots lr hR hS hc hs ho hL
  subst hv
  refine lv_ldc hE.1 hE.2.1 hE.2.2.2.1 (hE.2.2.2.2.1 _ hw) hdg ?_
  have h2 := k E D dA p l e R s m args below meth c QQ hE H locs cells slots lr hR hS hc hs (z_oks1 (v := zi v.toInt) (i32_in v) ho) hL
  rw [z_ofI v]
  exact h2
theorem x_ldc_w (pc' : Nat) (hp : pc + 3 = pc') {index : Nat} {v : Int32} (hw : Cond.constant mt.1.cls index v ∈ z_tb) (hv : v.toInt = x) (hdg : decode mt.2.1 pc = .ok (.ldc_w index, 3)) (k : zW mt d kc ks sc Q pc' ls (zi x :: st) sz S M) : zW mt d kc ks sc Q pc ls (st) sz S M := by
  subst hp
  intro E D dA p l e R s m args below meth c QQ hE H locs cells slots lr hR hS hc hs ho hL
  subst hv
  refine lv_ldcw hE.1 hE.2.1 hE.2.2.2.1 (hE.2.2.2.2.1 _ hw) hdg ?_
  have h2 := k E D dA p l e R s m args below meth c QQ hE H locs cells slots lr hR hS hc hs (z_oks1 (v := zi v.toInt) (i32_in v) ho) hL
  rw [z_ofI v]
  exact h2
theorem x_ldc2 (pc' : Nat) (hp : pc + 3 = pc') {index : Nat} {v : Int64} (hw : Cond.constantLong mt.1.cls index v ∈ z_tb) (hv : v.toInt = x) (hdg : decode mt.2.1 pc = .ok (.ldc2_w index, 3)) (k : zW mt d kc ks sc Q pc' ls (zl x :: st) sz S M) : zW mt d kc ks sc Q pc ls (st) sz S M := by
  subst hp
  intro E D dA p l e R s m args below meth c QQ hE H locs cells slots lr hR hS hc hs ho hL
  subst hv
  refine lv_ldc2 hE.1 hE.2.1 hE.2.2.2.1 (hE.2.2.2.2.1 _ hw) hdg ?_
  have h2 := k E D dA p l e R s m args below meth c QQ hE H locs cells slots lr hR hS hc hs (z_oks1 (v := zl v.toInt) (i64_in v) ho) hL
  rw [z_ofL v]
  exact h2
theorem x_iload_n (pc' : Nat) (hp : pc + 1 = pc') {j : Fin 4} (hdg : decode mt.2.1 pc = .ok (.iload_n j, 1)) (i : Nat) (hi : (j : Nat) = i) (hl : ls[i]? = some (some (zi x))) (k : zW mt d kc ks sc Q pc' ls (zi x :: st) sz S M) : zW mt d kc ks sc Q pc ls (st) sz S M := by
  subst hp
  intro E D dA p l e R s m args below meth c QQ hE H locs cells slots lr hR hS hc hs ho hL
  exact lv_iload_n hE.1 hE.2.1 hdg hi (z_L_get hL hl) (k E D dA p l e R s m args below meth c QQ hE H locs cells slots lr hR hS hc hs (z_oks1 (z_L_ok hL hl) ho) hL)
theorem x_iload (pc' : Nat) (hp : pc + 2 = pc') {i : Nat} (hdg : decode mt.2.1 pc = .ok (.iload i, 2)) (hl : ls[i]? = some (some (zi x))) (k : zW mt d kc ks sc Q pc' ls (zi x :: st) sz S M) : zW mt d kc ks sc Q pc ls (st) sz S M := by
  subst hp
  intro E D dA p l e R s m args below meth c QQ hE H locs cells slots lr hR hS hc hs ho hL
  exact lv_iload hE.1 hE.2.1 hdg (z_L_get hL hl) (k E D dA p l e R s m args below meth c QQ hE H locs cells slots lr hR hS hc hs (z_oks1 (z_L_ok hL hl) ho) hL)
theorem x_lload_n (pc' : Nat) (hp : pc + 1 = pc') {j : Fin 4} (hdg : decode mt.2.1 pc = .ok (.lload_n j, 1)) (i : Nat) (hi : (j : Nat) = i) (hl : ls[i]? = some (some (zl x))) (k : zW mt d kc ks sc Q pc' ls (zl x :: st) sz S M) : zW mt d kc ks sc Q pc ls (st) sz S M := by
  subst hp
  intro E D dA p l e R s m args below meth c QQ hE H locs cells slots lr hR hS hc hs ho hL
  exact lv_lload_n hE.1 hE.2.1 hdg hi (z_L_get hL hl) (k E D dA p l e R s m args below meth c QQ hE H locs cells slots lr hR hS hc hs (z_oks1 (z_L_ok hL hl) ho) hL)
theorem x_lload (pc' : Nat) (hp : pc + 2 = pc') {i : Nat} (hdg : decode mt.2.1 pc = .ok (.lload i, 2)) (hl : ls[i]? = some (some (zl x))) (k : zW mt d kc ks sc Q pc' ls (zl x :: st) sz S M) : zW mt d kc ks sc Q pc ls (st) sz S M := by
  subst hp
  intro E D dA p l e R s m args below meth c QQ hE H locs cells slots lr hR hS hc hs ho hL
  exact lv_lload hE.1 hE.2.1 hdg (z_L_get hL hl) (k E D dA p l e R s m args below meth c QQ hE H locs cells slots lr hR hS hc hs (z_oks1 (z_L_ok hL hl) ho) hL)
theorem z_rfc (E : zAd) (x : Int) : z_rf E x = .null ∨ ∃ a, z_rf E x = .ref a := by
  unfold z_rf
  split
  · exact Or.inr ⟨_, rfl⟩
  · split
    · exact Or.inl rfl
    · split <;> exact Or.inr ⟨_, rfl⟩
theorem x_aload_n (pc' : Nat) (hp : pc + 1 = pc') {j : Fin 4} (hdg : decode mt.2.1 pc = .ok (.aload_n j, 1)) (i : Nat) (hi : (j : Nat) = i) (hl : ls[i]? = some (some (zr x))) (k : zW mt d kc ks sc Q pc' ls (zr x :: st) sz S M) : zW mt d kc ks sc Q pc ls (st) sz S M := by
  subst hp
  intro E D dA p l e R s m args below meth c QQ hE H locs cells slots lr hR hS hc hs ho hL
  have hg := z_L_get hL hl
  have h2 := k E D dA p l e R s m args below meth c QQ hE H locs cells slots lr hR hS hc hs (z_oks1 (v := zr x) trivial ho) hL
  simp only [List.map_cons, z_val] at hg h2 ⊢
  rcases z_rfc E x with he | ⟨a, he⟩ <;> rw [he] at hg h2
  · exact lv_aload_nN hE.1 hE.2.1 hdg hi hg h2
  · exact lv_aload_n hE.1 hE.2.1 hdg hi hg h2
theorem x_aload (pc' : Nat) (hp : pc + 2 = pc') {i : Nat} (hdg : decode mt.2.1 pc = .ok (.aload i, 2)) (hl : ls[i]? = some (some (zr x))) (k : zW mt d kc ks sc Q pc' ls (zr x :: st) sz S M) : zW mt d kc ks sc Q pc ls (st) sz S M := by
  subst hp
  intro E D dA p l e R s m args below meth c QQ hE H locs cells slots lr hR hS hc hs ho hL
  have hg := z_L_get hL hl
  have h2 := k E D dA p l e R s m args below meth c QQ hE H locs cells slots lr hR hS hc hs (z_oks1 (v := zr x) trivial ho) hL
  simp only [List.map_cons, z_val] at hg h2 ⊢
  rcases z_rfc E x with he | ⟨a, he⟩ <;> rw [he] at hg h2
  · exact lv_aloadN hE.1 hE.2.1 hdg hg h2
  · exact lv_aload hE.1 hE.2.1 hdg hg h2
theorem x_null (pc' : Nat) (hp : pc + 1 = pc') (hdg : decode mt.2.1 pc = .ok (.aconst_null, 1)) (k : zW mt d kc ks sc Q pc' ls (zr (-1) :: st) sz S M) : zW mt d kc ks sc Q pc ls (st) sz S M := by
  subst hp
  intro E D dA p l e R s m args below meth c QQ hE H locs cells slots lr hR hS hc hs ho hL
  exact lv_null hE.1 hE.2.1 hdg (k E D dA p l e R s m args below meth c QQ hE H locs cells slots lr hR hS hc hs (z_oks1 (v := zr (-1)) trivial ho) hL)
theorem x_istore_n (pc' : Nat) (hp : pc + 1 = pc') {i : Nat} {j : Fin 4} (hdg : decode mt.2.1 pc = .ok (.istore_n j, 1)) (hi : (j : Nat) = i) (ls' : zLs) (hls : z_st1 ls i (zi x) = ls') (hn : i < mt.2.2.1) (k : zW mt d kc ks sc Q pc' ls' st sz S M) : zW mt d kc ks sc Q pc ls (zi x :: st) sz S M := by
  subst hls
  subst hp
  intro E D dA p l e R s m args below meth c QQ hE H locs cells slots lr hR hS hc hs ho hL
  have hx : z_ok (zi x) := ho (zi x) (by simp)
  exact lv_istore_n hE.1 hE.2.1 hdg hi hL.1 hn rfl (fun lr' h' => k E D dA p l e R s m args below meth c QQ hE H locs cells slots lr' hR hS hc hs (fun u hu => ho u (by simp [hu])) (z_L_st1 hL hx h'))
theorem x_istore (pc' : Nat) (hp : pc + 2 = pc') {i : Nat} (hdg : decode mt.2.1 pc = .ok (.istore i, 2)) (ls' : zLs) (hls : z_st1 ls i (zi x) = ls') (hn : i < mt.2.2.1) (k : zW mt d kc ks sc Q pc' ls' st sz S M) : zW mt d kc ks sc Q pc ls (zi x :: st) sz S M := by
  subst hls
  subst hp
  intro E D dA p l e R s m args below meth c QQ hE H locs cells slots lr hR hS hc hs ho hL
  have hx : z_ok (zi x) := ho (zi x) (by simp)
  exact lv_istore hE.1 hE.2.1 hdg  hL.1 hn rfl (fun lr' h' => k E D dA p l e R s m args below meth c QQ hE H locs cells slots lr' hR hS hc hs (fun u hu => ho u (by simp [hu])) (z_L_st1 hL hx h'))
theorem x_lstore_n (pc' : Nat) (hp : pc + 1 = pc') {i : Nat} {j : Fin 4} (hdg : decode mt.2.1 pc = .ok (.lstore_n j, 1)) (hi : (j : Nat) = i) (ls' : zLs) (hls : z_st2 ls i (zl x) = ls') (hn : i + 1 < mt.2.2.1) (k : zW mt d kc ks sc Q pc' ls' st sz S M) : zW mt d kc ks sc Q pc ls (zl x :: st) sz S M := by
  subst hls
  subst hp
  intro E D dA p l e R s m args below meth c QQ hE H locs cells slots lr hR hS hc hs ho hL
  have hx : z_ok (zl x) := ho (zl x) (by simp)
  exact lv_lstore_n hE.1 hE.2.1 hdg hi hL.1 hn rfl (fun lr' h' => k E D dA p l e R s m args below meth c QQ hE H locs cells slots lr' hR hS hc hs (fun u hu => ho u (by simp [hu])) (z_L_st2 hL hx h'))
theorem x_lstore (pc' : Nat) (hp : pc + 2 = pc') {i : Nat} (hdg : decode mt.2.1 pc = .ok (.lstore i, 2)) (ls' : zLs) (hls : z_st2 ls i (zl x) = ls') (hn : i + 1 < mt.2.2.1) (k : zW mt d kc ks sc Q pc' ls' st sz S M) : zW mt d kc ks sc Q pc ls (zl x :: st) sz S M := by
  subst hls
  subst hp
  intro E D dA p l e R s m args below meth c QQ hE H locs cells slots lr hR hS hc hs ho hL
  have hx : z_ok (zl x) := ho (zl x) (by simp)
  exact lv_lstore hE.1 hE.2.1 hdg  hL.1 hn rfl (fun lr' h' => k E D dA p l e R s m args below meth c QQ hE H locs cells slots lr' hR hS hc hs (fun u hu => ho u (by simp [hu])) (z_L_st2 hL hx h'))
theorem x_astore_n (pc' : Nat) (hp : pc + 1 = pc') {i : Nat} {j : Fin 4} (hdg : decode mt.2.1 pc = .ok (.astore_n j, 1)) (hi : (j : Nat) = i) (ls' : zLs) (hls : z_st1 ls i (zr x) = ls') (hn : i < mt.2.2.1) (k : zW mt d kc ks sc Q pc' ls' st sz S M) : zW mt d kc ks sc Q pc ls (zr x :: st) sz S M := by
  subst hls
  subst hp
  intro E D dA p l e R s m args below meth c QQ hE H locs cells slots lr hR hS hc hs ho hL
  have kk : ∀ lr', lv_has lr' mt.2.2.1 ((i, z_val E (zr x)) :: (z_as E 0 ls).filter (fun q => !(q.1 == i) && !(q.1 + 1 == i && q.2.category == 2))) → _ := fun lr' h' => k E D dA p l e R s m args below meth c QQ hE H locs cells slots lr' hR hS hc hs (fun u hu => ho u (by simp [hu])) (z_L_st1 hL (v := zr x) trivial h')
  simp only [List.map_cons, z_val] at kk ⊢
  rcases z_rfc E x with he | ⟨a, he⟩ <;> rw [he] at kk ⊢
  · exact lv_astore_nN hE.1 hE.2.1 hdg hi hL.1 hn rfl kk
  · exact lv_astore_n hE.1 hE.2.1 hdg hi hL.1 hn rfl kk
theorem x_astore (pc' : Nat) (hp : pc + 2 = pc') {i : Nat} (hdg : decode mt.2.1 pc = .ok (.astore i, 2)) (ls' : zLs) (hls : z_st1 ls i (zr x) = ls') (hn : i < mt.2.2.1) (k : zW mt d kc ks sc Q pc' ls' st sz S M) : zW mt d kc ks sc Q pc ls (zr x :: st) sz S M := by
  subst hls
  subst hp
  intro E D dA p l e R s m args below meth c QQ hE H locs cells slots lr hR hS hc hs ho hL
  have kk : ∀ lr', lv_has lr' mt.2.2.1 ((i, z_val E (zr x)) :: (z_as E 0 ls).filter (fun q => !(q.1 == i) && !(q.1 + 1 == i && q.2.category == 2))) → _ := fun lr' h' => k E D dA p l e R s m args below meth c QQ hE H locs cells slots lr' hR hS hc hs (fun u hu => ho u (by simp [hu])) (z_L_st1 hL (v := zr x) trivial h')
  simp only [List.map_cons, z_val] at kk ⊢
  rcases z_rfc E x with he | ⟨a, he⟩ <;> rw [he] at kk ⊢
  · exact lv_astoreN hE.1 hE.2.1 hdg  hL.1 hn rfl kk
  · exact lv_astore hE.1 hE.2.1 hdg  hL.1 hn rfl kk
theorem x_iinc (pc' : Nat) (hp : pc + 3 = pc') {i : Nat} {n : Int} (hdg : decode mt.2.1 pc = .ok (.iinc i n, 3)) (hl : ls[i]? = some (some (zi x))) (hi : (-32768 : Int) ≤ n ∧ n ≤ 32767) (ls' : zLs) (hls : z_st1 ls i (zi (w32 (x + n))) = ls') (hn : i < mt.2.2.1) (k : zW mt d kc ks sc Q pc' ls' st sz S M) : zW mt d kc ks sc Q pc ls st sz S M := by
  subst hls
  subst hp
  intro E D dA p l e R s m args below meth c QQ hE H locs cells slots lr hR hS hc hs ho hL
  have hx : z_i32 x := z_L_ok hL hl
  obtain ⟨q, hq⟩ := List.getElem?_of_mem (z_as_mem (E := E) (k := 0).mpr ⟨i, zi x, hl, rfl⟩)
  rw [Nat.zero_add] at hq
  exact lv_iinc hE.1 hE.2.1 hdg hL.1 hq (z_e_add hx (by unfold z_i32; omega)) hn rfl (fun lr' h' => k E D dA p l e R s m args below meth c QQ hE H locs cells slots lr' hR hS hc hs ho (z_L_st1 hL (v := zi (w32 (x + n))) (w32_ok _) h'))
theorem z_c1i (E : zAd) (x : Int) : (z_val E (zi x)).category = 1 := rfl
theorem z_c2l (E : zAd) (x : Int) : (z_val E (zl x)).category = 2 := rfl
theorem z_c1r (E : zAd) (x : Int) : (z_val E (zr x)).category = 1 := by
  show (z_rf E x).category = 1
  rcases z_rfc E x with he | ⟨a, he⟩ <;> rw [he] <;> rfl
theorem x_dupi (pc' : Nat) (hp : pc + 1 = pc') (hdg : decode mt.2.1 pc = .ok (.dup, 1)) (k : zW mt d kc ks sc Q pc' ls (zi x :: zi x :: st) sz S M) : zW mt d kc ks sc Q pc ls (zi x :: st) sz S M := by
  subst hp
  intro E D dA p l e R s m args below meth c QQ hE H locs cells slots lr hR hS hc hs ho hL
  exact lv_dup hE.1 hE.2.1 hdg (z_c1i E x) (k E D dA p l e R s m args below meth c QQ hE H locs cells slots lr hR hS hc hs (z_oks1 (ho (zi x) (by simp)) ho) hL)
theorem x_popi (pc' : Nat) (hp : pc + 1 = pc') (hdg : decode mt.2.1 pc = .ok (.pop, 1)) (k : zW mt d kc ks sc Q pc' ls (st) sz S M) : zW mt d kc ks sc Q pc ls (zi x :: st) sz S M := by
  subst hp
  intro E D dA p l e R s m args below meth c QQ hE H locs cells slots lr hR hS hc hs ho hL
  exact lv_pop hE.1 hE.2.1 hdg (z_c1i E x) (k E D dA p l e R s m args below meth c QQ hE H locs cells slots lr hR hS hc hs (fun u hu => ho u (by simp [hu])) hL)
theorem x_dupr (pc' : Nat) (hp : pc + 1 = pc') (hdg : decode mt.2.1 pc = .ok (.dup, 1)) (k : zW mt d kc ks sc Q pc' ls (zr x :: zr x :: st) sz S M) : zW mt d kc ks sc Q pc ls (zr x :: st) sz S M := by
  subst hp
  intro E D dA p l e R s m args below meth c QQ hE H locs cells slots lr hR hS hc hs ho hL
  exact lv_dup hE.1 hE.2.1 hdg (z_c1r E x) (k E D dA p l e R s m args below meth c QQ hE H locs cells slots lr hR hS hc hs (z_oks1 (ho (zr x) (by simp)) ho) hL)
theorem x_popr (pc' : Nat) (hp : pc + 1 = pc') (hdg : decode mt.2.1 pc = .ok (.pop, 1)) (k : zW mt d kc ks sc Q pc' ls (st) sz S M) : zW mt d kc ks sc Q pc ls (zr x :: st) sz S M := by
  subst hp
  intro E D dA p l e R s m args below meth c QQ hE H locs cells slots lr hR hS hc hs ho hL
  exact lv_pop hE.1 hE.2.1 hdg (z_c1r E x) (k E D dA p l e R s m args below meth c QQ hE H locs cells slots lr hR hS hc hs (fun u hu => ho u (by simp [hu])) hL)
theorem x_dup2ir (pc' : Nat) (hp : pc + 1 = pc') (hdg : decode mt.2.1 pc = .ok (.dup2, 1)) (k : zW mt d kc ks sc Q pc' ls (zi x :: zr y :: zi x :: zr y :: st) sz S M) : zW mt d kc ks sc Q pc ls (zi x :: zr y :: st) sz S M := by
  subst hp
  intro E D dA p l e R s m args below meth c QQ hE H locs cells slots lr hR hS hc hs ho hL
  exact lv_dup2_11 hE.1 hE.2.1 hdg (z_c1i E x) (z_c1r E y) (k E D dA p l e R s m args below meth c QQ hE H locs cells slots lr hR hS hc hs (z_oks1 (ho (zi x) (by simp)) (z_oks1 (v := zr y) trivial ho)) hL)
theorem x_icmp_eq (pc' tgt : Nat) (hp : pc + 3 = pc') {off : Int} (hdg : decode mt.2.1 pc = .ok (.if_icmp .eq off, 3)) (ht : (pc : Int) + off = (tgt : Int)) (kt : (x = y) → zW mt d kc ks sc Q tgt ls st sz S M) (kf : ¬ (x = y) → zW mt d kc ks sc Q pc' ls st sz S M) : zW mt d kc ks sc Q pc ls (zi y :: zi x :: st) sz S M := by
  subst hp
  intro E D dA p l e R s m args below meth c QQ hE H locs cells slots lr hR hS hc hs ho hL
  have hy : z_i32 y := ho (zi y) (by simp)
  have hx : z_i32 x := ho (zi x) (by simp)
  exact lv_icmp_eq hE.1 hE.2.1 hdg ht (fun h => kt ((z_eq hx hy).mp h) E D dA p l e R s m args below meth c QQ hE H locs cells slots lr hR hS hc hs (fun u hu => ho u (by simp [hu])) hL) (fun h => kf (fun g => h ((z_eq hx hy).mpr g)) E D dA p l e R s m args below meth c QQ hE H locs cells slots lr hR hS hc hs (fun u hu => ho u (by simp [hu])) hL)
theorem x_icmp_ne (pc' tgt : Nat) (hp : pc + 3 = pc') {off : Int} (hdg : decode mt.2.1 pc = .ok (.if_icmp .ne off, 3)) (ht : (pc : Int) + off = (tgt : Int)) (kt : (¬ x = y) → zW mt d kc ks sc Q tgt ls st sz S M) (kf : (x = y) → zW mt d kc ks sc Q pc' ls st sz S M) : zW mt d kc ks sc Q pc ls (zi y :: zi x :: st) sz S M := by
  subst hp
  intro E D dA p l e R s m args below meth c QQ hE H locs cells slots lr hR hS hc hs ho hL
  have hy : z_i32 y := ho (zi y) (by simp)
  have hx : z_i32 x := ho (zi x) (by simp)
  exact lv_icmp_ne hE.1 hE.2.1 hdg ht (fun h => kt ((not_congr (z_eq hx hy)).mp h) E D dA p l e R s m args below meth c QQ hE H locs cells slots lr hR hS hc hs (fun u hu => ho u (by simp [hu])) hL) (fun h => kf ((z_eq hx hy).mp h) E D dA p l e R s m args below meth c QQ hE H locs cells slots lr hR hS hc hs (fun u hu => ho u (by simp [hu])) hL)
theorem x_icmp_lt (pc' tgt : Nat) (hp : pc + 3 = pc') {off : Int} (hdg : decode mt.2.1 pc = .ok (.if_icmp .lt off, 3)) (ht : (pc : Int) + off = (tgt : Int)) (kt : (x < y) → zW mt d kc ks sc Q tgt ls st sz S M) (kf : ¬ (x < y) → zW mt d kc ks sc Q pc' ls st sz S M) : zW mt d kc ks sc Q pc ls (zi y :: zi x :: st) sz S M := by
  subst hp
  intro E D dA p l e R s m args below meth c QQ hE H locs cells slots lr hR hS hc hs ho hL
  have hy : z_i32 y := ho (zi y) (by simp)
  have hx : z_i32 x := ho (zi x) (by simp)
  exact lv_icmp_lt hE.1 hE.2.1 hdg ht (fun h => kt ((z_lt hx hy).mp h) E D dA p l e R s m args below meth c QQ hE H locs cells slots lr hR hS hc hs (fun u hu => ho u (by simp [hu])) hL) (fun h => kf (fun g => h ((z_lt hx hy).mpr g)) E D dA p l e R s m args below meth c QQ hE H locs cells slots lr hR hS hc hs (fun u hu => ho u (by simp [hu])) hL)
theorem x_icmp_ge (pc' tgt : Nat) (hp : pc + 3 = pc') {off : Int} (hdg : decode mt.2.1 pc = .ok (.if_icmp .ge off, 3)) (ht : (pc : Int) + off = (tgt : Int)) (kt : (y ≤ x) → zW mt d kc ks sc Q tgt ls st sz S M) (kf : ¬ (y ≤ x) → zW mt d kc ks sc Q pc' ls st sz S M) : zW mt d kc ks sc Q pc ls (zi y :: zi x :: st) sz S M := by
  subst hp
  intro E D dA p l e R s m args below meth c QQ hE H locs cells slots lr hR hS hc hs ho hL
  have hy : z_i32 y := ho (zi y) (by simp)
  have hx : z_i32 x := ho (zi x) (by simp)
  exact lv_icmp_ge hE.1 hE.2.1 hdg ht (fun h => kt ((z_le hy hx).mp h) E D dA p l e R s m args below meth c QQ hE H locs cells slots lr hR hS hc hs (fun u hu => ho u (by simp [hu])) hL) (fun h => kf (fun g => h ((z_le hy hx).mpr g)) E D dA p l e R s m args below meth c QQ hE H locs cells slots lr hR hS hc hs (fun u hu => ho u (by simp [hu])) hL)
theorem x_icmp_gt (pc' tgt : Nat) (hp : pc + 3 = pc') {off : Int} (hdg : decode mt.2.1 pc = .ok (.if_icmp .gt off, 3)) (ht : (pc : Int) + off = (tgt : Int)) (kt : (y < x) → zW mt d kc ks sc Q tgt ls st sz S M) (kf : ¬ (y < x) → zW mt d kc ks sc Q pc' ls st sz S M) : zW mt d kc ks sc Q pc ls (zi y :: zi x :: st) sz S M := by
  subst hp
  intro E D dA p l e R s m args below meth c QQ hE H locs cells slots lr hR hS hc hs ho hL
  have hy : z_i32 y := ho (zi y) (by simp)
  have hx : z_i32 x := ho (zi x) (by simp)
  exact lv_icmp_gt hE.1 hE.2.1 hdg ht (fun h => kt ((z_lt hy hx).mp h) E D dA p l e R s m args below meth c QQ hE H locs cells slots lr hR hS hc hs (fun u hu => ho u (by simp [hu])) hL) (fun h => kf (fun g => h ((z_lt hy hx).mpr g)) E D dA p l e R s m args below meth c QQ hE H locs cells slots lr hR hS hc hs (fun u hu => ho u (by simp [hu])) hL)
theorem x_icmp_le (pc' tgt : Nat) (hp : pc + 3 = pc') {off : Int} (hdg : decode mt.2.1 pc = .ok (.if_icmp .le off, 3)) (ht : (pc : Int) + off = (tgt : Int)) (kt : (x ≤ y) → zW mt d kc ks sc Q tgt ls st sz S M) (kf : ¬ (x ≤ y) → zW mt d kc ks sc Q pc' ls st sz S M) : zW mt d kc ks sc Q pc ls (zi y :: zi x :: st) sz S M := by
  subst hp
  intro E D dA p l e R s m args below meth c QQ hE H locs cells slots lr hR hS hc hs ho hL
  have hy : z_i32 y := ho (zi y) (by simp)
  have hx : z_i32 x := ho (zi x) (by simp)
  exact lv_icmp_le hE.1 hE.2.1 hdg ht (fun h => kt ((z_le hx hy).mp h) E D dA p l e R s m args below meth c QQ hE H locs cells slots lr hR hS hc hs (fun u hu => ho u (by simp [hu])) hL) (fun h => kf (fun g => h ((z_le hx hy).mpr g)) E D dA p l e R s m args below meth c QQ hE H locs cells slots lr hR hS hc hs (fun u hu => ho u (by simp [hu])) hL)
theorem x_if_eq (pc' tgt : Nat) (hp : pc + 3 = pc') {off : Int} (hdg : decode mt.2.1 pc = .ok (.ifCond .eq off, 3)) (ht : (pc : Int) + off = (tgt : Int)) (kt : (x = 0) → zW mt d kc ks sc Q tgt ls st sz S M) (kf : ¬ (x = 0) → zW mt d kc ks sc Q pc' ls st sz S M) : zW mt d kc ks sc Q pc ls (zi x :: st) sz S M := by
  subst hp
  intro E D dA p l e R s m args below meth c QQ hE H locs cells slots lr hR hS hc hs ho hL
  have hx : z_i32 x := ho (zi x) (by simp)
  exact lv_if_eq hE.1 hE.2.1 hdg ht (fun h => kt ((z_eq hx z_i32_0).mp h) E D dA p l e R s m args below meth c QQ hE H locs cells slots lr hR hS hc hs (fun u hu => ho u (by simp [hu])) hL) (fun h => kf (fun g => h ((z_eq hx z_i32_0).mpr g)) E D dA p l e R s m args below meth c QQ hE H locs cells slots lr hR hS hc hs (fun u hu => ho u (by simp [hu])) hL)
theorem x_if_ne (pc' tgt : Nat) (hp : pc + 3 = pc') {off : Int} (hdg : decode mt.2.1 pc = .ok (.ifCond .ne off, 3)) (ht : (pc : Int) + off = (tgt : Int)) (kt : (¬ x = 0) → zW mt d kc ks sc Q tgt ls st sz S M) (kf : (x = 0) → zW mt d kc ks sc Q pc' ls st sz S M) : zW mt d kc ks sc Q pc ls (zi x :: st) sz S M := by
  subst hp
  intro E D dA p l e R s m args below meth c QQ hE H locs cells slots lr hR hS hc hs ho hL
  have hx : z_i32 x := ho (zi x) (by simp)
  exact lv_if_ne hE.1 hE.2.1 hdg ht (fun h => kt ((not_congr (z_eq hx z_i32_0)).mp h) E D dA p l e R s m args below meth c QQ hE H locs cells slots lr hR hS hc hs (fun u hu => ho u (by simp [hu])) hL) (fun h => kf ((z_eq hx z_i32_0).mp h) E D dA p l e R s m args below meth c QQ hE H locs cells slots lr hR hS hc hs (fun u hu => ho u (by simp [hu])) hL)
theorem x_if_lt (pc' tgt : Nat) (hp : pc + 3 = pc') {off : Int} (hdg : decode mt.2.1 pc = .ok (.ifCond .lt off, 3)) (ht : (pc : Int) + off = (tgt : Int)) (kt : (x < 0) → zW mt d kc ks sc Q tgt ls st sz S M) (kf : ¬ (x < 0) → zW mt d kc ks sc Q pc' ls st sz S M) : zW mt d kc ks sc Q pc ls (zi x :: st) sz S M := by
  subst hp
  intro E D dA p l e R s m args below meth c QQ hE H locs cells slots lr hR hS hc hs ho hL
  have hx : z_i32 x := ho (zi x) (by simp)
  exact lv_if_lt hE.1 hE.2.1 hdg ht (fun h => kt ((z_lt hx z_i32_0).mp h) E D dA p l e R s m args below meth c QQ hE H locs cells slots lr hR hS hc hs (fun u hu => ho u (by simp [hu])) hL) (fun h => kf (fun g => h ((z_lt hx z_i32_0).mpr g)) E D dA p l e R s m args below meth c QQ hE H locs cells slots lr hR hS hc hs (fun u hu => ho u (by simp [hu])) hL)
theorem x_if_ge (pc' tgt : Nat) (hp : pc + 3 = pc') {off : Int} (hdg : decode mt.2.1 pc = .ok (.ifCond .ge off, 3)) (ht : (pc : Int) + off = (tgt : Int)) (kt : (0 ≤ x) → zW mt d kc ks sc Q tgt ls st sz S M) (kf : ¬ (0 ≤ x) → zW mt d kc ks sc Q pc' ls st sz S M) : zW mt d kc ks sc Q pc ls (zi x :: st) sz S M := by
  subst hp
  intro E D dA p l e R s m args below meth c QQ hE H locs cells slots lr hR hS hc hs ho hL
  have hx : z_i32 x := ho (zi x) (by simp)
  exact lv_if_ge hE.1 hE.2.1 hdg ht (fun h => kt ((z_le z_i32_0 hx).mp h) E D dA p l e R s m args below meth c QQ hE H locs cells slots lr hR hS hc hs (fun u hu => ho u (by simp [hu])) hL) (fun h => kf (fun g => h ((z_le z_i32_0 hx).mpr g)) E D dA p l e R s m args below meth c QQ hE H locs cells slots lr hR hS hc hs (fun u hu => ho u (by simp [hu])) hL)
theorem x_if_gt (pc' tgt : Nat) (hp : pc + 3 = pc') {off : Int} (hdg : decode mt.2.1 pc = .ok (.ifCond .gt off, 3)) (ht : (pc : Int) + off = (tgt : Int)) (kt : (0 < x) → zW mt d kc ks sc Q tgt ls st sz S M) (kf : ¬ (0 < x) → zW mt d kc ks sc Q pc' ls st sz S M) : zW mt d kc ks sc Q pc ls (zi x :: st) sz S M := by
  subst hp
  intro E D dA p l e R s m args below meth c QQ hE H locs cells slots lr hR hS hc hs ho hL
  have hx : z_i32 x := ho (zi x) (by simp)
  exact lv_if_gt hE.1 hE.2.1 hdg ht (fun h => kt ((z_lt z_i32_0 hx).mp h) E D dA p l e R s m args below meth c QQ hE H locs cells slots lr hR hS hc hs (fun u hu => ho u (by simp [hu])) hL) (fun h => kf (fun g => h ((z_lt z_i32_0 hx).mpr g)) E D dA p l e R s m args below meth c QQ hE H locs cells slots lr hR hS hc hs (fun u hu => ho u (by simp [hu])) hL)
theorem x_if_le (pc' tgt : Nat) (hp : pc + 3 = pc') {off : Int} (hdg : decode mt.2.1 pc = .ok (.ifCond .le off, 3)) (ht : (pc : Int) + off = (tgt : Int)) (kt : (x ≤ 0) → zW mt d kc ks sc Q tgt ls st sz S M) (kf : ¬ (x ≤ 0) → zW mt d kc ks sc Q pc' ls st sz S M) : zW mt d kc ks sc Q pc ls (zi x :: st) sz S M := by
  subst hp
  intro E D dA p l e R s m args below meth c QQ hE H locs cells slots lr hR hS hc hs ho hL
  have hx : z_i32 x := ho (zi x) (by simp)
  exact lv_if_le hE.1 hE.2.1 hdg ht (fun h => kt ((z_le hx z_i32_0).mp h) E D dA p l e R s m args below meth c QQ hE H locs cells slots lr hR hS hc hs (fun u hu => ho u (by simp [hu])) hL) (fun h => kf (fun g => h ((z_le hx z_i32_0).mpr g)) E D dA p l e R s m args below meth c QQ hE H locs cells slots lr hR hS hc hs (fun u hu => ho u (by simp [hu])) hL)
theorem x_goto (tgt : Nat) {off : Int} (hdg : decode mt.2.1 pc = .ok (.goto off, 3)) (ht : (pc : Int) + off = (tgt : Int)) (k : zW mt d kc ks sc Q tgt ls st sz S M) : zW mt d kc ks sc Q pc ls st sz S M := by
  intro E D dA p l e R s m args below meth c QQ hE H locs cells slots lr hR hS hc hs ho hL
  exact lv_goto hE.1 hE.2.1 hdg ht (k E D dA p l e R s m args below meth c QQ hE H locs cells slots lr hR hS hc hs ho hL)
theorem x_ifnonnull (pc' tgt : Nat) (hp : pc + 3 = pc') {off : Int} (hdg : decode mt.2.1 pc = .ok (.ifnonnull off, 3)) (ht : (pc : Int) + off = (tgt : Int)) (kt : ¬ x = -1 → zW mt d kc ks sc Q tgt ls st sz S M) (kf : x = -1 → zW mt d kc ks sc Q pc' ls st sz S M) : zW mt d kc ks sc Q pc ls (zr x :: st) sz S M := by
  subst hp
  intro E D dA p l e R s m args below meth c QQ hE H locs cells slots lr hR hS hc hs ho hL
  by_cases h : x = -1
  · have h2 := kf h E D dA p l e R s m args below meth c QQ hE H locs cells slots lr hR hS hc hs (fun u hu => ho u (by simp [hu])) hL
    have he : z_val E (zr x) = .null := by subst h; simp [z_val, z_rf]
    rw [List.map_cons, he]
    exact lv_ifnonnullN hE.1 hE.2.1 hdg h2
  · have h2 := kt h E D dA p l e R s m args below meth c QQ hE H locs cells slots lr hR hS hc hs (fun u hu => ho u (by simp [hu])) hL
    have he : ∃ a, z_val E (zr x) = .ref a := by
      simp only [z_val, z_rf]
      split
      · exact ⟨_, rfl⟩
      · split <;> exact ⟨_, rfl⟩
    obtain ⟨a, he⟩ := he
    rw [List.map_cons, he]
    exact lv_ifnonnull hE.1 hE.2.1 hdg ht h2
theorem x_tsIn (tgt : Nat) {dflt lo hi : Int} {offs : Array Int} {len : Nat} (i : Nat) {off : Int} (hdg : decode mt.2.1 pc = .ok (.tableswitch dflt lo hi offs, len)) (h1 : lo ≤ x) (h2 : x ≤ hi) (h3 : x - lo = (i : Int)) (ho2 : offs[i]? = some off) (ht : (pc : Int) + off = (tgt : Int)) (k : zW mt d kc ks sc Q tgt ls st sz S M) : zW mt d kc ks sc Q pc ls (zi x :: st) sz S M := by
  intro E D dA p l e R s m args below meth c QQ hE H locs cells slots lr hR hS hc hs ho hL
  have hx : z_i32 x := ho (zi x) (by simp)
  refine lv_tableIn hE.1 hE.2.1 hdg (x := Int32.ofInt x) (by rw [i32_to hx]; omega) (by rw [i32_to hx]; omega) (off := off) (by rw [i32_to hx, h3]; exact ho2) ht (k E D dA p l e R s m args below meth c QQ hE H locs cells slots lr hR hS hc hs (fun u hu => ho u (by simp [hu])) hL)
theorem x_tsOut (tgt : Nat) {dflt lo hi : Int} {offs : Array Int} {len : Nat} (hdg : decode mt.2.1 pc = .ok (.tableswitch dflt lo hi offs, len)) (h : x < lo ∨ hi < x) (ht : (pc : Int) + dflt = (tgt : Int)) (k : zW mt d kc ks sc Q tgt ls st sz S M) : zW mt d kc ks sc Q pc ls (zi x :: st) sz S M := by
  intro E D dA p l e R s m args below meth c QQ hE H locs cells slots lr hR hS hc hs ho hL
  have hx : z_i32 x := ho (zi x) (by simp)
  refine lv_tableOut hE.1 hE.2.1 hdg (x := Int32.ofInt x) (by rw [i32_to hx]; exact h) ht (k E D dA p l e R s m args below meth c QQ hE H locs cells slots lr hR hS hc hs (fun u hu => ho u (by simp [hu])) hL)
end ZR
