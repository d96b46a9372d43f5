section ZY
variable {mt : zMt} {d kc ks : Nat} {sc : List Int} {Q : zQ} {pc : Nat} {ls : zLs} {st : List zV} {sz : Nat} {S : zSh} {M : zMem} {x y : Int} {a n : Nat} {f : Nat → Int}
theorem x_ialk (pc' : Nat) (hp : pc + 1 = pc') (hdg : decode mt.2.1 pc = .ok (.iaload, 1)) (ha : a < sz) (hS : S a = (20, n, f)) (i : Nat) (hx : x = (i : Int)) (h1 : i < n) (kk : zW mt d kc ks sc Q pc' ls (zi (M a i) :: st) sz S M) : zW mt d kc ks sc Q pc ls (zi x :: zn a :: st) sz S M := by
  subst hx
  exact x_iald pc' hp hdg ha hS (by omega) (by omega) kk
theorem x_iastk (pc' : Nat) (hp : pc + 1 = pc') (hdg : decode mt.2.1 pc = .ok (.iastore, 1)) (ha : a < sz) (hS : S a = (20, n, f)) (i : Nat) (hx : x = (i : Int)) (h1 : i < n) (kk : zW mt d kc ks sc Q pc' ls st sz S (z_up M a i y)) : zW mt d kc ks sc Q pc ls (zi y :: zi x :: zn a :: st) sz S M := by
  subst hx
  exact x_iast pc' hp hdg ha hS (by omega) (by omega) kk
end ZY
/-- fewer locals may be known -/
def z_sub : zLs → zLs → Prop
  | [], [] => True
  | none :: t, _ :: t' => z_sub t t'
  | some v :: t, w :: t' => w = some v ∧ z_sub t t'
  | _, _ => False
theorem z_sub_get : ∀ {l l' : zLs}, z_sub l l' → l.length = l'.length ∧ ∀ (i : Nat) (v : zV), l[i]? = some (some v) → l'[i]? = some (some v)
  | [], [], _ => ⟨rfl, fun i v h => by simp at h⟩
  | none :: t, w :: t', h => by
    have h1 := z_sub_get (l := t) (l' := t') h
    refine ⟨by simp [h1.1], fun i v hv => ?_⟩
    cases i with
    | zero => simp at hv
    | succ i => simpa using h1.2 i v (by simpa using hv)
  | some u :: t, w :: t', h => by
    have h1 := z_sub_get (l := t) (l' := t') h.2
    refine ⟨by simp [h1.1], fun i v hv => ?_⟩
    cases i with
    | zero => simp at hv; subst hv; simpa using h.1
    | succ i => simpa using h1.2 i v (by simpa using hv)
theorem z_wk {mt : zMt} {d kc ks : Nat} {sc : List Int} {Q : zQ} {pc : Nat} {ls ls' : zLs} {st : List zV} {sz : Nat} {S : zSh} {M : zMem} (h : z_sub ls' ls) (k : zW mt d kc ks sc Q pc ls' st sz S M) : zW mt d kc ks sc Q pc ls st sz S M := by
  obtain ⟨h1, h2⟩ := z_sub_get h
  intro E D dA p l e R s m args below meth c QQ hE H locs cells slots lr hR hS hc hs ho hL
  refine k E D dA p l e R s m args below meth c QQ hE H locs cells slots lr hR hS hc hs ho ⟨⟨hL.1.1, hL.1.2.1, fun q hq => ?_⟩, fun v hv => ?_, by rw [h1]; exact hL.2.2⟩
  · obtain ⟨j, v, hj, rfl⟩ := z_as_mem.mp hq
    exact hL.1.2.2 _ (z_as_mem.mpr ⟨j, v, h2 j v hj, rfl⟩)
  · obtain ⟨j, hj⟩ := List.getElem?_of_mem hv
    exact hL.2.1 v (List.mem_of_getElem? (h2 j v hj))
theorem z_e {x y : Int} (h : x = y) : (some (zi x) : Option zV) = some (zi y) := by rw [h]
/-- no long ends at i -/
def z_nl : zLs → Nat → Bool
  | [], _ => true
  | _ :: _, 0 => true
  | a :: t, n + 1 => (match n with | 0 => (match a with | some (.inr (.inl _)) => false | _ => true) | _ => z_nl t n)
theorem z_st1_set (v : zV) : ∀ (ls : zLs) (i : Nat), z_nl ls i = true → z_st1 ls i v = ls.set i (some v)
  | [], _, _ => by simp [z_st1]
  | _ :: t, 0, _ => rfl
  | a :: t, 1, h => by
    cases t with
    | nil => rcases a with _ | (x | x | x) <;> simp [z_nl] at h <;> simp [z_st1, z_noL]
    | cons b t => rcases a with _ | (x | x | x) <;> simp [z_nl] at h <;> simp [z_st1, z_noL]
  | a :: t, n + 2, h => by
    have h1 := z_st1_set v t (n + 1) (by simpa [z_nl] using h)
    simp [z_st1, h1]
theorem z_st2_set (v : zV) : ∀ (ls : zLs) (i : Nat), z_nl ls i = true → z_st2 ls i v = (ls.set i (some v)).set (i + 1) none
  | [], _, _ => by simp [z_st2]
  | _ :: t, 0, _ => by cases t <;> simp [z_st2]
  | a :: t, 1, h => by
    rcases t with _ | ⟨b, _ | ⟨c, t⟩⟩ <;> rcases a with _ | (x | x | x) <;> simp [z_nl] at h <;> simp [z_st2, z_noL]
  | a :: t, n + 2, h => by
    have h1 := z_st2_set v t (n + 1) (by simpa [z_nl] using h)
    simp [z_st2, h1]
section ZS
variable {mt : zMt} {d kc ks : Nat} {sc : List Int} {Q : zQ} {pc : Nat} {ls : zLs} {st : List zV} {sz : Nat} {S : zSh} {M : zMem} {x : Int}
theorem y_istore_n (pc' : Nat) (hp : pc + 1 = pc') {i : Nat} {j : Fin 4} (hdg : decode mt.2.1 pc = .ok (.istore_n j, 1)) (hi : (j : Nat) = i) (hnl : z_nl ls i = true) (ls' : zLs) (hls : ls.set i (some (zi x)) = ls') (hn : i < mt.2.2.1) (k : zW mt d kc ks sc Q pc' ls' st sz S M) : zW mt d kc ks sc Q pc ls (zi x :: st) sz S M := x_istore_n pc' hp hdg hi ls' ((z_st1_set _ _ _ hnl).trans hls) hn k
theorem y_istore (pc' : Nat) (hp : pc + 2 = pc') {i : Nat} (hdg : decode mt.2.1 pc = .ok (.istore i, 2)) (hnl : z_nl ls i = true) (ls' : zLs) (hls : ls.set i (some (zi x)) = ls') (hn : i < mt.2.2.1) (k : zW mt d kc ks sc Q pc' ls' st sz S M) : zW mt d kc ks sc Q pc ls (zi x :: st) sz S M := x_istore pc' hp hdg ls' ((z_st1_set _ _ _ hnl).trans hls) hn k
theorem y_astore_n (pc' : Nat) (hp : pc + 1 = pc') {i : Nat} {j : Fin 4} (hdg : decode mt.2.1 pc = .ok (.astore_n j, 1)) (hi : (j : Nat) = i) (hnl : z_nl ls i = true) (ls' : zLs) (hls : ls.set i (some (zr x)) = ls') (hn : i < mt.2.2.1) (k : zW mt d kc ks sc Q pc' ls' st sz S M) : zW mt d kc ks sc Q pc ls (zr x :: st) sz S M := x_astore_n pc' hp hdg hi ls' ((z_st1_set _ _ _ hnl).trans hls) hn k
theorem y_astore (pc' : Nat) (hp : pc + 2 = pc') {i : Nat} (hdg : decode mt.2.1 pc = .ok (.astore i, 2)) (hnl : z_nl ls i = true) (ls' : zLs) (hls : ls.set i (some (zr x)) = ls') (hn : i < mt.2.2.1) (k : zW mt d kc ks sc Q pc' ls' st sz S M) : zW mt d kc ks sc Q pc ls (zr x :: st) sz S M := x_astore pc' hp hdg ls' ((z_st1_set _ _ _ hnl).trans hls) hn k
theorem y_lstore_n (pc' : Nat) (hp : pc + 1 = pc') {i : Nat} {j : Fin 4} (hdg : decode mt.2.1 pc = .ok (.lstore_n j, 1)) (hi : (j : Nat) = i) (hnl : z_nl ls i = true) (ls' : zLs) (hls : (ls.set i (some (zl x))).set (i + 1) none = ls') (hn : i + 1 < mt.2.2.1) (k : zW mt d kc ks sc Q pc' ls' st sz S M) : zW mt d kc ks sc Q pc ls (zl x :: st) sz S M := x_lstore_n pc' hp hdg hi ls' ((z_st2_set _ _ _ hnl).trans hls) hn k
theorem y_lstore (pc' : Nat) (hp : pc + 2 = pc') {i : Nat} (hdg : decode mt.2.1 pc = .ok (.lstore i, 2)) (hnl : z_nl ls i = true) (ls' : zLs) (hls : (ls.set i (some (zl x))).set (i + 1) none = ls') (hn : i + 1 < mt.2.2.1) (k : zW mt d kc ks sc Q pc' ls' st sz S M) : zW mt d kc ks sc Q pc ls (zl x :: st) sz S M := x_lstore pc' hp hdg ls' ((z_st2_set _ _ _ hnl).trans hls) hn k
theorem w_iinc (pc' : Nat) (hp : pc + 3 = pc') {i : Nat} {n : Int} (hdg : decode mt.2.1 pc = .ok (.iinc i n, 3)) (hl : ls[i]? = some (some (zi x))) (hi : (-32768 : Int) ≤ n ∧ n ≤ 32767) (hr : -2147483648 ≤ x + n ∧ x + n ≤ 2147483647) (hnl : z_nl ls i = true) (ls' : zLs) (hls : ls.set i (some (zi (x + n))) = ls') (hn : i < mt.2.2.1) (k : zW mt d kc ks sc Q pc' ls' st sz S M) : zW mt d kc ks sc Q pc ls st sz S M := y_iinc pc' hp hdg hl hi hr ls' ((z_st1_set _ _ _ hnl).trans hls) hn k
end ZS
