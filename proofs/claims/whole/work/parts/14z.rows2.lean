section ZY
variable {mt : zMt} {d kc ks : Nat} {sc : List Int} {Q : zQ} {pc : Nat} {ls : zLs} {st : List zV} {sz : Nat} {S : zSh} {M : zMem} {x y : Int} {a n : Nat} {f : Nat → Int}
theorem x_ialk (pc' : Nat) (hp : pc + 1 = pc') (hdg : decode mt.2.1 pc = .ok (.iaload, 1)) (ha : a < sz) (hS : S a = (20, n, f)) (i : Nat) (hx : x = (i : Int)) (h1 : i < n) (kk : zW mt d kc ks sc Q pc' ls (zi (M a i) :: st) sz S M) : zW mt d kc ks sc Q pc ls (zi x :: zn a :: st) sz S M := by
  subst hx
  exact x_iald pc' hp hdg ha hS (by omega) (by omega) kk
theorem x_iastk (pc' : Nat) (hp : pc + 1 = pc') (hdg : decode mt.2.1 pc = .ok (.iastore, 1)) (ha : a < sz) (hS : S a = (20, n, f)) (i : Nat) (hx : x = (i : Int)) (h1 : i < n) (kk : zW mt d kc ks sc Q pc' ls st sz S (z_up M a i y)) : zW mt d kc ks sc Q pc ls (zi y :: zi x :: zn a :: st) sz S M := by
  subst hx
  exact x_iast pc' hp hdg ha hS (by omega) (by omega) kk
end ZY
/-- fewer locals may be known -/
def z_sub : zLs → zLs → Prop
  | [], [] => True
  | none :: t, _ :: t' => z_sub t t'
  | some v :: t, w :: t' => w = some v ∧ z_sub t t'
  | _, _ => False
theorem z_sub_get : ∀ {l l' : zLs}, z_sub l l' → l.length = l'.length ∧ ∀ (i : Nat) (v : zV), l[i]? = some (some v) → l'[i]? = some (some v)
  | [], [], _ => ⟨rfl, fun i v h => by simp at h⟩
  | none :: t, w :: t', h => by
    have h1 := z_sub_get (l := t) (l' := t') h
    refine ⟨by simp [h1.1], fun i v hv => ?_⟩
    cases i with
    | zero => simp at hv
    | succ i => simpa using h1.2 i v (by simpa using hv)
  | some u :: t, w :: t', h => by
    have h1 := z_sub_get (l := t) (l' := t') h.2
    refine ⟨by simp [h1.1], fun i v hv => ?_⟩
    cases i with
    | zero => simp at hv; subst hv; simpa using h.1
    | succ i => simpa using h1.2 i v (by simpa using hv)
theorem z_wk {mt : zMt} {d kc ks : Nat} {sc : List Int} {Q : zQ} {pc : Nat} {ls ls' : zLs} {st : List zV} {sz : Nat} {S : zSh} {M : zMem} (h : z_sub ls' ls) (k : zW mt d kc ks sc Q pc ls' st sz S M) : zW mt d kc ks sc Q pc ls st sz S M := by
  obtain ⟨h1, h2⟩ := z_sub_get h
  intro E D dA p l e R s m args below meth c QQ hE H locs cells slots lr hR hS hc hs ho hL
  refine k E D dA p l e R s m args below meth c QQ hE H locs cells slots lr hR hS hc hs ho ⟨⟨hL.1.1, hL.1.2.1, fun q hq => ?_⟩, fun v hv => ?_, by rw [h1]; exact hL.2.2⟩
  · obtain ⟨j, v, hj, rfl⟩ := z_as_mem.mp hq
    exact hL.1.2.2 _ (z_as_mem.mpr ⟨j, v, h2 j v hj, rfl⟩)
  · obtain ⟨j, hj⟩ := List.getElem?_of_mem hv
    exact hL.2.1 v (List.mem_of_getElem? (h2 j v hj))
theorem z_e {x y : Int} (h : x = y) : (some (zi x) : Option zV) = some (zi y) := by rw [h]
