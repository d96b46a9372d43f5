section ZY
variable {mt : zMt} {d kc ks : Nat} {sc : List Int} {Q : zQ} {pc : Nat} {ls : zLs} {st : List zV} {sz : Nat} {S : zSh} {M : zMem} {x y : Int} {a n : Nat} {f : Nat → Int}
theorem x_ialk (pc' : Nat) (hp : pc + 1 = pc') (hdg : decode mt.2.1 pc = .ok (.iaload, 1)) (ha : a < sz) (hS : S a = (20, n, f)) (i : Nat) (hx : x = (i : Int)) (h1 : i < n) (kk : zW mt d kc ks sc Q pc' ls (zi (M a i) :: st) sz S M) : zW mt d kc ks sc Q pc ls (zi x :: zn a :: st) sz S M := by
  subst hx
  exact x_iald pc' hp hdg ha hS (by omega) (by omega) kk
theorem x_iastk (pc' : Nat) (hp : pc + 1 = pc') (hdg : decode mt.2.1 pc = .ok (.iastore, 1)) (ha : a < sz) (hS : S a = (20, n, f)) (i : Nat) (hx : x = (i : Int)) (h1 : i < n) (kk : zW mt d kc ks sc Q pc' ls st sz S (z_up M a i y)) : zW mt d kc ks sc Q pc ls (zi y :: zi x :: zn a :: st) sz S M := by
  subst hx
  exact x_iast pc' hp hdg ha hS (by omega) (by omega) kk
end ZY
