/-! WHERE EVERYTHING LIES: addresses from the base on, in the order in which the constructors make them -/
def zN : Nat → Int := fun _ => -1
def zI (sz : Nat) (S : zSh) (P : Int → zMem → Prop) : zQ := fun v sz' S' M' => ∃ r, v = some (zi r) ∧ sz' = sz ∧ S' = S ∧ P r M'
def zJ (sz : Nat) (S : zSh) (P : Int → zMem → Prop) : zQ := fun v sz' S' M' => ∃ r, v = some (zl r) ∧ sz' = sz ∧ S' = S ∧ P r M'
def zO (sz : Nat) (S : zSh) (P : Int → zMem → Prop) : zQ := fun v sz' S' M' => ∃ r, v = some (zr r) ∧ sz' = sz ∧ S' = S ∧ P r M'
def zU (sz : Nat) (S : zSh) (P : zMem → Prop) : zQ := fun v sz' S' M' => v = none ∧ sz' = sz ∧ S' = S ∧ P M'
section ZF
variable {mt mt2 : zMt} {d kc ks : Nat} {sc : List Int} {Q : zQ} {pc : Nat} {ls : zLs} {st : List zV} {sz : Nat} {S : zSh} {M : zMem} {x y : Int} {a n : Nat} {f : Nat → Int} {P : Int → zMem → Prop} {P0 : zMem → Prop}
theorem x_cVi {idx ci nA : Nat} {as rest : List zV} (pc' : Nat) (hp : pc + 3 = pc') (hl : z_MV mt.1.cls idx mt2 ci nA) (hdg : decode mt.2.1 pc = .ok (.invokevirtual idx, 3)) (ha : a < sz) (hSa : S a = (ci, n, f)) (hX : zX d 0 0 mt2 (zn a :: as) sz S M (zI sz S P)) (hst : st = as.reverse ++ zn a :: rest) (hnA : as.length = nA) (hre : rest.length ≤ 4) (kk : ∀ (r : Int) (M' : zMem), P r M' → zW mt (d + 1) kc ks sc Q pc' ls (zi r :: rest) sz S M') : zW mt (d + 1) kc ks sc Q pc ls st sz S M := by
  refine x_callV (kc := kc) (ks := ks) pc' hp hl hdg ha hSa hX hst hnA hre ?_
  rintro v sz1 S1 M1 ⟨r, rfl, rfl, rfl, hP⟩
  exact kk r M1 hP
theorem x_cSi {idx nA : Nat} {as rest : List zV} (pc' : Nat) (hp : pc + 3 = pc') (hl : z_MS mt.1.cls idx mt2 nA) (hdg : decode mt.2.1 pc = .ok (.invokestatic idx, 3)) (hX : zX d 0 0 mt2 as sz S M (zI sz S P)) (hst : st = as.reverse ++ rest) (hnA : as.length = nA) (hre : rest.length ≤ 4) (kk : ∀ (r : Int) (M' : zMem), P r M' → zW mt (d + 1) kc ks sc Q pc' ls (zi r :: rest) sz S M') : zW mt (d + 1) kc ks sc Q pc ls st sz S M := by
  refine x_callS (kc := kc) (ks := ks) pc' hp hl hdg hX hst hnA hre ?_
  rintro v sz1 S1 M1 ⟨r, rfl, rfl, rfl, hP⟩
  exact kk r M1 hP
theorem x_cVj {idx ci nA : Nat} {as rest : List zV} (pc' : Nat) (hp : pc + 3 = pc') (hl : z_MV mt.1.cls idx mt2 ci nA) (hdg : decode mt.2.1 pc = .ok (.invokevirtual idx, 3)) (ha : a < sz) (hSa : S a = (ci, n, f)) (hX : zX d 0 0 mt2 (zn a :: as) sz S M (zJ sz S P)) (hst : st = as.reverse ++ zn a :: rest) (hnA : as.length = nA) (hre : rest.length ≤ 4) (kk : ∀ (r : Int) (M' : zMem), P r M' → zW mt (d + 1) kc ks sc Q pc' ls (zl r :: rest) sz S M') : zW mt (d + 1) kc ks sc Q pc ls st sz S M := by
  refine x_callV (kc := kc) (ks := ks) pc' hp hl hdg ha hSa hX hst hnA hre ?_
  rintro v sz1 S1 M1 ⟨r, rfl, rfl, rfl, hP⟩
  exact kk r M1 hP
theorem x_cSj {idx nA : Nat} {as rest : List zV} (pc' : Nat) (hp : pc + 3 = pc') (hl : z_MS mt.1.cls idx mt2 nA) (hdg : decode mt.2.1 pc = .ok (.invokestatic idx, 3)) (hX : zX d 0 0 mt2 as sz S M (zJ sz S P)) (hst : st = as.reverse ++ rest) (hnA : as.length = nA) (hre : rest.length ≤ 4) (kk : ∀ (r : Int) (M' : zMem), P r M' → zW mt (d + 1) kc ks sc Q pc' ls (zl r :: rest) sz S M') : zW mt (d + 1) kc ks sc Q pc ls st sz S M := by
  refine x_callS (kc := kc) (ks := ks) pc' hp hl hdg hX hst hnA hre ?_
  rintro v sz1 S1 M1 ⟨r, rfl, rfl, rfl, hP⟩
  exact kk r M1 hP
theorem x_cVo {idx ci nA : Nat} {as rest : List zV} (pc' : Nat) (hp : pc + 3 = pc') (hl : z_MV mt.1.cls idx mt2 ci nA) (hdg : decode mt.2.1 pc = .ok (.invokevirtual idx, 3)) (ha : a < sz) (hSa : S a = (ci, n, f)) (hX : zX d 0 0 mt2 (zn a :: as) sz S M (zO sz S P)) (hst : st = as.reverse ++ zn a :: rest) (hnA : as.length = nA) (hre : rest.length ≤ 4) (kk : ∀ (r : Int) (M' : zMem), P r M' → zW mt (d + 1) kc ks sc Q pc' ls (zr r :: rest) sz S M') : zW mt (d + 1) kc ks sc Q pc ls st sz S M := by
  refine x_callV (kc := kc) (ks := ks) pc' hp hl hdg ha hSa hX hst hnA hre ?_
  rintro v sz1 S1 M1 ⟨r, rfl, rfl, rfl, hP⟩
  exact kk r M1 hP
theorem x_cSo {idx nA : Nat} {as rest : List zV} (pc' : Nat) (hp : pc + 3 = pc') (hl : z_MS mt.1.cls idx mt2 nA) (hdg : decode mt.2.1 pc = .ok (.invokestatic idx, 3)) (hX : zX d 0 0 mt2 as sz S M (zO sz S P)) (hst : st = as.reverse ++ rest) (hnA : as.length = nA) (hre : rest.length ≤ 4) (kk : ∀ (r : Int) (M' : zMem), P r M' → zW mt (d + 1) kc ks sc Q pc' ls (zr r :: rest) sz S M') : zW mt (d + 1) kc ks sc Q pc ls st sz S M := by
  refine x_callS (kc := kc) (ks := ks) pc' hp hl hdg hX hst hnA hre ?_
  rintro v sz1 S1 M1 ⟨r, rfl, rfl, rfl, hP⟩
  exact kk r M1 hP
theorem x_cVu {idx ci nA : Nat} {as rest : List zV} (pc' : Nat) (hp : pc + 3 = pc') (hl : z_MV mt.1.cls idx mt2 ci nA) (hdg : decode mt.2.1 pc = .ok (.invokevirtual idx, 3)) (ha : a < sz) (hSa : S a = (ci, n, f)) (hX : zX d 0 0 mt2 (zn a :: as) sz S M (zU sz S P0)) (hst : st = as.reverse ++ zn a :: rest) (hnA : as.length = nA) (hre : rest.length ≤ 4) (kk : ∀ (M' : zMem), P0 M' → zW mt (d + 1) kc ks sc Q pc' ls rest sz S M') : zW mt (d + 1) kc ks sc Q pc ls st sz S M := by
  refine x_callV (kc := kc) (ks := ks) pc' hp hl hdg ha hSa hX hst hnA hre ?_
  rintro v sz1 S1 M1 ⟨rfl, rfl, rfl, hP⟩
  exact kk M1 hP
theorem x_cSu {idx nA : Nat} {as rest : List zV} (pc' : Nat) (hp : pc + 3 = pc') (hl : z_MS mt.1.cls idx mt2 nA) (hdg : decode mt.2.1 pc = .ok (.invokestatic idx, 3)) (hX : zX d 0 0 mt2 as sz S M (zU sz S P0)) (hst : st = as.reverse ++ rest) (hnA : as.length = nA) (hre : rest.length ≤ 4) (kk : ∀ (M' : zMem), P0 M' → zW mt (d + 1) kc ks sc Q pc' ls rest sz S M') : zW mt (d + 1) kc ks sc Q pc ls st sz S M := by
  refine x_callS (kc := kc) (ks := ks) pc' hp hl hdg hX hst hnA hre ?_
  rintro v sz1 S1 M1 ⟨rfl, rfl, rfl, hP⟩
  exact kk M1 hP
theorem x_reti (hdg : decode mt.2.1 pc = .ok (.ireturn, 1)) (hr : mt.2.2.2 = some .int) (hq : P x M) : zW mt d kc ks sc (zI sz S P) pc ls [zi x] sz S M := x_iret hdg hr ⟨x, rfl, rfl, rfl, hq⟩
theorem x_retz (hdg : decode mt.2.1 pc = .ok (.ireturn, 1)) (hr : mt.2.2.2 = some .boolean) (h01 : x = 0 ∨ x = 1) (hq : P x M) : zW mt d kc ks sc (zI sz S P) pc ls [zi x] sz S M := x_zret hdg hr h01 ⟨x, rfl, rfl, rfl, hq⟩
theorem x_retj (hdg : decode mt.2.1 pc = .ok (.lreturn, 1)) (hr : mt.2.2.2 = some .long) (hq : P x M) : zW mt d kc ks sc (zJ sz S P) pc ls [zl x] sz S M := x_lret hdg hr ⟨x, rfl, rfl, rfl, hq⟩
theorem x_reto (hdg : decode mt.2.1 pc = .ok (.areturn, 1)) (hr : ∃ n, mt.2.2.2 = some (.object n)) (hq : P x M) : zW mt d kc ks sc (zO sz S P) pc ls [zr x] sz S M := x_aret hdg hr ⟨x, rfl, rfl, rfl, hq⟩
theorem x_retu (hdg : decode mt.2.1 pc = .ok (.return_, 1)) (hr : mt.2.2.2 = none) (hq : P0 M) : zW mt d kc ks sc (zU sz S P0) pc ls [] sz S M := x_vret hdg hr ⟨rfl, rfl, rfl, hq⟩
/-- sums that stay in range -/
theorem y_iadd (pc' : Nat) (hp : pc + 1 = pc') (hdg : decode mt.2.1 pc = .ok (.iadd, 1)) (hr : -2147483648 ≤ x + y ∧ x + y ≤ 2147483647) (k : zW mt d kc ks sc Q pc' ls (zi (x + y) :: st) sz S M) : zW mt d kc ks sc Q pc ls (zi y :: zi x :: st) sz S M := x_iadd pc' hp hdg (by rw [w32_id hr]; exact k)
theorem y_isub (pc' : Nat) (hp : pc + 1 = pc') (hdg : decode mt.2.1 pc = .ok (.isub, 1)) (hr : -2147483648 ≤ x - y ∧ x - y ≤ 2147483647) (k : zW mt d kc ks sc Q pc' ls (zi (x - y) :: st) sz S M) : zW mt d kc ks sc Q pc ls (zi y :: zi x :: st) sz S M := x_isub pc' hp hdg (by rw [w32_id hr]; exact k)
theorem y_imul (pc' : Nat) (hp : pc + 1 = pc') (hdg : decode mt.2.1 pc = .ok (.imul, 1)) (hr : -2147483648 ≤ x * y ∧ x * y ≤ 2147483647) (k : zW mt d kc ks sc Q pc' ls (zi (x * y) :: st) sz S M) : zW mt d kc ks sc Q pc ls (zi y :: zi x :: st) sz S M := x_imul pc' hp hdg (by rw [w32_id hr]; exact k)
theorem y_ineg (pc' : Nat) (hp : pc + 1 = pc') (hdg : decode mt.2.1 pc = .ok (.ineg, 1)) (hr : -2147483648 ≤ -x ∧ -x ≤ 2147483647) (k : zW mt d kc ks sc Q pc' ls (zi (-x) :: st) sz S M) : zW mt d kc ks sc Q pc ls (zi x :: st) sz S M := x_ineg pc' hp hdg (by rw [w32_id hr]; exact k)
theorem y_iinc (pc' : Nat) (hp : pc + 3 = pc') {i : Nat} {n : Int} (hdg : decode mt.2.1 pc = .ok (.iinc i n, 3)) (hl : ls[i]? = some (some (zi x))) (hi : (-32768 : Int) ≤ n ∧ n ≤ 32767) (hr : -2147483648 ≤ x + n ∧ x + n ≤ 2147483647) (ls' : zLs) (hls : z_st1 ls i (zi (x + n)) = ls') (hn : i < mt.2.2.1) (k : zW mt d kc ks sc Q pc' ls' st sz S M) : zW mt d kc ks sc Q pc ls st sz S M := x_iinc pc' hp hdg hl hi ls' (by rw [w32_id hr]; exact hls) hn k
theorem y_ladd (pc' : Nat) (hp : pc + 1 = pc') (hdg : decode mt.2.1 pc = .ok (.ladd, 1)) (hr : -9223372036854775808 ≤ x + y ∧ x + y ≤ 9223372036854775807) (k : zW mt d kc ks sc Q pc' ls (zl (x + y) :: st) sz S M) : zW mt d kc ks sc Q pc ls (zl y :: zl x :: st) sz S M := x_ladd pc' hp hdg (by rw [w64_id hr]; exact k)
theorem y_lsub (pc' : Nat) (hp : pc + 1 = pc') (hdg : decode mt.2.1 pc = .ok (.lsub, 1)) (hr : -9223372036854775808 ≤ x - y ∧ x - y ≤ 9223372036854775807) (k : zW mt d kc ks sc Q pc' ls (zl (x - y) :: st) sz S M) : zW mt d kc ks sc Q pc ls (zl y :: zl x :: st) sz S M := x_lsub pc' hp hdg (by rw [w64_id hr]; exact k)
theorem y_lmul (pc' : Nat) (hp : pc + 1 = pc') (hdg : decode mt.2.1 pc = .ok (.lmul, 1)) (hr : -9223372036854775808 ≤ x * y ∧ x * y ≤ 9223372036854775807) (k : zW mt d kc ks sc Q pc' ls (zl (x * y) :: st) sz S M) : zW mt d kc ks sc Q pc ls (zl y :: zl x :: st) sz S M := x_lmul pc' hp hdg (by rw [w64_id hr]; exact k)
/-- a value goes by another name -/
theorem z_name {y' : Int} (h : y = y') (k : zW mt d kc ks sc Q pc ls (zi y' :: st) sz S M) : zW mt d kc ks sc Q pc ls (zi y :: st) sz S M := h ▸ k
theorem z_mem {M' : zMem} (h : M = M') (k : zW mt d kc ks sc Q pc ls st sz S M') : zW mt d kc ks sc Q pc ls st sz S M := h ▸ k
theorem z_locs {ls' : zLs} (h : ls = ls') (k : zW mt d kc ks sc Q pc ls' st sz S M) : zW mt d kc ks sc Q pc ls st sz S M := h ▸ k
/-- what a contract says may be said more loosely -/
theorem zX_mono {as : List zV} {kc2 ks2 : Nat} {Q2 : zQ} (h : zX d kc2 ks2 mt as sz S M Q2) (hq : ∀ v sz' S' M', Q2 v sz' S' M' → Q v sz' S' M') : zX d kc2 ks2 mt as sz S M Q := by
  intro l E D dA hok
  have h1 := h l E D dA hok
  unfold Met at h1 ⊢
  intro p e ha hc hk s m args below hf happ hP hK
  obtain ⟨k, o, g1, g2, g3, ⟨⟨v, sz', S', M', e1, e2, e3⟩, e4⟩, e5⟩ := h1 p e ha hc hk s m args below hf happ hP hK
  exact ⟨k, o, g1, g2, g3, ⟨⟨v, sz', S', M', e1, hq _ _ _ _ e2, e3⟩, e4⟩, e5⟩
end ZF
def shF (a : Nat) : Nat → Int := fun k => match k with | 1 => ((a + 1 : Nat) : Int) | 2 => ((a + 2 : Nat) : Int) | 3 => ((a + 3 : Nat) : Int) | 6 => ((a + 4 : Nat) : Int) | 7 => ((a + 5 : Nat) : Int) | 10 => ((a + 6 : Nat) : Int) | 11 => ((a + 7 : Nat) : Int) | 13 => ((a + 8 : Nat) : Int) | 14 => ((a + 9 : Nat) : Int) | 16 => ((a + 10 : Nat) : Int) | _ => -1
def lgF (a : Nat) : Nat → Int := fun k => match k with | 0 => ((a + 1 : Nat) : Int) | 1 => ((a + 2 : Nat) : Int) | _ => -1
def mcF (a : Nat) : Nat → Int := fun k => match k with | 0 => ((a + 1 : Nat) : Int) | _ => -1
def txF (a : Nat) : Nat → Int := fun k => match k with | 2 => ((a + 1 : Nat) : Int) | 3 => ((a + 2 : Nat) : Int) | _ => -1
def SH (S : zSh) (sz a : Nat) : Prop := a + 11 ≤ sz ∧ S a = (7, 18, shF a) ∧ S (a + 1) = (20, 8, zN) ∧ S (a + 2) = (20, 8, zN) ∧ S (a + 3) = (20, 8, zN) ∧ S (a + 4) = (20, 4, zN) ∧ S (a + 5) = (20, 12, zN) ∧ S (a + 6) = (20, 6, zN) ∧ S (a + 7) = (20, 3, zN) ∧ S (a + 8) = (20, 8, zN) ∧ S (a + 9) = (20, 8, zN) ∧ S (a + 10) = (25, 6, zN)
theorem shl0 {S : zSh} {sz a : Nat} (h : SH S sz a) : a < sz := by have := h.1; omega
theorem shs0 {S : zSh} {sz a : Nat} (h : SH S sz a) : S a = (7, 18, shF a) := h.2.1
theorem shl1 {S : zSh} {sz a : Nat} (h : SH S sz a) : a + 1 < sz := by have := h.1; omega
theorem shs1 {S : zSh} {sz a : Nat} (h : SH S sz a) : S (a + 1) = (20, 8, zN) := h.2.2.1
theorem shl2 {S : zSh} {sz a : Nat} (h : SH S sz a) : a + 2 < sz := by have := h.1; omega
theorem shs2 {S : zSh} {sz a : Nat} (h : SH S sz a) : S (a + 2) = (20, 8, zN) := h.2.2.2.1
theorem shl3 {S : zSh} {sz a : Nat} (h : SH S sz a) : a + 3 < sz := by have := h.1; omega
theorem shs3 {S : zSh} {sz a : Nat} (h : SH S sz a) : S (a + 3) = (20, 8, zN) := h.2.2.2.2.1
theorem shl4 {S : zSh} {sz a : Nat} (h : SH S sz a) : a + 4 < sz := by have := h.1; omega
theorem shs4 {S : zSh} {sz a : Nat} (h : SH S sz a) : S (a + 4) = (20, 4, zN) := h.2.2.2.2.2.1
theorem shl5 {S : zSh} {sz a : Nat} (h : SH S sz a) : a + 5 < sz := by have := h.1; omega
theorem shs5 {S : zSh} {sz a : Nat} (h : SH S sz a) : S (a + 5) = (20, 12, zN) := h.2.2.2.2.2.2.1
theorem shl6 {S : zSh} {sz a : Nat} (h : SH S sz a) : a + 6 < sz := by have := h.1; omega
theorem shs6 {S : zSh} {sz a : Nat} (h : SH S sz a) : S (a + 6) = (20, 6, zN) := h.2.2.2.2.2.2.2.1
theorem shl7 {S : zSh} {sz a : Nat} (h : SH S sz a) : a + 7 < sz := by have := h.1; omega
theorem shs7 {S : zSh} {sz a : Nat} (h : SH S sz a) : S (a + 7) = (20, 3, zN) := h.2.2.2.2.2.2.2.2.1
theorem shl8 {S : zSh} {sz a : Nat} (h : SH S sz a) : a + 8 < sz := by have := h.1; omega
theorem shs8 {S : zSh} {sz a : Nat} (h : SH S sz a) : S (a + 8) = (20, 8, zN) := h.2.2.2.2.2.2.2.2.2.1
theorem shl9 {S : zSh} {sz a : Nat} (h : SH S sz a) : a + 9 < sz := by have := h.1; omega
theorem shs9 {S : zSh} {sz a : Nat} (h : SH S sz a) : S (a + 9) = (20, 8, zN) := h.2.2.2.2.2.2.2.2.2.2.1
theorem shl10 {S : zSh} {sz a : Nat} (h : SH S sz a) : a + 10 < sz := by have := h.1; omega
theorem shs10 {S : zSh} {sz a : Nat} (h : SH S sz a) : S (a + 10) = (25, 6, zN) := h.2.2.2.2.2.2.2.2.2.2.2
def LG (S : zSh) (sz a : Nat) : Prop := a + 3 ≤ sz ∧ S a = (2, 4, lgF a) ∧ S (a + 1) = (20, 17, zN) ∧ S (a + 2) = (20, 272, zN)
theorem lgl0 {S : zSh} {sz a : Nat} (h : LG S sz a) : a < sz := by have := h.1; omega
theorem lgs0 {S : zSh} {sz a : Nat} (h : LG S sz a) : S a = (2, 4, lgF a) := h.2.1
theorem lgl1 {S : zSh} {sz a : Nat} (h : LG S sz a) : a + 1 < sz := by have := h.1; omega
theorem lgs1 {S : zSh} {sz a : Nat} (h : LG S sz a) : S (a + 1) = (20, 17, zN) := h.2.2.1
theorem lgl2 {S : zSh} {sz a : Nat} (h : LG S sz a) : a + 2 < sz := by have := h.1; omega
theorem lgs2 {S : zSh} {sz a : Nat} (h : LG S sz a) : S (a + 2) = (20, 272, zN) := h.2.2.2
def MC (S : zSh) (sz a : Nat) : Prop := a + 2 ≤ sz ∧ S a = (3, 1, mcF a) ∧ S (a + 1) = (20, 64, zN)
theorem mcl0 {S : zSh} {sz a : Nat} (h : MC S sz a) : a < sz := by have := h.1; omega
theorem mcs0 {S : zSh} {sz a : Nat} (h : MC S sz a) : S a = (3, 1, mcF a) := h.2.1
theorem mcl1 {S : zSh} {sz a : Nat} (h : MC S sz a) : a + 1 < sz := by have := h.1; omega
theorem mcs1 {S : zSh} {sz a : Nat} (h : MC S sz a) : S (a + 1) = (20, 64, zN) := h.2.2
def TX (S : zSh) (sz a nh nc : Nat) : Prop := a + 3 ≤ sz ∧ S a = (9, 4, txF a) ∧ S (a + 1) = (20, nh, zN) ∧ S (a + 2) = (20, nc, zN)
theorem txl0 {S : zSh} {sz a : Nat} {nh nc : Nat} (h : TX S sz a nh nc) : a < sz := by have := h.1; omega
theorem txs0 {S : zSh} {sz a : Nat} {nh nc : Nat} (h : TX S sz a nh nc) : S a = (9, 4, txF a) := h.2.1
theorem txl1 {S : zSh} {sz a : Nat} {nh nc : Nat} (h : TX S sz a nh nc) : a + 1 < sz := by have := h.1; omega
theorem txs1 {S : zSh} {sz a : Nat} {nh nc : Nat} (h : TX S sz a nh nc) : S (a + 1) = (20, nh, zN) := h.2.2.1
theorem txl2 {S : zSh} {sz a : Nat} {nh nc : Nat} (h : TX S sz a nh nc) : a + 2 < sz := by have := h.1; omega
theorem txs2 {S : zSh} {sz a : Nat} {nh nc : Nat} (h : TX S sz a nh nc) : S (a + 2) = (20, nc, zN) := h.2.2.2
def wlF : Nat → Int := fun k => match k with | 0 => ((1 : Nat) : Int) | 1 => ((12 : Nat) : Int) | 2 => ((23 : Nat) : Int) | 4 => ((24 : Nat) : Int) | 5 => ((27 : Nat) : Int) | 6 => ((30 : Nat) : Int) | 7 => ((32 : Nat) : Int) | 8 => ((39 : Nat) : Int) | 9 => ((43 : Nat) : Int) | 10 => ((45 : Nat) : Int) | 11 => ((49 : Nat) : Int) | 16 => ((54 : Nat) : Int) | _ => -1
def tpF : Nat → Int := fun k => match k with | 0 => ((31 : Nat) : Int) | _ => -1
def rdF : Nat → Int := fun k => match k with | 0 => ((33 : Nat) : Int) | 1 => ((34 : Nat) : Int) | 2 => ((35 : Nat) : Int) | 9 => ((36 : Nat) : Int) | _ => -1
def jdF : Nat → Int := fun k => match k with | 0 => ((40 : Nat) : Int) | 1 => ((42 : Nat) : Int) | _ => -1
def mtF : Nat → Int := fun k => match k with | 0 => ((39 : Nat) : Int) | 1 => ((44 : Nat) : Int) | _ => -1
def bsF : Nat → Int := fun k => match k with | 0 => ((43 : Nat) : Int) | 1 => ((46 : Nat) : Int) | 2 => ((48 : Nat) : Int) | _ => -1
def ppF : Nat → Int := fun k => match k with | 0 => ((39 : Nat) : Int) | 1 => ((50 : Nat) : Int) | 2 => ((51 : Nat) : Int) | 3 => ((52 : Nat) : Int) | 4 => ((53 : Nat) : Int) | _ => -1
def mdF : Nat → Int := fun k => match k with | 1 => ((56 : Nat) : Int) | 2 => ((57 : Nat) : Int) | 3 => ((58 : Nat) : Int) | 4 => ((59 : Nat) : Int) | 5 => ((60 : Nat) : Int) | 7 => ((61 : Nat) : Int) | 11 => ((62 : Nat) : Int) | 12 => ((63 : Nat) : Int) | 15 => ((64 : Nat) : Int) | 16 => ((65 : Nat) : Int) | 17 => ((66 : Nat) : Int) | 26 => ((67 : Nat) : Int) | 29 => ((68 : Nat) : Int) | 30 => ((69 : Nat) : Int) | 31 => ((70 : Nat) : Int) | 33 => ((71 : Nat) : Int) | 34 => ((72 : Nat) : Int) | 41 => ((73 : Nat) : Int) | 42 => ((74 : Nat) : Int) | _ => -1
def lyS : Nat → Nat × Nat × (Nat → Int)
  | 0 => (10, 17, wlF)
  | 1 => (7, 18, shF 1)
  | 2 => (20, 8, zN)
  | 3 => (20, 8, zN)
  | 4 => (20, 8, zN)
  | 5 => (20, 4, zN)
  | 6 => (20, 12, zN)
  | 7 => (20, 6, zN)
  | 8 => (20, 3, zN)
  | 9 => (20, 8, zN)
  | 10 => (20, 8, zN)
  | 11 => (25, 6, zN)
  | 12 => (7, 18, shF 12)
  | 13 => (20, 8, zN)
  | 14 => (20, 8, zN)
  | 15 => (20, 8, zN)
  | 16 => (20, 4, zN)
  | 17 => (20, 12, zN)
  | 18 => (20, 6, zN)
  | 19 => (20, 3, zN)
  | 20 => (20, 8, zN)
  | 21 => (20, 8, zN)
  | 22 => (25, 6, zN)
  | 23 => (24, 2, zN)
  | 24 => (2, 4, lgF 24)
  | 25 => (20, 17, zN)
  | 26 => (20, 272, zN)
  | 27 => (2, 4, lgF 27)
  | 28 => (20, 17, zN)
  | 29 => (20, 272, zN)
  | 30 => (8, 2, tpF)
  | 31 => (20, 400, zN)
  | 32 => (6, 10, rdF)
  | 33 => (20, 401, zN)
  | 34 => (20, 401, zN)
  | 35 => (20, 401, zN)
  | 36 => (9, 4, txF 36)
  | 37 => (20, 60, zN)
  | 38 => (20, 400, zN)
  | 39 => (1, 2, jdF)
  | 40 => (3, 1, mcF 40)
  | 41 => (20, 64, zN)
  | 42 => (20, 25, zN)
  | 43 => (4, 2, mtF)
  | 44 => (20, 8, zN)
  | 45 => (0, 4, bsF)
  | 46 => (3, 1, mcF 46)
  | 47 => (20, 64, zN)
  | 48 => (20, 25, zN)
  | 49 => (5, 7, ppF)
  | 50 => (21, 1000, zN)
  | 51 => (20, 1000, zN)
  | 52 => (20, 4, zN)
  | 53 => (21, 73, zN)
  | 54 => (20, 7, zN)
  | 55 => (11, 46, mdF)
  | 56 => (20, 7, zN)
  | 57 => (20, 5687, zN)
  | 58 => (20, 11374, zN)
  | 59 => (23, 2, zN)
  | 60 => (20, 46, zN)
  | 61 => (22, 141, zN)
  | 62 => (22, 400, zN)
  | 63 => (20, 5, zN)
  | 64 => (20, 401, zN)
  | 65 => (20, 401, zN)
  | 66 => (20, 401, zN)
  | 67 => (20, 10, zN)
  | 68 => (20, 8, zN)
  | 69 => (20, 384, zN)
  | 70 => (20, 384, zN)
  | 71 => (21, 2000, zN)
  | 72 => (20, 4, zN)
  | 73 => (21, 2, zN)
  | 74 => (20, 23, zN)
  | _ => (0, 0, zN)
def LY (S : zSh) (sz : Nat) : Prop := 75 ≤ sz ∧ ∀ i, i < 75 → S i = lyS i
theorem lyl0 {S : zSh} {sz : Nat} (h : LY S sz) : 0 < sz := by have := h.1; omega
theorem lys0 {S : zSh} {sz : Nat} (h : LY S sz) : S 0 = (10, 17, wlF) := h.2 0 (by decide)
theorem lyl1 {S : zSh} {sz : Nat} (h : LY S sz) : 1 < sz := by have := h.1; omega
theorem lys1 {S : zSh} {sz : Nat} (h : LY S sz) : S 1 = (7, 18, shF 1) := h.2 1 (by decide)
theorem lyl2 {S : zSh} {sz : Nat} (h : LY S sz) : 2 < sz := by have := h.1; omega
theorem lys2 {S : zSh} {sz : Nat} (h : LY S sz) : S 2 = (20, 8, zN) := h.2 2 (by decide)
theorem lyl3 {S : zSh} {sz : Nat} (h : LY S sz) : 3 < sz := by have := h.1; omega
theorem lys3 {S : zSh} {sz : Nat} (h : LY S sz) : S 3 = (20, 8, zN) := h.2 3 (by decide)
theorem lyl4 {S : zSh} {sz : Nat} (h : LY S sz) : 4 < sz := by have := h.1; omega
theorem lys4 {S : zSh} {sz : Nat} (h : LY S sz) : S 4 = (20, 8, zN) := h.2 4 (by decide)
theorem lyl5 {S : zSh} {sz : Nat} (h : LY S sz) : 5 < sz := by have := h.1; omega
theorem lys5 {S : zSh} {sz : Nat} (h : LY S sz) : S 5 = (20, 4, zN) := h.2 5 (by decide)
theorem lyl6 {S : zSh} {sz : Nat} (h : LY S sz) : 6 < sz := by have := h.1; omega
theorem lys6 {S : zSh} {sz : Nat} (h : LY S sz) : S 6 = (20, 12, zN) := h.2 6 (by decide)
theorem lyl7 {S : zSh} {sz : Nat} (h : LY S sz) : 7 < sz := by have := h.1; omega
theorem lys7 {S : zSh} {sz : Nat} (h : LY S sz) : S 7 = (20, 6, zN) := h.2 7 (by decide)
theorem lyl8 {S : zSh} {sz : Nat} (h : LY S sz) : 8 < sz := by have := h.1; omega
theorem lys8 {S : zSh} {sz : Nat} (h : LY S sz) : S 8 = (20, 3, zN) := h.2 8 (by decide)
theorem lyl9 {S : zSh} {sz : Nat} (h : LY S sz) : 9 < sz := by have := h.1; omega
theorem lys9 {S : zSh} {sz : Nat} (h : LY S sz) : S 9 = (20, 8, zN) := h.2 9 (by decide)
theorem lyl10 {S : zSh} {sz : Nat} (h : LY S sz) : 10 < sz := by have := h.1; omega
theorem lys10 {S : zSh} {sz : Nat} (h : LY S sz) : S 10 = (20, 8, zN) := h.2 10 (by decide)
theorem lyl11 {S : zSh} {sz : Nat} (h : LY S sz) : 11 < sz := by have := h.1; omega
theorem lys11 {S : zSh} {sz : Nat} (h : LY S sz) : S 11 = (25, 6, zN) := h.2 11 (by decide)
theorem lyl12 {S : zSh} {sz : Nat} (h : LY S sz) : 12 < sz := by have := h.1; omega
theorem lys12 {S : zSh} {sz : Nat} (h : LY S sz) : S 12 = (7, 18, shF 12) := h.2 12 (by decide)
theorem lyl13 {S : zSh} {sz : Nat} (h : LY S sz) : 13 < sz := by have := h.1; omega
theorem lys13 {S : zSh} {sz : Nat} (h : LY S sz) : S 13 = (20, 8, zN) := h.2 13 (by decide)
theorem lyl14 {S : zSh} {sz : Nat} (h : LY S sz) : 14 < sz := by have := h.1; omega
theorem lys14 {S : zSh} {sz : Nat} (h : LY S sz) : S 14 = (20, 8, zN) := h.2 14 (by decide)
theorem lyl15 {S : zSh} {sz : Nat} (h : LY S sz) : 15 < sz := by have := h.1; omega
theorem lys15 {S : zSh} {sz : Nat} (h : LY S sz) : S 15 = (20, 8, zN) := h.2 15 (by decide)
theorem lyl16 {S : zSh} {sz : Nat} (h : LY S sz) : 16 < sz := by have := h.1; omega
theorem lys16 {S : zSh} {sz : Nat} (h : LY S sz) : S 16 = (20, 4, zN) := h.2 16 (by decide)
theorem lyl17 {S : zSh} {sz : Nat} (h : LY S sz) : 17 < sz := by have := h.1; omega
theorem lys17 {S : zSh} {sz : Nat} (h : LY S sz) : S 17 = (20, 12, zN) := h.2 17 (by decide)
theorem lyl18 {S : zSh} {sz : Nat} (h : LY S sz) : 18 < sz := by have := h.1; omega
theorem lys18 {S : zSh} {sz : Nat} (h : LY S sz) : S 18 = (20, 6, zN) := h.2 18 (by decide)
theorem lyl19 {S : zSh} {sz : Nat} (h : LY S sz) : 19 < sz := by have := h.1; omega
theorem lys19 {S : zSh} {sz : Nat} (h : LY S sz) : S 19 = (20, 3, zN) := h.2 19 (by decide)
theorem lyl20 {S : zSh} {sz : Nat} (h : LY S sz) : 20 < sz := by have := h.1; omega
theorem lys20 {S : zSh} {sz : Nat} (h : LY S sz) : S 20 = (20, 8, zN) := h.2 20 (by decide)
theorem lyl21 {S : zSh} {sz : Nat} (h : LY S sz) : 21 < sz := by have := h.1; omega
theorem lys21 {S : zSh} {sz : Nat} (h : LY S sz) : S 21 = (20, 8, zN) := h.2 21 (by decide)
theorem lyl22 {S : zSh} {sz : Nat} (h : LY S sz) : 22 < sz := by have := h.1; omega
theorem lys22 {S : zSh} {sz : Nat} (h : LY S sz) : S 22 = (25, 6, zN) := h.2 22 (by decide)
theorem lyl23 {S : zSh} {sz : Nat} (h : LY S sz) : 23 < sz := by have := h.1; omega
theorem lys23 {S : zSh} {sz : Nat} (h : LY S sz) : S 23 = (24, 2, zN) := h.2 23 (by decide)
theorem lyl24 {S : zSh} {sz : Nat} (h : LY S sz) : 24 < sz := by have := h.1; omega
theorem lys24 {S : zSh} {sz : Nat} (h : LY S sz) : S 24 = (2, 4, lgF 24) := h.2 24 (by decide)
theorem lyl25 {S : zSh} {sz : Nat} (h : LY S sz) : 25 < sz := by have := h.1; omega
theorem lys25 {S : zSh} {sz : Nat} (h : LY S sz) : S 25 = (20, 17, zN) := h.2 25 (by decide)
theorem lyl26 {S : zSh} {sz : Nat} (h : LY S sz) : 26 < sz := by have := h.1; omega
theorem lys26 {S : zSh} {sz : Nat} (h : LY S sz) : S 26 = (20, 272, zN) := h.2 26 (by decide)
theorem lyl27 {S : zSh} {sz : Nat} (h : LY S sz) : 27 < sz := by have := h.1; omega
theorem lys27 {S : zSh} {sz : Nat} (h : LY S sz) : S 27 = (2, 4, lgF 27) := h.2 27 (by decide)
theorem lyl28 {S : zSh} {sz : Nat} (h : LY S sz) : 28 < sz := by have := h.1; omega
theorem lys28 {S : zSh} {sz : Nat} (h : LY S sz) : S 28 = (20, 17, zN) := h.2 28 (by decide)
theorem lyl29 {S : zSh} {sz : Nat} (h : LY S sz) : 29 < sz := by have := h.1; omega
theorem lys29 {S : zSh} {sz : Nat} (h : LY S sz) : S 29 = (20, 272, zN) := h.2 29 (by decide)
theorem lyl30 {S : zSh} {sz : Nat} (h : LY S sz) : 30 < sz := by have := h.1; omega
theorem lys30 {S : zSh} {sz : Nat} (h : LY S sz) : S 30 = (8, 2, tpF) := h.2 30 (by decide)
theorem lyl31 {S : zSh} {sz : Nat} (h : LY S sz) : 31 < sz := by have := h.1; omega
theorem lys31 {S : zSh} {sz : Nat} (h : LY S sz) : S 31 = (20, 400, zN) := h.2 31 (by decide)
theorem lyl32 {S : zSh} {sz : Nat} (h : LY S sz) : 32 < sz := by have := h.1; omega
theorem lys32 {S : zSh} {sz : Nat} (h : LY S sz) : S 32 = (6, 10, rdF) := h.2 32 (by decide)
theorem lyl33 {S : zSh} {sz : Nat} (h : LY S sz) : 33 < sz := by have := h.1; omega
theorem lys33 {S : zSh} {sz : Nat} (h : LY S sz) : S 33 = (20, 401, zN) := h.2 33 (by decide)
theorem lyl34 {S : zSh} {sz : Nat} (h : LY S sz) : 34 < sz := by have := h.1; omega
theorem lys34 {S : zSh} {sz : Nat} (h : LY S sz) : S 34 = (20, 401, zN) := h.2 34 (by decide)
theorem lyl35 {S : zSh} {sz : Nat} (h : LY S sz) : 35 < sz := by have := h.1; omega
theorem lys35 {S : zSh} {sz : Nat} (h : LY S sz) : S 35 = (20, 401, zN) := h.2 35 (by decide)
theorem lyl36 {S : zSh} {sz : Nat} (h : LY S sz) : 36 < sz := by have := h.1; omega
theorem lys36 {S : zSh} {sz : Nat} (h : LY S sz) : S 36 = (9, 4, txF 36) := h.2 36 (by decide)
theorem lyl37 {S : zSh} {sz : Nat} (h : LY S sz) : 37 < sz := by have := h.1; omega
theorem lys37 {S : zSh} {sz : Nat} (h : LY S sz) : S 37 = (20, 60, zN) := h.2 37 (by decide)
theorem lyl38 {S : zSh} {sz : Nat} (h : LY S sz) : 38 < sz := by have := h.1; omega
theorem lys38 {S : zSh} {sz : Nat} (h : LY S sz) : S 38 = (20, 400, zN) := h.2 38 (by decide)
theorem lyl39 {S : zSh} {sz : Nat} (h : LY S sz) : 39 < sz := by have := h.1; omega
theorem lys39 {S : zSh} {sz : Nat} (h : LY S sz) : S 39 = (1, 2, jdF) := h.2 39 (by decide)
theorem lyl40 {S : zSh} {sz : Nat} (h : LY S sz) : 40 < sz := by have := h.1; omega
theorem lys40 {S : zSh} {sz : Nat} (h : LY S sz) : S 40 = (3, 1, mcF 40) := h.2 40 (by decide)
theorem lyl41 {S : zSh} {sz : Nat} (h : LY S sz) : 41 < sz := by have := h.1; omega
theorem lys41 {S : zSh} {sz : Nat} (h : LY S sz) : S 41 = (20, 64, zN) := h.2 41 (by decide)
theorem lyl42 {S : zSh} {sz : Nat} (h : LY S sz) : 42 < sz := by have := h.1; omega
theorem lys42 {S : zSh} {sz : Nat} (h : LY S sz) : S 42 = (20, 25, zN) := h.2 42 (by decide)
theorem lyl43 {S : zSh} {sz : Nat} (h : LY S sz) : 43 < sz := by have := h.1; omega
theorem lys43 {S : zSh} {sz : Nat} (h : LY S sz) : S 43 = (4, 2, mtF) := h.2 43 (by decide)
theorem lyl44 {S : zSh} {sz : Nat} (h : LY S sz) : 44 < sz := by have := h.1; omega
theorem lys44 {S : zSh} {sz : Nat} (h : LY S sz) : S 44 = (20, 8, zN) := h.2 44 (by decide)
theorem lyl45 {S : zSh} {sz : Nat} (h : LY S sz) : 45 < sz := by have := h.1; omega
theorem lys45 {S : zSh} {sz : Nat} (h : LY S sz) : S 45 = (0, 4, bsF) := h.2 45 (by decide)
theorem lyl46 {S : zSh} {sz : Nat} (h : LY S sz) : 46 < sz := by have := h.1; omega
theorem lys46 {S : zSh} {sz : Nat} (h : LY S sz) : S 46 = (3, 1, mcF 46) := h.2 46 (by decide)
theorem lyl47 {S : zSh} {sz : Nat} (h : LY S sz) : 47 < sz := by have := h.1; omega
theorem lys47 {S : zSh} {sz : Nat} (h : LY S sz) : S 47 = (20, 64, zN) := h.2 47 (by decide)
theorem lyl48 {S : zSh} {sz : Nat} (h : LY S sz) : 48 < sz := by have := h.1; omega
theorem lys48 {S : zSh} {sz : Nat} (h : LY S sz) : S 48 = (20, 25, zN) := h.2 48 (by decide)
theorem lyl49 {S : zSh} {sz : Nat} (h : LY S sz) : 49 < sz := by have := h.1; omega
theorem lys49 {S : zSh} {sz : Nat} (h : LY S sz) : S 49 = (5, 7, ppF) := h.2 49 (by decide)
theorem lyl50 {S : zSh} {sz : Nat} (h : LY S sz) : 50 < sz := by have := h.1; omega
theorem lys50 {S : zSh} {sz : Nat} (h : LY S sz) : S 50 = (21, 1000, zN) := h.2 50 (by decide)
theorem lyl51 {S : zSh} {sz : Nat} (h : LY S sz) : 51 < sz := by have := h.1; omega
theorem lys51 {S : zSh} {sz : Nat} (h : LY S sz) : S 51 = (20, 1000, zN) := h.2 51 (by decide)
theorem lyl52 {S : zSh} {sz : Nat} (h : LY S sz) : 52 < sz := by have := h.1; omega
theorem lys52 {S : zSh} {sz : Nat} (h : LY S sz) : S 52 = (20, 4, zN) := h.2 52 (by decide)
theorem lyl53 {S : zSh} {sz : Nat} (h : LY S sz) : 53 < sz := by have := h.1; omega
theorem lys53 {S : zSh} {sz : Nat} (h : LY S sz) : S 53 = (21, 73, zN) := h.2 53 (by decide)
theorem lyl54 {S : zSh} {sz : Nat} (h : LY S sz) : 54 < sz := by have := h.1; omega
theorem lys54 {S : zSh} {sz : Nat} (h : LY S sz) : S 54 = (20, 7, zN) := h.2 54 (by decide)
theorem lyl55 {S : zSh} {sz : Nat} (h : LY S sz) : 55 < sz := by have := h.1; omega
theorem lys55 {S : zSh} {sz : Nat} (h : LY S sz) : S 55 = (11, 46, mdF) := h.2 55 (by decide)
theorem lyl56 {S : zSh} {sz : Nat} (h : LY S sz) : 56 < sz := by have := h.1; omega
theorem lys56 {S : zSh} {sz : Nat} (h : LY S sz) : S 56 = (20, 7, zN) := h.2 56 (by decide)
theorem lyl57 {S : zSh} {sz : Nat} (h : LY S sz) : 57 < sz := by have := h.1; omega
theorem lys57 {S : zSh} {sz : Nat} (h : LY S sz) : S 57 = (20, 5687, zN) := h.2 57 (by decide)
theorem lyl58 {S : zSh} {sz : Nat} (h : LY S sz) : 58 < sz := by have := h.1; omega
theorem lys58 {S : zSh} {sz : Nat} (h : LY S sz) : S 58 = (20, 11374, zN) := h.2 58 (by decide)
theorem lyl59 {S : zSh} {sz : Nat} (h : LY S sz) : 59 < sz := by have := h.1; omega
theorem lys59 {S : zSh} {sz : Nat} (h : LY S sz) : S 59 = (23, 2, zN) := h.2 59 (by decide)
theorem lyl60 {S : zSh} {sz : Nat} (h : LY S sz) : 60 < sz := by have := h.1; omega
theorem lys60 {S : zSh} {sz : Nat} (h : LY S sz) : S 60 = (20, 46, zN) := h.2 60 (by decide)
theorem lyl61 {S : zSh} {sz : Nat} (h : LY S sz) : 61 < sz := by have := h.1; omega
theorem lys61 {S : zSh} {sz : Nat} (h : LY S sz) : S 61 = (22, 141, zN) := h.2 61 (by decide)
theorem lyl62 {S : zSh} {sz : Nat} (h : LY S sz) : 62 < sz := by have := h.1; omega
theorem lys62 {S : zSh} {sz : Nat} (h : LY S sz) : S 62 = (22, 400, zN) := h.2 62 (by decide)
theorem lyl63 {S : zSh} {sz : Nat} (h : LY S sz) : 63 < sz := by have := h.1; omega
theorem lys63 {S : zSh} {sz : Nat} (h : LY S sz) : S 63 = (20, 5, zN) := h.2 63 (by decide)
theorem lyl64 {S : zSh} {sz : Nat} (h : LY S sz) : 64 < sz := by have := h.1; omega
theorem lys64 {S : zSh} {sz : Nat} (h : LY S sz) : S 64 = (20, 401, zN) := h.2 64 (by decide)
theorem lyl65 {S : zSh} {sz : Nat} (h : LY S sz) : 65 < sz := by have := h.1; omega
theorem lys65 {S : zSh} {sz : Nat} (h : LY S sz) : S 65 = (20, 401, zN) := h.2 65 (by decide)
theorem lyl66 {S : zSh} {sz : Nat} (h : LY S sz) : 66 < sz := by have := h.1; omega
theorem lys66 {S : zSh} {sz : Nat} (h : LY S sz) : S 66 = (20, 401, zN) := h.2 66 (by decide)
theorem lyl67 {S : zSh} {sz : Nat} (h : LY S sz) : 67 < sz := by have := h.1; omega
theorem lys67 {S : zSh} {sz : Nat} (h : LY S sz) : S 67 = (20, 10, zN) := h.2 67 (by decide)
theorem lyl68 {S : zSh} {sz : Nat} (h : LY S sz) : 68 < sz := by have := h.1; omega
theorem lys68 {S : zSh} {sz : Nat} (h : LY S sz) : S 68 = (20, 8, zN) := h.2 68 (by decide)
theorem lyl69 {S : zSh} {sz : Nat} (h : LY S sz) : 69 < sz := by have := h.1; omega
theorem lys69 {S : zSh} {sz : Nat} (h : LY S sz) : S 69 = (20, 384, zN) := h.2 69 (by decide)
theorem lyl70 {S : zSh} {sz : Nat} (h : LY S sz) : 70 < sz := by have := h.1; omega
theorem lys70 {S : zSh} {sz : Nat} (h : LY S sz) : S 70 = (20, 384, zN) := h.2 70 (by decide)
theorem lyl71 {S : zSh} {sz : Nat} (h : LY S sz) : 71 < sz := by have := h.1; omega
theorem lys71 {S : zSh} {sz : Nat} (h : LY S sz) : S 71 = (21, 2000, zN) := h.2 71 (by decide)
theorem lyl72 {S : zSh} {sz : Nat} (h : LY S sz) : 72 < sz := by have := h.1; omega
theorem lys72 {S : zSh} {sz : Nat} (h : LY S sz) : S 72 = (20, 4, zN) := h.2 72 (by decide)
theorem lyl73 {S : zSh} {sz : Nat} (h : LY S sz) : 73 < sz := by have := h.1; omega
theorem lys73 {S : zSh} {sz : Nat} (h : LY S sz) : S 73 = (21, 2, zN) := h.2 73 (by decide)
theorem lyl74 {S : zSh} {sz : Nat} (h : LY S sz) : 74 < sz := by have := h.1; omega
theorem lys74 {S : zSh} {sz : Nat} (h : LY S sz) : S 74 = (20, 23, zN) := h.2 74 (by decide)
theorem ly_sh1 {S : zSh} {sz : Nat} (h : LY S sz) : SH S sz 1 := ⟨by have := h.1; omega, lys1 h, lys2 h, lys3 h, lys4 h, lys5 h, lys6 h, lys7 h, lys8 h, lys9 h, lys10 h, lys11 h⟩
theorem ly_sh12 {S : zSh} {sz : Nat} (h : LY S sz) : SH S sz 12 := ⟨by have := h.1; omega, lys12 h, lys13 h, lys14 h, lys15 h, lys16 h, lys17 h, lys18 h, lys19 h, lys20 h, lys21 h, lys22 h⟩
theorem ly_lg24 {S : zSh} {sz : Nat} (h : LY S sz) : LG S sz 24 := ⟨by have := h.1; omega, lys24 h, lys25 h, lys26 h⟩
theorem ly_lg27 {S : zSh} {sz : Nat} (h : LY S sz) : LG S sz 27 := ⟨by have := h.1; omega, lys27 h, lys28 h, lys29 h⟩
theorem ly_mc40 {S : zSh} {sz : Nat} (h : LY S sz) : MC S sz 40 := ⟨by have := h.1; omega, lys40 h, lys41 h⟩
theorem ly_mc46 {S : zSh} {sz : Nat} (h : LY S sz) : MC S sz 46 := ⟨by have := h.1; omega, lys46 h, lys47 h⟩
theorem ly_tx36 {S : zSh} {sz : Nat} (h : LY S sz) : TX S sz 36 60 400 := ⟨by have := h.1; omega, lys36 h, lys37 h, lys38 h⟩
