/-! MEMORY -/
theorem z_vn (E : zAd) (a : Nat) : z_val E (zn a) = .ref (E.1 + a) := by simp [z_val, z_rf]
theorem z_vi (E : zAd) (x : Int) : z_val E (zi x) = .int (Int32.ofInt x) := rfl
theorem z_vl (E : zAd) (x : Int) : z_val E (zl x) = .long (Int64.ofInt x) := rfl
theorem z_vnull (E : zAd) : z_val E (zr (-1)) = .null := by simp [z_val, z_rf]
theorem z_clamp {x : Int} (hx : z_i32 x) : (Int32.ofInt x).toNatClampNeg = x.toNat := by
  show (Int32.ofInt x).toInt.toNat = _
  rw [i32_to hx]
theorem z_vpin {x : Int} {n : Nat} (hx : z_i32 x) (h0 : 0 ≤ x) (h1 : x < n) : vp_in (Int32.ofInt x) n := vp_in_iff.mpr (by rw [i32_to hx]; exact ⟨h0, h1⟩)
theorem z_R_set {E : zAd} {D : va_G} {dA : Nat → ClassId} {sz : Nat} {S S' : zSh} {M M' : zMem} {H H' : Heap} {a : Nat} (hR : z_R E D dA sz S M H) (ha : a < sz) (e : va_at D vwCl (E.1 + a, z_ent E dA S' M' a) H') (hz : H'.size = H.size) (ho : ∀ q, q ≠ E.1 + a → H'[q]? = H[q]?) (hS : ∀ i, i ≠ a → S' i = S i) (hM : ∀ i, i ≠ a → M' i = M i) (hc : z_cok S' M' a) : z_R E D dA sz S' M' H' := by
  refine ⟨by rw [hz]; exact hR.1, fun k q hk => ?_, fun i hi => ?_⟩
  · have hi : k < sz := by
      have := (List.getElem?_eq_some_iff.mp hk).1
      simpa [z_ws] using this
    rw [z_ws_get hi] at hk
    cases hk
    by_cases h : k = a
    · subst h; exact e
    · rw [z_ent_row (hS k h) (hM k h)]
      exact (hR.2.1 k _ (z_ws_get hi)).kept (ho _ (by show E.1 + k ≠ E.1 + a; omega))
  · by_cases h : i = a
    · subst h; exact hc
    · have h2 := hR.2.2 i hi
      unfold z_cok z_fv at h2 ⊢
      rw [hS i h, hM i h]
      exact h2
theorem z_ent_i {E : zAd} {dA : Nat → ClassId} {S : zSh} {M : zMem} {a n kd : Nat} {f : Nat → Int} (hS : S a = (kd, n, f)) (hk : kd = 20 ∨ kd = 22 ∨ kd = 23) : z_ent E dA S M a = .inl (dA (kd - 20), n, .inl fun j => Int32.ofInt (M a j)) := by
  unfold z_ent; rw [hS]; rcases hk with rfl | rfl | rfl <;> simp
theorem z_ent_l {E : zAd} {dA : Nat → ClassId} {S : zSh} {M : zMem} {a n : Nat} {f : Nat → Int} (hS : S a = (21, n, f)) : z_ent E dA S M a = .inl (dA 1, n, .inr (.inl fun j => Int64.ofInt (M a j))) := by
  unfold z_ent; rw [hS]; simp
theorem z_ent_q {E : zAd} {dA : Nat → ClassId} {S : zSh} {M : zMem} {a n kd : Nat} {f : Nat → Int} (hS : S a = (kd, n, f)) (hk : kd = 24 ∨ kd = 25) : z_ent E dA S M a = .inl (dA (kd - 20), n, .inr (.inr (.inr (.inr fun j => z_op E (M a j))))) := by
  unfold z_ent; rw [hS]; rcases hk with rfl | rfl <;> simp
theorem z_ent_o {E : zAd} {dA : Nat → ClassId} {S : zSh} {M : zMem} {a n ci : Nat} {f : Nat → Int} (hS : S a = (ci, n, f)) (hk : ci < 20) : z_ent E dA S M a = .inr (ci, (List.range n).map fun k => z_val E (z_mk (z_ft ci k) (z_fv S M a k))) := by
  unfold z_ent; rw [hS]; simp [hk]
theorem z_up_ne {M : zMem} {a k : Nat} {x : Int} {i : Nat} (h : i ≠ a) : z_up M a k x i = M i := by
  funext j; simp [z_up, h]
theorem z_mup_ne {M : zMem} {a : Nat} {f : Nat → Int} {i : Nat} (h : i ≠ a) : z_mup M a f i = M i := by
  simp [z_mup, h]
theorem z_sup_ne {S : zSh} {a : Nat} {v : Nat × Nat × (Nat → Int)} {i : Nat} (h : i ≠ a) : z_sup S a v i = S i := by
  simp [z_sup, h]
def z_CF (ci : Nat) (C : String) (T : u_T) (N : Nat) : Prop := vwCl[ci]? = some (C, T, N) ∧ ci < 20 ∧ (∀ w ∈ u_ws C T N, w ∈ z_tb) ∧ (∀ k, k < N → parseFieldDescriptor (T k).2.2.1 = some (z_tyOf ci k)) ∧ (∀ a, a < N → ∀ b, b < N → a ≠ b → (T a).2.1 ≠ (T b).2.1)
def z_Fd (t : Nat) (own : String) (idx ci k : Nat) : Prop := ∃ (C : String) (T : u_T) (N : Nat), z_CF ci C T N ∧ k < N ∧ (Cond.fieldLink own idx (T k).1 (T k).2.1 (T k).2.2.1 ∈ z_tb ∨ ∃ host, Cond.fieldLinkNest own idx (T k).1 (T k).2.1 (T k).2.2.1 host ∈ z_nest) ∧ z_ft ci k = t ∧ (t = 0 → z_tyOf ci k = .int) ∧ (t = 3 → z_tyOf ci k = .boolean) ∧ (t = 2 → ∃ n, z_tyOf ci k = .object n) ∧ (t ≠ 4 → (T k).2.2.2 = false)
def z_FF (own : String) (idx ci k : Nat) : Prop := ∃ (C : String) (T : u_T) (N : Nat), z_CF ci C T N ∧ k < N ∧ Cond.fieldLink own idx (T k).1 (T k).2.1 (T k).2.2.1 ∈ z_tb ∧ z_ft ci k = 4 ∧ (T k).2.2.2 = true ∧ (T k).1 = own ∧ ((∃ n, z_tyOf ci k = .object n) ∨ ∃ n, z_tyOf ci k = .array n)
section ZM
variable {mt : zMt} {d kc ks : Nat} {sc : List Int} {Q : zQ} {pc : Nat} {ls : zLs} {st : List zV} {sz : Nat} {S : zSh} {M : zMem} {x y : Int} {a n : Nat} {f : Nat → Int}
theorem z_get {t idx ci k : Nat} (pc' : Nat) (hp : pc + 3 = pc') (hl : z_Fd t mt.1.cls idx ci k) (hdg : decode mt.2.1 pc = .ok (.getfield idx, 3)) (ha : a < sz) (hS : S a = (ci, n, f)) (hk : k < n) (kk : zW mt d kc ks sc Q pc' ls (z_mk t (z_fv S M a k) :: st) sz S M) : zW mt d kc ks sc Q pc ls (zn a :: st) sz S M := by
  subst hp
  intro E D dA p l e R s m args below meth c QQ hE H locs cells slots lr hR hS0 hc hs ho hL
  obtain ⟨C, T, N, hcf, hkN, hlk, hft, -⟩ := hl
  have hg := z_ws_get (E := E) (dA := dA) (S := S) (M := M) ha
  rw [z_ent_o hS hcf.2.1] at hg
  have hok : z_ok (z_mk (z_ft ci k) (z_fv S M a k)) := by
    have := (hR.2.2 a ha k (by rw [hS]; exact hk)).1
    rw [hS] at this
    exact this hcf.2.1
  have h2 := kk E D dA p l e R s m args below meth c QQ hE H locs cells slots lr hR hS0 hc hs (z_oks1 (v := z_mk t (z_fv S M a k)) (by rw [← hft]; exact hok) (fun u hu => ho u (by simp [hu]))) hL
  have hv : ((List.range n).map fun k => z_val E (z_mk (z_ft ci k) (z_fv S M a k)))[k]? = some (z_val E (z_mk t (z_fv S M a k))) := by simp [hk, hft]
  simp only [List.map_cons, z_vn] at h2 ⊢
  rcases hlk with hlk | ⟨host, hlk⟩
  · exact va_get hE.1 hE.2.1 hE.2.2.2.2.1 hcf.2.2.1 hE.2.2.2.1 hE.2.2.2.2.2.2.2.2.2.1.1 hR.2.1 a hg hcf.1 k hkN (hE.2.2.2.2.1 _ hlk) (fun _ h => h) hv hdg h2
  · exact va_getN hE.1 hE.2.1 hE.2.2.2.2.1 hcf.2.2.1 hE.2.2.2.1 hE.2.2.2.2.2.2.2.2.2.1.1 hR.2.1 a hg hcf.1 k hkN (va_Nw.use rfl (hE.2.2.2.2.2.2.2.2.2.1.2.1 _ hlk)) (fun _ h => h) hv hdg h2
theorem z_fv_not {ci k : Nat} (hS : S a = (ci, n, f)) (h : z_ft ci k ≠ 4) : z_fv S M a k = M a k := by
  unfold z_fv; rw [hS]; simp [h]
theorem z_fv_fin {ci k : Nat} (hS : S a = (ci, n, f)) (h : z_ft ci k = 4) : z_fv S M a k = f k := by
  unfold z_fv; rw [hS]; simp [h]
theorem x_geti {idx ci k : Nat} (pc' : Nat) (hp : pc + 3 = pc') (hl : z_Fd 0 mt.1.cls idx ci k) (hdg : decode mt.2.1 pc = .ok (.getfield idx, 3)) (ha : a < sz) (hS : S a = (ci, n, f)) (hk : k < n) (kk : zW mt d kc ks sc Q pc' ls (zi (M a k) :: st) sz S M) : zW mt d kc ks sc Q pc ls (zn a :: st) sz S M := by
  refine z_get pc' hp hl hdg ha hS hk ?_
  rw [z_fv_not hS (by obtain ⟨C, T, N, -, -, -, h, -⟩ := hl; omega)]
  exact kk
theorem x_getz {idx ci k : Nat} (pc' : Nat) (hp : pc + 3 = pc') (hl : z_Fd 3 mt.1.cls idx ci k) (hdg : decode mt.2.1 pc = .ok (.getfield idx, 3)) (ha : a < sz) (hS : S a = (ci, n, f)) (hk : k < n) (kk : zW mt d kc ks sc Q pc' ls (zi (M a k) :: st) sz S M) : zW mt d kc ks sc Q pc ls (zn a :: st) sz S M := by
  refine z_get pc' hp hl hdg ha hS hk ?_
  rw [z_fv_not hS (by obtain ⟨C, T, N, -, -, -, h, -⟩ := hl; omega)]
  exact kk
theorem x_getm {idx ci k : Nat} (pc' : Nat) (hp : pc + 3 = pc') (hl : z_Fd 2 mt.1.cls idx ci k) (hdg : decode mt.2.1 pc = .ok (.getfield idx, 3)) (ha : a < sz) (hS : S a = (ci, n, f)) (hk : k < n) (kk : zW mt d kc ks sc Q pc' ls (zr (M a k) :: st) sz S M) : zW mt d kc ks sc Q pc ls (zn a :: st) sz S M := by
  refine z_get pc' hp hl hdg ha hS hk ?_
  rw [z_fv_not hS (by obtain ⟨C, T, N, -, -, -, h, -⟩ := hl; omega)]
  exact kk
theorem x_getr {idx ci k : Nat} (pc' : Nat) (hp : pc + 3 = pc') (hl : z_Fd 4 mt.1.cls idx ci k) (hdg : decode mt.2.1 pc = .ok (.getfield idx, 3)) (ha : a < sz) (hS : S a = (ci, n, f)) (hk : k < n) (b : Nat) (hf : f k = (b : Int)) (kk : zW mt d kc ks sc Q pc' ls (zn b :: st) sz S M) : zW mt d kc ks sc Q pc ls (zn a :: st) sz S M := by
  refine z_get pc' hp hl hdg ha hS hk ?_
  rw [z_fv_fin hS (by obtain ⟨C, T, N, -, -, -, h, -⟩ := hl; omega), hf]
  exact kk
/-- a field is written: the object's cell, by its fields -/
theorem z_put_at {E : zAd} {D : va_G} {dA : Nat → ClassId} {S' : zSh} {M' : zMem} {H' : Heap} {C : String} {T : u_T} {N ci k : Nat} {cell : Cell} {v : Value} (hcf : z_CF ci C T N) (hS : S a = (ci, n, f)) (hS' : S' a = (ci, n, f) ∨ ∃ g, S' a = (ci, n, g)) (hap : ∀ a b, a < N → b < N → a ≠ b → D.2 ci a ≠ D.2 ci b) (hk : k < N) (hkn : k < n) (q2 : cell.cls = D.1 ci) (q3 : cell.vm = .none) (q4 : ∀ k, k < N → cell.slots[D.2 ci k]? = some (vp_V ((List.range n).map fun k => z_val E (z_mk (z_ft ci k) (z_fv S M a k))) k)) (e1 : H'[E.1 + a]? = some (cell.setSlot (D.2 ci k) v)) (hv : z_val E (z_mk (z_ft ci k) (z_fv S' M' a k)) = v) (hM : ∀ j, j ≠ k → z_fv S' M' a j = z_fv S M a j) : va_at D vwCl (E.1 + a, z_ent E dA S' M' a) H' := by
  have hS2 : ∃ g, S' a = (ci, n, g) := by
    rcases hS' with h | h
    · exact ⟨_, h⟩
    · exact h
  obtain ⟨g, hS2⟩ := hS2
  rw [z_ent_o hS2 hcf.2.1]
  refine ⟨_, hcf.1, t_OB.to (V := updV (vp_V ((List.range n).map fun k => z_val E (z_mk (z_ft ci k) (z_fv S M a k)))) k v) ⟨_, e1, q2, q3, t_set q4 hap hk v⟩ (fun j _ => ?_)⟩
  rw [vp_updV_set (by simpa using hkn)]
  unfold vp_V
  congr 1
  apply List.ext_getElem?
  intro i
  rw [List.getElem?_set]
  by_cases hi : i < n
  · by_cases h : k = i
    · subst h; simp [hi, hv]
    · simp [h, hi, hM i (fun e => h e.symm)]
  · by_cases h : k = i
    · subst h; omega
    · simp [h, hi]
theorem z_cok_up {ci k : Nat} (hS : S a = (ci, n, f)) (h20 : ci < 20) (hc : z_cok S M a) (hv : z_ok (z_mk (z_ft ci k) x)) (hft : z_ft ci k ≠ 4) : z_cok S (z_up M a k x) a := by
  intro j hj
  have h := (hc j hj).1
  rw [hS] at h hj ⊢
  refine ⟨fun _ => ?_, fun h => by omega, fun h => by omega, fun h => by omega, fun h => by omega, fun h => by omega⟩
  by_cases e : j = k
  · subst e
    rw [z_fv_not hS hft]
    simpa [z_up] using hv
  · have h2 := h h20
    unfold z_fv at h2 ⊢
    simpa [z_up, e] using h2
theorem z_put {t idx ci k : Nat} (pc' : Nat) (hp : pc + 3 = pc') (hl : z_Fd t mt.1.cls idx ci k) (hdg : decode mt.2.1 pc = .ok (.putfield idx, 3)) (ha : a < sz) (hS : S a = (ci, n, f)) (hk : k < n) (ht4 : t ≠ 4) (hnar : ∀ E, narrow (z_tyOf ci k) (z_val E (z_mk t x)) = z_val E (z_mk t x)) (hfit : ∀ E, fits (z_tyOf ci k) (z_val E (z_mk t x)) = true) (kk : zW mt d kc ks sc Q pc' ls st sz S (z_up M a k x)) : zW mt d kc ks sc Q pc ls (z_mk t x :: zn a :: st) sz S M := by
  subst hp
  intro E D dA p l e R s m args below meth c QQ hE H locs cells slots lr hR hS0 hc hs ho hL
  obtain ⟨C, T, N, hcf, hkN, hlk, hft, -, -, -, hfin⟩ := hl
  have hfin := hfin ht4
  have hg := z_ws_get (E := E) (dA := dA) (S := S) (M := M) ha
  rw [z_ent_o hS hcf.2.1] at hg
  have hK := hE.2.2.2.2.2.2.2.2.2.1.1
  have hts := hE.2.2.2.2.1
  have hap := va_apart (own := mt.1.cls) hts hcf.2.2.1 (z_tyOf ci) hcf.2.2.2.1 hcf.2.2.2.2 hK hcf.1
  obtain ⟨r, h1, cell, q1, q2, q3, q4⟩ := hR.2.1 a _ hg
  have hr : r = (C, T, N) := Option.some.inj (h1.symm.trans hcf.1)
  subst hr
  obtain ⟨hSl, hfc, kC, hkC, hkind⟩ := hK.1 ci _ hcf.1
  obtain ⟨cf, kf, fi, fd, hi, hsl⟩ := hSl k hkN
  have hlay := hts _ (hcf.2.2.1 _ (u_in_lay hkN))
  unfold u_lay at hlay
  rw [if_neg (by rw [hfin]; decide)] at hlay
  have hst := (u_facts hfc hkC (u_lays hts hcf.2.2.1 hkN) hi).1
  have h6 := u_store hfc hkC hkind hlay hi (hcf.2.2.2.1 k hkN) (hnar E) (hfit E)
  have fin : ∀ H' : Heap, H'[E.1 + a]? = some (cell.setSlot fd.slot (z_val E (z_mk t x))) → H'.size = H.size → (∀ q, q ≠ E.1 + a → H'[q]? = H[q]?) → W p l e R s m args below meth c H' (locs ++ [⟨E.1 + a, fd.slot⟩]) cells slots QQ (F0 m (pc + 3) lr (st.map (z_val E))) := by
    intro H' e1 e2 e3
    rw [hsl] at e1
    refine kk E D dA p l e R s m args below meth c QQ hE H' _ cells slots lr (z_R_set hR ha ?_ e2 e3 (fun _ _ => rfl) (fun i hi => z_up_ne hi) ?_) (hS0.put e2 e3 (Nat.le_add_right _ _)) hc hs (fun u hu => ho u (by simp [hu])) hL
    · refine z_put_at hcf hS (Or.inl hS) hap hkN hk q2 q3 q4 e1 ?_ (fun j hj => ?_)
      · rw [hft, z_fv_not hS (by omega)]; simp [z_up]
      · unfold z_fv; simp [z_up, hj]
    · refine z_cok_up hS hcf.2.1 (hR.2.2 a ha) ?_ (by omega)
      rw [hft]
      exact ho _ (by simp)
  simp only [List.map_cons, z_vn]
  rcases hlk with hlk | ⟨host, hlk⟩
  · exact W.putK hE.1 hE.2.1 (f := fd) ⟨hE.2.2.2.1, hts _ hlk, ⟨_, _, _, hi⟩, hst⟩ (by rw [q2]; exact h6) q1 q3 (by rw [hsl]; exact k2_hasslot (q4 k hkN)) rfl rfl hdg fin
  · exact va_WputK hE.1 hE.2.1 (f := fd) hE.2.2.2.1 (va_Nw.use rfl (hE.2.2.2.2.2.2.2.2.2.1.2.1 _ hlk)) hi hst (by rw [q2]; exact h6) q1 q3 (by rw [hsl]; exact k2_hasslot (q4 k hkN)) rfl rfl hdg fin
theorem x_puti {idx ci k : Nat} (pc' : Nat) (hp : pc + 3 = pc') (hl : z_Fd 0 mt.1.cls idx ci k) (hdg : decode mt.2.1 pc = .ok (.putfield idx, 3)) (ha : a < sz) (hS : S a = (ci, n, f)) (hk : k < n) (kk : zW mt d kc ks sc Q pc' ls st sz S (z_up M a k x)) : zW mt d kc ks sc Q pc ls (zi x :: zn a :: st) sz S M := by
  have hty : z_tyOf ci k = .int := by obtain ⟨C, T, N, -, -, -, -, h, -⟩ := hl; exact h rfl
  exact z_put (t := 0) pc' hp hl hdg ha hS hk (by decide) (fun E => by rw [hty]; rfl) (fun E => by rw [hty]; rfl) kk
theorem z_bool {x : Int} (h : x = 0 ∨ x = 1) (E : zAd) : narrow .boolean (z_val E (z_mk 3 x)) = z_val E (z_mk 3 x) ∧ fits .boolean (z_val E (z_mk 3 x)) = true := by
  rcases h with rfl | rfl <;> exact ⟨rfl, rfl⟩
theorem x_putz {idx ci k : Nat} (pc' : Nat) (hp : pc + 3 = pc') (hl : z_Fd 3 mt.1.cls idx ci k) (hdg : decode mt.2.1 pc = .ok (.putfield idx, 3)) (ha : a < sz) (hS : S a = (ci, n, f)) (hk : k < n) (h01 : x = 0 ∨ x = 1) (kk : zW mt d kc ks sc Q pc' ls st sz S (z_up M a k x)) : zW mt d kc ks sc Q pc ls (zi x :: zn a :: st) sz S M := by
  have hty : z_tyOf ci k = .boolean := by obtain ⟨C, T, N, -, -, -, -, -, h, -⟩ := hl; exact h rfl
  exact z_put (t := 3) pc' hp hl hdg ha hS hk (by decide) (fun E => by rw [hty]; exact (z_bool h01 E).1) (fun E => by rw [hty]; exact (z_bool h01 E).2) kk
theorem x_putm {idx ci k : Nat} (pc' : Nat) (hp : pc + 3 = pc') (hl : z_Fd 2 mt.1.cls idx ci k) (hdg : decode mt.2.1 pc = .ok (.putfield idx, 3)) (ha : a < sz) (hS : S a = (ci, n, f)) (hk : k < n) (kk : zW mt d kc ks sc Q pc' ls st sz S (z_up M a k x)) : zW mt d kc ks sc Q pc ls (zr x :: zn a :: st) sz S M := by
  obtain ⟨nm, hty⟩ : ∃ nm, z_tyOf ci k = .object nm := by obtain ⟨C, T, N, -, -, -, -, -, -, h, -⟩ := hl; exact h rfl
  refine z_put (t := 2) pc' hp hl hdg ha hS hk (by decide) (fun E => ?_) (fun E => ?_) kk
  · rw [hty]; show narrow _ (z_rf E x) = z_rf E x; rcases z_rfc E x with he | ⟨b, he⟩ <;> rw [he] <;> rfl
  · rw [hty]; show fits _ (z_rf E x) = true; rcases z_rfc E x with he | ⟨b, he⟩ <;> rw [he] <;> rfl
end ZM
