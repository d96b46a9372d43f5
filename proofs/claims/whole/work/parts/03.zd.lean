/-! ARRAYS, FINAL FIELDS, WHAT IS MADE -/
theorem z_rfop {E : zAd} {x : Int} (h : -1 ≤ x) : va_rf (z_op E x) = z_rf E x := by
  unfold z_op z_rf
  by_cases h0 : 0 ≤ x
  · simp [h0, va_rf]
  · have : x = -1 := by omega
    subst this
    simp [va_rf]
section ZA
variable {mt : zMt} {d kc ks : Nat} {sc : List Int} {Q : zQ} {pc : Nat} {ls : zLs} {st : List zV} {sz : Nat} {S : zSh} {M : zMem} {x y : Int} {a n : Nat} {f : Nat → Int}
theorem x_iald (pc' : Nat) (hp : pc + 1 = pc') (hdg : decode mt.2.1 pc = .ok (.iaload, 1)) (ha : a < sz) (hS : S a = (20, n, f)) (h0 : 0 ≤ x) (h1 : x < n) (kk : zW mt d kc ks sc Q pc' ls (zi (M a x.toNat) :: st) sz S M) : zW mt d kc ks sc Q pc ls (zi x :: zn a :: st) sz S M := by
  subst hp
  intro E D dA p l e R s m args below meth c QQ hE H locs cells slots lr hR hS0 hc hs ho hL
  have hK := hE.2.2.2.2.2.2.2.2.2.1.1
  have hx : z_i32 x := ho (zi x) (by simp)
  have hg := z_ws_get (E := E) (dA := dA) (S := S) (M := M) ha
  rw [z_ent_i hS (Or.inl rfl)] at hg
  have h5 := hR.2.2 a ha x.toNat (by rw [hS]; show x.toNat < n; omega)
  rw [hS] at h5
  have h2 := kk E D dA p l e R s m args below meth c QQ hE H locs cells slots lr hR hS0 hc hs (z_oks1 (v := zi (M a x.toNat)) (h5.2.1 rfl) (fun u hu => ho u (by simp [hu]))) hL
  simp only [List.map_cons, z_vn] at h2 ⊢
  refine va_iald hE.1 hE.2.1 hK hR.2.1 a 0 hg rfl (z_vpin hx h0 h1) hdg ?_
  rw [z_clamp hx]
  exact h2
theorem x_bald (pc' : Nat) (hp : pc + 1 = pc') (hdg : decode mt.2.1 pc = .ok (.baload, 1)) (ha : a < sz) (hS : S a = (22, n, f)) (h0 : 0 ≤ x) (h1 : x < n) (kk : zW mt d kc ks sc Q pc' ls (zi (M a x.toNat) :: st) sz S M) : zW mt d kc ks sc Q pc ls (zi x :: zn a :: st) sz S M := by
  subst hp
  intro E D dA p l e R s m args below meth c QQ hE H locs cells slots lr hR hS0 hc hs ho hL
  have hK := hE.2.2.2.2.2.2.2.2.2.1.1
  have hx : z_i32 x := ho (zi x) (by simp)
  have hg := z_ws_get (E := E) (dA := dA) (S := S) (M := M) ha
  rw [z_ent_i hS (Or.inr (Or.inl rfl))] at hg
  have h5 := hR.2.2 a ha x.toNat (by rw [hS]; show x.toNat < n; omega)
  rw [hS] at h5
  have h2 := kk E D dA p l e R s m args below meth c QQ hE H locs cells slots lr hR hS0 hc hs (z_oks1 (v := zi (M a x.toNat)) (by have := h5.2.2.2.1 rfl; show z_i32 _; unfold z_i32; omega) (fun u hu => ho u (by simp [hu]))) hL
  simp only [List.map_cons, z_vn] at h2 ⊢
  refine va_bald hE.1 hE.2.1 hK hR.2.1 a 2 hg rfl (z_vpin hx h0 h1) hdg ?_
  rw [z_clamp hx]
  exact h2
theorem x_zald (pc' : Nat) (hp : pc + 1 = pc') (hdg : decode mt.2.1 pc = .ok (.baload, 1)) (ha : a < sz) (hS : S a = (23, n, f)) (h0 : 0 ≤ x) (h1 : x < n) (kk : zW mt d kc ks sc Q pc' ls (zi (M a x.toNat) :: st) sz S M) : zW mt d kc ks sc Q pc ls (zi x :: zn a :: st) sz S M := by
  subst hp
  intro E D dA p l e R s m args below meth c QQ hE H locs cells slots lr hR hS0 hc hs ho hL
  have hK := hE.2.2.2.2.2.2.2.2.2.1.1
  have hx : z_i32 x := ho (zi x) (by simp)
  have hg := z_ws_get (E := E) (dA := dA) (S := S) (M := M) ha
  rw [z_ent_i hS (Or.inr (Or.inr rfl))] at hg
  have h5 := hR.2.2 a ha x.toNat (by rw [hS]; show x.toNat < n; omega)
  rw [hS] at h5
  have h2 := kk E D dA p l e R s m args below meth c QQ hE H locs cells slots lr hR hS0 hc hs (z_oks1 (v := zi (M a x.toNat)) (by have := h5.2.2.2.2.1 rfl; show z_i32 _; unfold z_i32; omega) (fun u hu => ho u (by simp [hu]))) hL
  simp only [List.map_cons, z_vn] at h2 ⊢
  refine va_zald hE.1 hE.2.1 hK hR.2.1 a 3 hg rfl (z_vpin hx h0 h1) hdg ?_
  rw [z_clamp hx]
  exact h2
theorem x_lald (pc' : Nat) (hp : pc + 1 = pc') (hdg : decode mt.2.1 pc = .ok (.laload, 1)) (ha : a < sz) (hS : S a = (21, n, f)) (h0 : 0 ≤ x) (h1 : x < n) (kk : zW mt d kc ks sc Q pc' ls (zl (M a x.toNat) :: st) sz S M) : zW mt d kc ks sc Q pc ls (zi x :: zn a :: st) sz S M := by
  subst hp
  intro E D dA p l e R s m args below meth c QQ hE H locs cells slots lr hR hS0 hc hs ho hL
  have hK := hE.2.2.2.2.2.2.2.2.2.1.1
  have hx : z_i32 x := ho (zi x) (by simp)
  have hg := z_ws_get (E := E) (dA := dA) (S := S) (M := M) ha
  rw [z_ent_l hS] at hg
  have h5 := hR.2.2 a ha x.toNat (by rw [hS]; show x.toNat < n; omega)
  rw [hS] at h5
  have h2 := kk E D dA p l e R s m args below meth c QQ hE H locs cells slots lr hR hS0 hc hs (z_oks1 (v := zl (M a x.toNat)) (h5.2.2.1 rfl) (fun u hu => ho u (by simp [hu]))) hL
  simp only [List.map_cons, z_vn] at h2 ⊢
  refine va_lald hE.1 hE.2.1 hK hR.2.1 a 1 hg rfl (z_vpin hx h0 h1) hdg ?_
  rw [z_clamp hx]
  exact h2
theorem x_aald {kd : Nat} (hkd : kd = 24 ∨ kd = 25) (pc' : Nat) (hp : pc + 1 = pc') (hdg : decode mt.2.1 pc = .ok (.aaload, 1)) (ha : a < sz) (hS : S a = (kd, n, f)) (h0 : 0 ≤ x) (h1 : x < n) (kk : zW mt d kc ks sc Q pc' ls (zr (M a x.toNat) :: st) sz S M) : zW mt d kc ks sc Q pc ls (zi x :: zn a :: st) sz S M := by
  subst hp
  intro E D dA p l e R s m args below meth c QQ hE H locs cells slots lr hR hS0 hc hs ho hL
  have hK := hE.2.2.2.2.2.2.2.2.2.1.1
  have hx : z_i32 x := ho (zi x) (by simp)
  have hg := z_ws_get (E := E) (dA := dA) (S := S) (M := M) ha
  rw [z_ent_q hS hkd] at hg
  have h5 := hR.2.2 a ha x.toNat (by rw [hS]; show x.toNat < n; omega)
  rw [hS] at h5
  have h6 : -1 ≤ M a x.toNat := h5.2.2.2.2.2 (by show 24 ≤ kd; omega)
  have h2 := kk E D dA p l e R s m args below meth c QQ hE H locs cells slots lr hR hS0 hc hs (z_oks1 (v := zr (M a x.toNat)) trivial (fun u hu => ho u (by simp [hu]))) hL
  simp only [List.map_cons, z_vn] at h2 ⊢
  have h3 : z_val E (zr (M a x.toNat)) = va_rf (z_op E (M a x.toNat)) := (z_rfop h6).symm
  rw [h3] at h2
  rcases hkd with rfl | rfl
  · refine va_aldq hE.1 hE.2.1 hK hR.2.1 a 4 hg rfl (z_vpin hx h0 h1) hdg ?_
    rw [z_clamp hx]
    exact h2
  · refine va_aldq hE.1 hE.2.1 hK hR.2.1 a 5 hg rfl (z_vpin hx h0 h1) hdg ?_
    rw [z_clamp hx]
    exact h2
theorem x_alen {kd t : Nat} (pc' : Nat) (hp : pc + 1 = pc') (hdg : decode mt.2.1 pc = .ok (.arraylength, 1)) (ha : a < sz) (hS : S a = (kd, n, f)) (hkd : kd = 20 ∨ kd = 22) (hn : n < 2147483648) (kk : zW mt d kc ks sc Q pc' ls (zi n :: st) sz S M) : zW mt d kc ks sc Q pc ls (zn a :: st) sz S M := by
  subst hp
  intro E D dA p l e R s m args below meth c QQ hE H locs cells slots lr hR hS0 hc hs ho hL
  have hK := hE.2.2.2.2.2.2.2.2.2.1.1
  have hg := z_ws_get (E := E) (dA := dA) (S := S) (M := M) ha
  rw [z_ent_i hS (by omega)] at hg
  have h2 := kk E D dA p l e R s m args below meth c QQ hE H locs cells slots lr hR hS0 hc hs (z_oks1 (v := zi n) (by show z_i32 _; unfold z_i32; omega) (fun u hu => ho u (by simp [hu]))) hL
  simp only [List.map_cons, z_vn] at h2 ⊢
  rcases hkd with rfl | rfl
  · exact va_alen hE.1 hE.2.1 hK hR.2.1 a 0 hg (ty := .int) rfl rfl hdg h2
  · exact va_alen hE.1 hE.2.1 hK hR.2.1 a 2 hg (ty := .byte) rfl rfl hdg h2
theorem z_cok_arr {kd : Nat} {i : Nat} (hS : S a = (kd, n, f)) (hkd : 20 ≤ kd) (hc : z_cok S M a) (hv : (kd = 20 → z_i32 x) ∧ (kd = 21 → z_i64 x) ∧ (kd = 22 → -128 ≤ x ∧ x ≤ 127) ∧ (kd = 23 → 0 ≤ x ∧ x ≤ 1) ∧ (24 ≤ kd → -1 ≤ x)) : z_cok S (z_up M a i x) a := by
  intro j hj
  have h := hc j hj
  rw [hS] at h hj ⊢
  refine ⟨fun h => by simp at h; omega, fun e => ?_, fun e => ?_, fun e => ?_, fun e => ?_, fun e => ?_⟩ <;> by_cases q : j = i
  · subst q; simpa [z_up] using hv.1 e
  · simpa [z_up, q] using h.2.1 e
  · subst q; simpa [z_up] using hv.2.1 e
  · simpa [z_up, q] using h.2.2.1 e
  · subst q; simpa [z_up] using hv.2.2.1 e
  · simpa [z_up, q] using h.2.2.2.1 e
  · subst q; simpa [z_up] using hv.2.2.2.1 e
  · simpa [z_up, q] using h.2.2.2.2.1 e
  · subst q; simpa [z_up] using hv.2.2.2.2 e
  · simpa [z_up, q] using h.2.2.2.2.2 e
theorem x_iast (pc' : Nat) (hp : pc + 1 = pc') (hdg : decode mt.2.1 pc = .ok (.iastore, 1)) (ha : a < sz) (hS : S a = (20, n, f)) (h0 : 0 ≤ x) (h1 : x < n) (kk : zW mt d kc ks sc Q pc' ls st sz S (z_up M a x.toNat (y))) : zW mt d kc ks sc Q pc ls (zi y :: zi x :: zn a :: st) sz S M := by
  subst hp
  intro E D dA p l e R s m args below meth c QQ hE H locs cells slots lr hR hS0 hc hs ho hL
  have hK := hE.2.2.2.2.2.2.2.2.2.1.1
  have hx : z_i32 x := ho (zi x) (by simp)
  have hy : z_i32 y := ho (zi y) (by simp)
  have hg := z_ws_get (E := E) (dA := dA) (S := S) (M := M) ha
  rw [z_ent_i hS (Or.inl rfl)] at hg
  have hin := z_vpin hx h0 h1
  simp only [List.map_cons, z_vn]
  refine W.iast hE.1 hE.2.1 (hR.2.1 a _ hg) ((hK.2 0 _ rfl).1 n (fun j => .int (Int32.ofInt (M a j)))) (fun q => by cases q) (by show ¬ (_ ∨ (arrV _ _ _).slots.size ≤ _); rw [arrV_size]; exact hin) rfl rfl hdg fun H1 e1 z oq => ?_
  refine kk E D dA p l e R s m args below meth c QQ hE H1 _ cells slots lr (z_R_set hR ha ?_ z oq (fun _ _ => rfl) (fun i hi => z_up_ne hi) (z_cok_arr hS (by decide) (hR.2.2 a ha) ⟨fun _ => hy, by omega, by omega, by omega, by omega⟩)) (hS0.put z oq (Nat.le_add_right _ _)) hc hs (fun u hu => ho u (by simp [hu])) hL
  rw [z_ent_i hS (Or.inl rfl)]
  show H1[E.1 + a]? = some (vp_cell _ _)
  rw [e1]
  rw [vp_cell_i, vp_cell_i, arrV_store, z_clamp hx]
  congr 2
  funext q
  by_cases hq : q = x.toNat
  · subst hq
    simp only [updV, z_up, if_true, true_and]
    try rfl
  · simp [updV, z_up, hq]
theorem x_bast (pc' : Nat) (hp : pc + 1 = pc') (hdg : decode mt.2.1 pc = .ok (.bastore, 1)) (ha : a < sz) (hS : S a = (22, n, f)) (h0 : 0 ≤ x) (h1 : x < n) (kk : zW mt d kc ks sc Q pc' ls st sz S (z_up M a x.toNat (w8 y))) : zW mt d kc ks sc Q pc ls (zi y :: zi x :: zn a :: st) sz S M := by
  subst hp
  intro E D dA p l e R s m args below meth c QQ hE H locs cells slots lr hR hS0 hc hs ho hL
  have hK := hE.2.2.2.2.2.2.2.2.2.1.1
  have hx : z_i32 x := ho (zi x) (by simp)
  have hy : z_i32 y := ho (zi y) (by simp)
  have hg := z_ws_get (E := E) (dA := dA) (S := S) (M := M) ha
  rw [z_ent_i hS (Or.inr (Or.inl rfl))] at hg
  have hin := z_vpin hx h0 h1
  simp only [List.map_cons, z_vn]
  refine W.bast hE.1 hE.2.1 (hR.2.1 a _ hg) ((hK.2 2 _ rfl).1 n (fun j => .int (Int32.ofInt (M a j)))) (fun q => by cases q) (by show ¬ (_ ∨ (arrV _ _ _).slots.size ≤ _); rw [arrV_size]; exact hin) rfl rfl hdg fun H1 e1 z oq => ?_
  refine kk E D dA p l e R s m args below meth c QQ hE H1 _ cells slots lr (z_R_set hR ha ?_ z oq (fun _ _ => rfl) (fun i hi => z_up_ne hi) (z_cok_arr hS (by decide) (hR.2.2 a ha) ⟨by omega, by omega, fun _ => by unfold w8; omega, by omega, by omega⟩)) (hS0.put z oq (Nat.le_add_right _ _)) hc hs (fun u hu => ho u (by simp [hu])) hL
  rw [z_ent_i hS (Or.inr (Or.inl rfl))]
  show H1[E.1 + a]? = some (vp_cell _ _)
  rw [e1]
  rw [vp_cell_i, vp_cell_i, arrV_store, z_clamp hx]
  congr 2
  funext q
  by_cases hq : q = x.toNat
  · subst hq
    simp only [updV, z_up, if_true, true_and]
    exact (congrArg Value.int (z_e_i2b hy))
  · simp [updV, z_up, hq]
theorem x_zast (pc' : Nat) (hp : pc + 1 = pc') (hdg : decode mt.2.1 pc = .ok (.bastore, 1)) (ha : a < sz) (hS : S a = (23, n, f)) (h0 : 0 ≤ x) (h1 : x < n) (h01 : y = 0 ∨ y = 1) (kk : zW mt d kc ks sc Q pc' ls st sz S (z_up M a x.toNat (y))) : zW mt d kc ks sc Q pc ls (zi y :: zi x :: zn a :: st) sz S M := by
  subst hp
  intro E D dA p l e R s m args below meth c QQ hE H locs cells slots lr hR hS0 hc hs ho hL
  have hK := hE.2.2.2.2.2.2.2.2.2.1.1
  have hx : z_i32 x := ho (zi x) (by simp)
  have hy : z_i32 y := ho (zi y) (by simp)
  have hg := z_ws_get (E := E) (dA := dA) (S := S) (M := M) ha
  rw [z_ent_i hS (Or.inr (Or.inr rfl))] at hg
  have hin := z_vpin hx h0 h1
  simp only [List.map_cons, z_vn]
  refine W.zast hE.1 hE.2.1 (hR.2.1 a _ hg) ((hK.2 3 _ rfl).1 n (fun j => .int (Int32.ofInt (M a j)))) (fun q => by cases q) (by show ¬ (_ ∨ (arrV _ _ _).slots.size ≤ _); rw [arrV_size]; exact hin) rfl rfl hdg fun H1 e1 z oq => ?_
  refine kk E D dA p l e R s m args below meth c QQ hE H1 _ cells slots lr (z_R_set hR ha ?_ z oq (fun _ _ => rfl) (fun i hi => z_up_ne hi) (z_cok_arr hS (by decide) (hR.2.2 a ha) ⟨by omega, by omega, by omega, fun _ => by omega, by omega⟩)) (hS0.put z oq (Nat.le_add_right _ _)) hc hs (fun u hu => ho u (by simp [hu])) hL
  rw [z_ent_i hS (Or.inr (Or.inr rfl))]
  show H1[E.1 + a]? = some (vp_cell _ _)
  rw [e1]
  rw [vp_cell_i, vp_cell_i, arrV_store, z_clamp hx]
  congr 2
  funext q
  by_cases hq : q = x.toNat
  · subst hq
    simp only [updV, z_up, if_true, true_and]
    exact (z_bool h01 E).1
  · simp [updV, z_up, hq]
theorem x_last (pc' : Nat) (hp : pc + 1 = pc') (hdg : decode mt.2.1 pc = .ok (.lastore, 1)) (ha : a < sz) (hS : S a = (21, n, f)) (h0 : 0 ≤ x) (h1 : x < n) (kk : zW mt d kc ks sc Q pc' ls st sz S (z_up M a x.toNat (y))) : zW mt d kc ks sc Q pc ls (zl y :: zi x :: zn a :: st) sz S M := by
  subst hp
  intro E D dA p l e R s m args below meth c QQ hE H locs cells slots lr hR hS0 hc hs ho hL
  have hK := hE.2.2.2.2.2.2.2.2.2.1.1
  have hx : z_i32 x := ho (zi x) (by simp)
  have hy : z_i64 y := ho (zl y) (by simp)
  have hg := z_ws_get (E := E) (dA := dA) (S := S) (M := M) ha
  rw [z_ent_l hS] at hg
  have hin := z_vpin hx h0 h1
  simp only [List.map_cons, z_vn]
  refine W.last hE.1 hE.2.1 (hR.2.1 a _ hg) ((hK.2 1 _ rfl).1 n (fun j => .long (Int64.ofInt (M a j)))) (fun q => by cases q) (by show ¬ (_ ∨ (arrV _ _ _).slots.size ≤ _); rw [arrV_size]; exact hin) rfl rfl hdg fun H1 e1 z oq => ?_
  refine kk E D dA p l e R s m args below meth c QQ hE H1 _ cells slots lr (z_R_set hR ha ?_ z oq (fun _ _ => rfl) (fun i hi => z_up_ne hi) (z_cok_arr hS (by decide) (hR.2.2 a ha) ⟨by omega, fun _ => hy, by omega, by omega, by omega⟩)) (hS0.put z oq (Nat.le_add_right _ _)) hc hs (fun u hu => ho u (by simp [hu])) hL
  rw [z_ent_l hS]
  show H1[E.1 + a]? = some (vp_cell _ _)
  rw [e1]
  rw [vp_cell_l, vp_cell_l, arrV_store, z_clamp hx]
  congr 2
  funext q
  by_cases hq : q = x.toNat
  · subst hq
    simp only [updV, z_up, if_true, true_and]
    try rfl
  · simp [updV, z_up, hq]
theorem x_aast {kd ci : Nat} (hkd : (kd = 24 ∧ ci = 7) ∨ (kd = 25 ∧ ci = 9)) (pc' : Nat) (hp : pc + 1 = pc') (hdg : decode mt.2.1 pc = .ok (.aastore, 1)) (ha : a < sz) (hS : S a = (kd, n, f)) (h0 : 0 ≤ x) (h1 : x < n) (hv : y = -1 ∨ ∃ (b n2 : Nat) (f2 : Nat → Int), y = (b : Int) ∧ b < sz ∧ S b = (ci, n2, f2)) (kk : zW mt d kc ks sc Q pc' ls st sz S (z_up M a x.toNat y)) : zW mt d kc ks sc Q pc ls (zr y :: zi x :: zn a :: st) sz S M := by
  subst hp
  intro E D dA p l e R s m args below meth c QQ hE H locs cells slots lr hR hS0 hc hs ho hL
  have hK := hE.2.2.2.2.2.2.2.2.2.1.1
  have hx : z_i32 x := ho (zi x) (by simp)
  have hg := z_ws_get (E := E) (dA := dA) (S := S) (M := M) ha
  have hkk : (kd = 24 ∨ kd = 25) ∧ 20 ≤ kd ∧ ci < 20 ∧ kd ≠ 20 ∧ kd ≠ 21 ∧ kd ≠ 22 ∧ kd ≠ 23 := by rcases hkd with ⟨rfl, rfl⟩ | ⟨rfl, rfl⟩ <;> decide
  rw [z_ent_q hS hkk.1] at hg
  have hin := z_vpin hx h0 h1
  simp only [List.map_cons, z_vn]
  obtain ⟨t0, C, T, N, ht0, hcl⟩ : ∃ (t0 : Nat) (C : String) (T : u_T) (N : Nat), (z_tys dA)[t0]? = some (dA (kd - 20), .object C) ∧ vwCl[ci]? = some (C, T, N) := by
    rcases hkd with ⟨rfl, rfl⟩ | ⟨rfl, rfl⟩
    · exact ⟨4, RX7, TX7, 18, rfl, rfl⟩
    · exact ⟨5, RX9, TX9, 4, rfl, rfl⟩
  have h12 : ci < 20 := hkk.2.2.1
  have fin : ∀ H1 : Heap, H1[E.1 + a]? = some ((vp_cell (dA (kd - 20)) (n, .inr (.inr (.inr (.inr fun j => z_op E (M a j)))))).setSlot (Int32.ofInt x).toNatClampNeg (z_rf E y)) → H1.size = H.size → (∀ q, q ≠ E.1 + a → H1[q]? = H[q]?) → -1 ≤ y → W p l e R s m args below meth c H1 (locs ++ [⟨E.1 + a, (Int32.ofInt x).toNatClampNeg⟩]) cells slots QQ (F0 m (pc + 1) lr (st.map (z_val E))) := by
    intro H1 e1 z oq hy1
    refine kk E D dA p l e R s m args below meth c QQ hE H1 _ cells slots lr (z_R_set hR ha ?_ z oq (fun _ _ => rfl) (fun i hi => z_up_ne hi) (z_cok_arr hS hkk.2.1 (hR.2.2 a ha) ⟨fun h => absurd h hkk.2.2.2.1, fun h => absurd h hkk.2.2.2.2.1, fun h => absurd h hkk.2.2.2.2.2.1, fun h => absurd h hkk.2.2.2.2.2.2, fun _ => hy1⟩)) (hS0.put z oq (Nat.le_add_right _ _)) hc hs (fun u hu => ho u (by simp [hu])) hL
    rw [z_ent_q hS hkk.1]
    show H1[E.1 + a]? = some (vp_cell _ _)
    rw [e1]
    rw [vp_cell_q, vp_cell_q, arrV_store, z_clamp hx]
    congr 2
    funext q
    by_cases hq : q = x.toNat
    · subst hq
      simp only [updV, z_up, if_true, true_and]
      exact (z_rfop hy1).symm
    · simp [updV, z_up, hq]
  rcases hv with rfl | ⟨b, n2, f2, rfl, hb, hSb⟩
  · rw [z_vnull]
    refine va_WaastN (C := C) hE.1 hE.2.1 (hR.2.1 a _ hg) ((hK.2 t0 _ ht0).1 n (fun j => va_rf (z_op E (M a j)))) (fun h => by cases h) (by show ¬ (_ ∨ (arrV _ _ _).slots.size ≤ _); rw [arrV_size]; exact hin) rfl rfl hdg fun H1 e1 z oq => ?_
    exact fin H1 (by rw [e1]; simp [z_rf]) z oq (by omega)
  · have hgb := z_ws_get (E := E) (dA := dA) (S := S) (M := M) hb
    rw [z_ent_o hSb h12] at hgb
    obtain ⟨r', hr', cellV, g1, g2, g3, -⟩ := hR.2.1 b _ hgb
    have hcls := (hK.1 ci _ hcl).2
    obtain ⟨kA, comp, k1, k2, k3, -⟩ := (hK.2 t0 _ ht0).2
    have hcomp : comp = D.1 ci := Option.some.inj (k3.symm.trans hcls.1)
    subst hcomp
    obtain ⟨kC, hkC, -⟩ := hcls.2
    have h0' : ¬ Int32.ofInt x < 0 := fun q => hin (Or.inl q)
    have hlt : (Int32.ofInt x).toNatClampNeg < n := Nat.not_le.mp fun q => hin (Or.inr q)
    rw [z_vn]
    refine W.aast hE.1 hE.2.1 (hR.2.1 a _ hg) (fun q h => by cases h) (fun h => by cases h) k1 k2 rfl hkC ⟨h0', by show _ < (arrV _ _ _).slots.size; rw [arrV_size]; exact hlt⟩ g1 (fun q h => by rw [g3] at h; cases h) (by rw [g2]; exact hkC) (by rw [g2]; exact va_assign hcls) rfl rfl hdg fun H1 e1 z oq => ?_
    exact fin H1 (by rw [e1]; simp [z_rf]) z oq (by omega)
theorem x_putf {idx ci k : Nat} (pc' : Nat) (hp : pc + 3 = pc') (hl : z_FF mt.1.cls idx ci k) (hin : mt.1.name = "<init>") (hdg : decode mt.2.1 pc = .ok (.putfield idx, 3)) (ha : a < sz) (hS : S a = (ci, n, f)) (hk : k < n) (kk : zW mt d kc ks sc Q pc' ls st sz (z_sup S a (ci, n, fun j => if j = k then x else f j)) M) : zW mt d kc ks sc Q pc ls (zr x :: zn a :: st) sz S M := by
  subst hp
  intro E D dA p l e R s m args below meth c QQ hE H locs cells slots lr hR hS0 hc hs ho hL
  have hK := hE.2.2.2.2.2.2.2.2.2.1.1
  obtain ⟨C, T, N, hcf, hkN, hlk, hft, hfin, hdecl, hty⟩ := hl
  have hg := z_ws_get (E := E) (dA := dA) (S := S) (M := M) ha
  rw [z_ent_o hS hcf.2.1] at hg
  have hts := hE.2.2.2.2.1
  have hap := va_apart (own := mt.1.cls) hts hcf.2.2.1 (z_tyOf ci) hcf.2.2.2.1 hcf.2.2.2.2 hK hcf.1
  obtain ⟨r, h1, cell, q1, q2, q3, q4⟩ := hR.2.1 a _ hg
  have hr : r = (C, T, N) := Option.some.inj (h1.symm.trans hcf.1)
  subst hr
  obtain ⟨hSl, hfc, kC, hkC, hkind⟩ := hK.1 ci _ hcf.1
  obtain ⟨cf, kf, fi, fd, hi, hsl⟩ := hSl k hkN
  have hlay := hts _ (hcf.2.2.1 _ (u_in_lay hkN))
  unfold u_lay at hlay
  rw [if_pos hfin] at hlay
  have hst := (u_facts hfc hkC (u_lays hts hcf.2.2.1 hkN) hi).1
  have hcf2 : m.cls = cf := by
    obtain ⟨_, _, c', _, _, _, -, -, hf', -, -, -, hown2, -⟩ := Cond.laysFinal_spec hlay
    have e1 : c' = cf := by have := hi.symm.trans hf'; simp at this; exact this.1.symm
    rw [hdecl] at hown2
    rw [← e1]; exact Option.some.inj (hE.2.2.2.1.symm.trans hown2)
  have hn2 : narrow (z_tyOf ci k) (z_rf E x) = z_rf E x := by
    rcases hty with ⟨nm, hty⟩ | ⟨nm, hty⟩ <;> rw [hty] <;> rcases z_rfc E x with he | ⟨b, he⟩ <;> rw [he] <;> rfl
  have hf2 : fits (z_tyOf ci k) (z_rf E x) = true := by
    rcases hty with ⟨nm, hty⟩ | ⟨nm, hty⟩ <;> rw [hty] <;> rcases z_rfc E x with he | ⟨b, he⟩ <;> rw [he] <;> rfl
  have h6 := u_fits hfc hkC hkind (Or.inr hlay) hi (hcf.2.2.2.1 k hkN) hn2 hf2
  simp only [List.map_cons, z_vn]
  refine W.putFinK hE.1 hE.2.1 hE.2.2.2.1 (hts _ hlk) hi hst hcf2 (hE.2.2.2.2.2.1.trans hin) (by rw [q2]; exact h6) q1 q3 (by rw [hsl]; exact k2_hasslot (q4 k hkN)) rfl rfl hdg fun H1 e1 e2 e3 => ?_
  rw [hsl] at e1
  have hS1 : z_sup S a (ci, n, fun j => if j = k then x else f j) a = (ci, n, fun j => if j = k then x else f j) := by simp [z_sup]
  refine kk E D dA p l e R s m args below meth c QQ hE H1 _ cells slots lr (z_R_set hR ha ?_ e2 e3 (fun i hi => z_sup_ne hi) (fun _ _ => rfl) ?_) (hS0.put e2 e3 (Nat.le_add_right _ _)) hc hs (fun u hu => ho u (by simp [hu])) hL
  · refine z_put_at hcf hS (Or.inr ⟨_, hS1⟩) hap hkN hk q2 q3 q4 e1 ?_ (fun j hj => ?_)
    · rw [hft, z_fv_fin hS1 hft]; simp; rfl
    · unfold z_fv; rw [hS, hS1]; simp [hj]
  · intro j hj
    have h := (hR.2.2 a ha j (by rw [hS]; rw [hS1] at hj; exact hj)).1
    rw [hS1]
    refine ⟨fun _ => ?_, fun h => by have := hcf.2.1; simp at h; omega, fun h => by have := hcf.2.1; simp at h; omega, fun h => by have := hcf.2.1; simp at h; omega, fun h => by have := hcf.2.1; simp at h; omega, fun h => by have := hcf.2.1; simp at h; omega⟩
    rw [hS] at h
    have h2 := h hcf.2.1
    unfold z_fv at h2 ⊢
    rw [hS] at h2
    rw [hS1]
    by_cases q : z_ft ci j = 4
    · simp only [q]; exact trivial
    · simpa [q] using h2
end ZA
