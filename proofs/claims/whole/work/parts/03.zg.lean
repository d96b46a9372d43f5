/-! THE COPY, THE SCRIPT -/
def z_cpy (f g : Nat → Int) (sp dp n : Nat) : Nat → Int := fun j => if dp ≤ j ∧ j < dp + n then f (sp + (j - dp)) else g j
theorem z_nw : nativeFrameWords "java/lang/System" "arraycopy" 5 ≤ 40 := by decide +kernel
section ZK
variable {mt : zMt} {d kc ks : Nat} {sc : List Int} {Q : zQ} {pc : Nat} {ls : zLs} {st : List zV} {sz : Nat} {S : zSh} {M : zMem} {x y z : Int} {a a0 n n0 : Nat} {f f0 : Nat → Int}
set_option maxHeartbeats 1000000 in
theorem x_copy {idx : Nat} (pc' : Nat) (hp : pc + 3 = pc') (h1 : Cond.methodLink mt.1.cls idx arraycopyName ∈ z_tb) (h2 : Cond.native arraycopyName ∈ z_tb) (h3 : Cond.static arraycopyName ∈ z_tb) (h4 : Cond.initialized "java/lang/System" ∈ z_tb) (hdg : decode mt.2.1 pc = .ok (.invokestatic idx, 3)) (hre : st.length ≤ 4) (ha0 : a0 < sz) (hS0a : S a0 = (20, n0, f0)) (ha : a < sz) (hSa : S a = (20, n, f)) (hx : 0 ≤ x) (hy : 0 ≤ y) (hz : 0 ≤ z) (hxn : x + z ≤ n0) (hyn : y + z ≤ n) (kk : zW mt (d + 1) kc ks sc Q pc' ls st sz S (z_mup M a (z_cpy (M a0) (M a) x.toNat y.toNat z.toNat))) : zW mt (d + 1) kc ks sc Q pc ls (zi z :: zi y :: zn a :: zi x :: zn a0 :: st) sz S M := by
  subst hp
  intro E D dA p l e R s m args below meth c QQ hE H locs cells slots lr hR hS0 hc hs ho hL
  have hK := hE.2.2.2.2.2.2.2.2.2.1.1
  have hts := hE.2.2.2.2.1
  have hzi : z_i32 z := ho (zi z) (by simp)
  have hyi : z_i32 y := ho (zi y) (by simp)
  have hxi : z_i32 x := ho (zi x) (by simp)
  have nn : ∀ {u : Int}, z_i32 u → 0 ≤ u → ¬ Int32.ofInt u < 0 := fun hu h0 h => by
    have := (z_lt hu z_i32_0).mp h
    omega
  have hg0 := z_ws_get (E := E) (dA := dA) (S := S) (M := M) ha0
  rw [z_ent_i hS0a (Or.inl rfl)] at hg0
  have hg1 := z_ws_get (E := E) (dA := dA) (S := S) (M := M) ha
  rw [z_ent_i hSa (Or.inl rfl)] at hg1
  simp only [List.map_cons, z_vn]
  have hfr := hE.2.2.2.2.2.2.1
  have hlo := hE.2.2.2.2.2.2.2.1
  have hrs := z_rest (E := E) hre
  have hnw := z_nw
  intro T hT X
  have hc0 : H[E.1 + a0]? = some (vp_cell (dA 0) (n0, .inl fun j => Int32.ofInt (M a0 j))) := hR.2.1 a0 _ hg0
  have hc1 : H[E.1 + a]? = some (vp_cell (dA 0) (n, .inl fun j => Int32.ofInt (M a j))) := hR.2.1 a _ hg1
  obtain ⟨-, k0, hk0, cm0, hkk0⟩ := (hK.2 0 _ rfl).1 n0 (fun j => .int (Int32.ofInt (M a0 j)))
  obtain ⟨-, k1, hk1, cm1, hkk1⟩ := (hK.2 0 _ rfl).1 n (fun j => .int (Int32.ofInt (M a j)))
  obtain ⟨vm', X', step⟩ := X.arraycopy hE.1 hE.2.2.2.1 (hts _ h1) (hts _ h2) (hts _ h3) (hts _ h4) (src := E.1 + a0) (dst := E.1 + a) (cs := vp_cell (dA 0) (n0, .inl fun j => Int32.ofInt (M a0 j))) (cd := vp_cell (dA 0) (n, .inl fun j => Int32.ofInt (M a j))) (srcPos := Int32.ofInt x) (destPos := Int32.ofInt y) (n := Int32.ofInt z) (by rw [hT]; exact hc0) (by rw [hT]; exact hc1)
    (fun _ h => by cases h) (fun _ h => by cases h) (fun h => by cases h) (fun h => by cases h) hk0 hk1 hkk0 hkk1 (by simp [refKind]) (nn hxi hx) (nn hyi hy) (nn hzi hz)
    (by rw [i32_to hxi, i32_to hzi]; show ¬ _ > ((arrV (dA 0) n0 (fun j => .int (Int32.ofInt (M a0 j)))).slots.size : Int); rw [arrV_size]; omega)
    (by rw [i32_to hyi, i32_to hzi]; show ¬ _ > ((arrV (dA 0) n (fun j => .int (Int32.ofInt (M a j)))).slots.size : Int); rw [arrV_size]; omega)
    (fun vm₁ _ i hi => by
      rw [z_clamp hzi] at hi
      have e : (vp_cell (dA 0) (n0, .inl fun j => Int32.ofInt (M a0 j))).slots.getD ((Int32.ofInt x).toNatClampNeg + i) .null = .int (Int32.ofInt (M a0 ((Int32.ofInt x).toNatClampNeg + i))) := by
        show (arrV (dA 0) n0 (fun j => .int (Int32.ofInt (M a0 j)))).slots.getD _ _ = _
        rw [Array.getD_eq_getD_getElem?, arrV_read _ _ (by rw [z_clamp hxi]; omega)]
        rfl
      refine ⟨?_, ?_⟩
      · rw [e]; rfl
      · rw [e]; exact trivial)
    (g := F0 m pc lr (.int (Int32.ofInt z) :: .int (Int32.ofInt y) :: .ref (E.1 + a) :: .int (Int32.ofInt x) :: .ref (E.1 + a0) :: st.map (z_val E))) rfl (by rw [hE.2.2.1]; exact hL.1.1) (rest := st.map (z_val E)) rfl (by rw [hE.2.1]; exact hdg) (by omega) (by show 2 * 0 + _ + _ ≤ _; omega)
  have h4' : (Int32.ofInt x).toNatClampNeg + (Int32.ofInt z).toNatClampNeg ≤ n0 := by rw [z_clamp hxi, z_clamp hzi]; omega
  have e1 : copied (vp_cell (dA 0) (n0, .inl fun j => Int32.ofInt (M a0 j))) (vp_cell (dA 0) (n, .inl fun j => Int32.ofInt (M a j))) (Int32.ofInt x) (Int32.ofInt y) (Int32.ofInt z) = vp_cell (dA 0) (n, .inl (va_cpy (fun j => Int32.ofInt (M a0 j)) (fun j => Int32.ofInt (M a j)) (Int32.ofInt x).toNatClampNeg (Int32.ofInt y).toNatClampNeg (Int32.ofInt z).toNatClampNeg)) := va_copied (fun z => .int z) (dA 0) (dA 0) (fun j => Int32.ofInt (M a0 j)) (fun j => Int32.ofInt (M a j)) h4'
  rw [e1, z_clamp hxi, z_clamp hyi, z_clamp hzi] at X' step
  have e2 : va_cpy (fun j => Int32.ofInt (M a0 j)) (fun j => Int32.ofInt (M a j)) x.toNat y.toNat z.toNat = fun j => Int32.ofInt (z_mup M a (z_cpy (M a0) (M a) x.toNat y.toNat z.toNat) a j) := by
    funext j
    simp only [va_cpy, z_mup, z_cpy, if_true]
    split <;> rfl
  rw [e2] at X' step
  have hl : E.1 + a < H.size := (Array.getElem?_eq_some_iff.mp hc1).1
  generalize hcell : vp_cell (dA 0) (n, .inl fun j => Int32.ofInt (z_mup M a (z_cpy (M a0) (M a) x.toNat y.toNat z.toNat) a j)) = ce at X' step
  have hheap : ((T.setVm vm').setCell (E.1 + a) ce).heap = H.setIfInBounds (E.1 + a) ce := by rw [← hT]; rfl
  have oq : ∀ q : Nat, q ≠ E.1 + a → (H.setIfInBounds (E.1 + a) ce)[q]? = H[q]? := fun q hq => by simp [Array.getElem?_setIfInBounds, Ne.symm hq]
  have hR' : z_R E D dA sz S (z_mup M a (z_cpy (M a0) (M a) x.toNat y.toNat z.toNat)) (H.setIfInBounds (E.1 + a) ce) := by
    refine z_R_set hR ha ?_ (by simp) oq (fun _ _ => rfl) (fun i hi => z_mup_ne hi) ?_
    · rw [z_ent_i hSa (Or.inl rfl)]
      show (H.setIfInBounds (E.1 + a) ce)[E.1 + a]? = some (vp_cell (dA 0) _)
      rw [hcell]
      simp [Array.getElem?_setIfInBounds, hl]
    · intro j hj
      have h5 := hR.2.2 a ha j hj
      rw [hSa] at h5 hj ⊢
      refine ⟨fun h => by simp at h, fun _ => ?_, fun h => by simp at h, fun h => by simp at h, fun h => by simp at h, fun h => by simp at h⟩
      simp only [z_mup, if_true, z_cpy]
      split
      · have h6 := hR.2.2 a0 ha0 (x.toNat + (j - y.toNat)) (by rw [hS0a]; show _ < n0; omega)
        rw [hS0a] at h6
        exact h6.2.1 rfl
      · exact h5.2.1 rfl
  obtain ⟨t, a1, b1⟩ := kk E D dA p l e R s m args below meth c QQ hE (H.setIfInBounds (E.1 + a) ce) _ cells slots lr hR' ⟨by simp; exact hS0.1, fun q g1 g2 => by
      rw [oq q (fun e => g2 (by rw [e]; exact Nat.le_add_right _ _))]
      exact hS0.2.1 q g1 g2, fun q hq => by
      rcases List.mem_append.mp hq with h | h
      · exact hS0.2.2 q h
      · obtain ⟨w, -, hw⟩ := List.mem_map.mp h
        rw [← hw]
        exact Nat.le_add_right _ _⟩ hc hs (fun u hu => ho u (by simp [hu])) hL _ hheap X'
  exact ⟨t, step t a1, b1⟩
theorem x_sld (pc' : Nat) (hp : pc + 1 = pc') (hdg : decode mt.2.1 pc = .ok (.iaload, 1)) (hsc : sc ≠ []) (h0 : 0 ≤ x) (h1 : x < ((sc.length - 1 : Nat) : Int)) (kk : zW mt d kc ks sc Q pc' ls (zi (sc.getD x.toNat 0) :: st) sz S M) : zW mt d kc ks sc Q pc ls (zi x :: zr (-2) :: st) sz S M := by
  subst hp
  intro E D dA p l e R s m args below meth c QQ hE H locs cells slots lr hR hS0 hc hs ho hL
  have hxi : z_i32 x := ho (zi x) (by simp)
  rcases hE.2.2.2.2.2.2.2.2.2.2.1 with h | ⟨hX, hb1, hb2, hb3, hb4⟩
  · exact absurd h hsc
  have hv : z_i32 (sc.getD x.toNat 0) := by
    rw [List.getD_eq_getElem?_getD, List.getElem?_eq_getElem (by omega)]
    exact hb3 _ (List.getElem_mem _)
  have h2 := kk E D dA p l e R s m args below meth c QQ hE H locs cells slots lr hR hS0 hc hs (z_oks1 (v := zi (sc.getD x.toNat 0)) hv (fun u hu => ho u (by simp [hu]))) hL
  have e2 : z_val E (zr (-2)) = .ref E.2.1 := by simp [z_val, z_rf]
  simp only [List.map_cons, e2] at h2 ⊢
  refine va_sld hE.1 hE.2.1 hX hb1 (Nat.not_le.mpr hb2) hS0 (z_vpin hxi h0 h1) hdg ?_
  rw [z_clamp hxi]
  exact h2
theorem x_slen (pc' : Nat) (hp : pc + 1 = pc') (hdg : decode mt.2.1 pc = .ok (.arraylength, 1)) (hsc : sc ≠ []) (kk : zW mt d kc ks sc Q pc' ls (zi ((sc.length - 1 : Nat) : Int) :: st) sz S M) : zW mt d kc ks sc Q pc ls (zr (-2) :: st) sz S M := by
  subst hp
  intro E D dA p l e R s m args below meth c QQ hE H locs cells slots lr hR hS0 hc hs ho hL
  rcases hE.2.2.2.2.2.2.2.2.2.2.1 with h | ⟨hX, hb1, hb2, hb3, hb4⟩
  · exact absurd h hsc
  have h2 := kk E D dA p l e R s m args below meth c QQ hE H locs cells slots lr hR hS0 hc hs (z_oks1 (v := zi ((sc.length - 1 : Nat) : Int)) (by show z_i32 _; unfold z_i32; omega) (fun u hu => ho u (by simp [hu]))) hL
  have e2 : z_val E (zr (-2)) = .ref E.2.1 := by simp [z_val, z_rf]
  simp only [List.map_cons, e2] at h2 ⊢
  exact va_slen hE.1 hE.2.1 hX hb1 (Nat.not_le.mpr hb2) hS0 hdg h2
end ZK
