/-! WHAT IS MADE -/
def z_gty : FieldType → Bool
  | .int => true
  | .boolean => true
  | .long => true
  | .object _ => true
  | .array _ => true
  | _ => false
def z_Nw (own : String) (idx ci N : Nat) : Prop := ∃ (C : String) (T : u_T), z_CF ci C T N ∧ Cond.classLink own idx C ∈ z_tb ∧ Cond.instantiable C N ∈ z_tb ∧ Cond.initialized C ∈ z_tb ∧ ∀ k, k < N → z_gty (z_tyOf ci k) = true
theorem z_def {E : zAd} {ci k : Nat} (h : z_gty (z_tyOf ci k) = true) : z_val E (z_mk (z_ft ci k) (if z_ft ci k = 4 then -1 else z_df ci k)) = defaultValue (z_tyOf ci k) ∧ z_ok (z_mk (z_ft ci k) (if z_ft ci k = 4 then -1 else z_df ci k)) := by
  unfold z_df z_ft
  cases hty : z_tyOf ci k with
  | int => exact ⟨rfl, z_i32_0⟩
  | boolean => exact ⟨rfl, z_i32_0⟩
  | long => exact ⟨rfl, z_i64_0⟩
  | object n =>
    by_cases hf : z_finOf ci k = true
    · simp [z_fty, hf, z_mk, z_vnull, z_ok]; rfl
    · simp [z_fty, hf, z_mk, z_vnull, z_ok]; rfl
  | array n =>
    by_cases hf : z_finOf ci k = true
    · simp [z_fty, hf, z_mk, z_vnull, z_ok]; rfl
    · simp [z_fty, hf, z_mk, z_vnull, z_ok]; rfl
  | _ => rw [hty] at h; simp [z_gty] at h
theorem z_R_push {E : zAd} {D : va_G} {dA : Nat → ClassId} {sz : Nat} {S S' : zSh} {M M' : zMem} {H H' : Heap} (hR : z_R E D dA sz S M H) (e : va_at D vwCl (E.1 + sz, z_ent E dA S' M' sz) H') (hz : H'.size = E.1 + sz + 1) (ho : ∀ q, q < E.1 + sz → H'[q]? = H[q]?) (hS : ∀ i, i ≠ sz → S' i = S i) (hM : ∀ i, i ≠ sz → M' i = M i) (hc : z_cok S' M' sz) : z_R E D dA (sz + 1) S' M' H' := by
  refine ⟨by omega, fun k q hk => ?_, fun i hi => ?_⟩
  · have hi : k < sz + 1 := by
      have := (List.getElem?_eq_some_iff.mp hk).1
      simpa [z_ws] using this
    rw [z_ws_get hi] at hk
    cases hk
    by_cases h : k = sz
    · subst h; exact e
    · rw [z_ent_row (hS k h) (hM k h)]
      exact (hR.2.1 k _ (z_ws_get (by omega))).kept (ho _ (by show E.1 + k < _; omega))
  · by_cases h : i = sz
    · subst h; exact hc
    · have h2 := hR.2.2 i (by omega)
      unfold z_cok z_fv at h2 ⊢
      rw [hS i h, hM i h]
      exact h2
theorem z_S_push {E : zAd} {H0 H H' : Heap} {locs : List Loc} (h : va_S (z_A E) H0 H locs) (hz : H.size ≤ H'.size) (ho : ∀ q, q < H.size → H'[q]? = H[q]?) : va_S (z_A E) H0 H' locs :=
  ⟨Nat.le_trans h.1 hz, fun q h1 h2 => (ho q (Nat.lt_of_lt_of_le h1 h.1)).trans (h.2.1 q h1 h2), h.2.2⟩
section ZN
variable {mt : zMt} {d kc ks : Nat} {sc : List Int} {Q : zQ} {pc : Nat} {ls : zLs} {st : List zV} {sz : Nat} {S : zSh} {M : zMem} {x y : Int} {a n : Nat} {f : Nat → Int}
theorem x_new {idx ci N : Nat} (pc' : Nat) (hp : pc + 3 = pc') (hl : z_Nw mt.1.cls idx ci N) (hdg : decode mt.2.1 pc = .ok (.new idx, 3)) (kk : zW mt d kc ks sc Q pc' ls (zn sz :: st) (sz + 1) (z_sup S sz (ci, N, fun _ => -1)) (z_mup M sz (z_df ci))) : zW mt d (kc + 1) (ks + N) sc Q pc ls st sz S M := by
  subst hp
  intro E D dA p l e R s m args below meth c QQ hE H locs cells slots lr hR hS0 hc hs ho hL
  have hK := hE.2.2.2.2.2.2.2.2.2.1.1
  obtain ⟨C, T, hcf, h1, h2, h3, h4⟩ := hl
  have hts := hE.2.2.2.2.1
  have hKn := hK.1 ci _ hcf.1
  have hS1 : z_sup S sz (ci, N, fun _ => (-1 : Int)) sz = (ci, N, fun _ => -1) := by simp [z_sup]
  have hfv : ∀ k, z_fv (z_sup S sz (ci, N, fun _ => (-1 : Int))) (z_mup M sz (z_df ci)) sz k = if z_ft ci k = 4 then -1 else z_df ci k := fun k => by
    unfold z_fv; rw [hS1]; simp [z_mup]
  refine W.newcK hE.1 hE.2.1 hE.2.2.2.1 (hts _ h1) (hts _ h2) (hts _ h3) rfl hdg (by omega) (by omega) hKn.2.1 hR.1 fun H1 kC hkC e1 z1 o1 => ?_
  have h9 := kk E D dA p l e R s m args below meth c QQ hE H1 locs (cells + 1) (slots + N) lr (z_R_push hR ?_ z1 o1 (fun i hi => z_sup_ne hi) (fun i hi => z_mup_ne hi) ?_) (z_S_push hS0 (by rw [z1, hR.1]; omega) (fun q hq => o1 q (by rw [← hR.1]; exact hq))) (by omega) (by omega) (z_oks1 (v := zn sz) trivial ho) hL
  · simp only [List.map_cons, z_vn] at h9
    exact h9
  · rw [z_ent_o hS1 hcf.2.1]
    refine ⟨_, hcf.1, (u_born (z_tyOf ci) hts hcf.2.2.1 hKn hkC e1 hcf.2.2.2.1).to (fun k hk => ?_)⟩
    have hk : k < N := hk
    show _ = List.getD _ k Value.null
    rw [List.getD_eq_getElem?_getD]
    simp only [List.getElem?_map, List.getElem?_range hk, Option.map_some, Option.getD_some]
    rw [hfv, (z_def (h4 k hk)).1]
  · intro k hk
    rw [hS1] at hk ⊢
    refine ⟨fun _ => ?_, fun h => by have := hcf.2.1; simp at h; omega, fun h => by have := hcf.2.1; simp at h; omega, fun h => by have := hcf.2.1; simp at h; omega, fun h => by have := hcf.2.1; simp at h; omega, fun h => by have := hcf.2.1; simp at h; omega⟩
    rw [hfv]
    exact (z_def (E := E) (h4 k hk)).2
theorem x_newaI (pc' : Nat) (hp : pc + 2 = pc') (hw : Cond.arrayClass .int ∈ z_tb) (hdg : decode mt.2.1 pc = .ok (.newarray .int, 2)) (N : Nat) (hx : x = (N : Int)) (hN : N ≤ 10000000) (kk : zW mt d kc ks sc Q pc' ls (zn sz :: st) (sz + 1) (z_sup S sz (20, N, fun _ => -1)) (z_mup M sz (fun _ => 0))) : zW mt d (kc + 1) (ks + N) sc Q pc ls (zi x :: st) sz S M := by
  subst hp
  intro E D dA p l e R s m args below meth c QQ hE H locs cells slots lr hR hS0 hc hs ho hL
  have hK := hE.2.2.2.2.2.2.2.2.2.1.1
  subst hx
  have hi : z_i32 (N : Int) := ho (zi N) (by simp)
  have hS1 : z_sup S sz (20, N, fun _ => (-1 : Int)) sz = (20, N, fun _ => -1) := by simp [z_sup]
  have hn : ¬ Int32.ofInt (N : Int) < 0 := fun h => by
    have := (z_lt hi z_i32_0).mp h
    omega
  refine va_newaK (atype := .int) hE.1 hE.2.1 (hE.2.2.2.2.1 _ hw) rfl hdg rfl hn (z_clamp hi) (by show N * componentBytes .int ≤ _; show N * 4 ≤ _; omega) (by omega) (by omega) hR.1 fun H1 cA e1 z1 o1 hAr hNm => ?_
  have hcA : cA = dA 0 := Option.some.inj (hNm.symm.trans (hK.2 0 _ rfl).2)
  subst hcA
  have h9 := kk E D dA p l e R s m args below meth c QQ hE H1 locs (cells + 1) (slots + N) lr (z_R_push hR ?_ z1 o1 (fun i hi => z_sup_ne hi) (fun i hi => z_mup_ne hi) ?_) (z_S_push hS0 (by rw [z1, hR.1]; omega) (fun q hq => o1 q (by rw [← hR.1]; exact hq))) (by omega) (by omega) (z_oks1 (v := zn sz) trivial (fun u hu => ho u (by simp [hu]))) hL
  · simp only [List.map_cons, z_vn] at h9
    exact h9
  · rw [z_ent_i hS1 (by decide)]
    show H1[E.1 + sz]? = some (vp_cell _ _)
    rw [e1]
    simp [z_mup]
    rfl
  · intro k hk
    rw [hS1]
    have h0 : z_mup M sz (fun _ => (0 : Int)) sz k = 0 := by simp [z_mup]
    rw [h0]
    exact ⟨fun h => by simp at h, fun _ => z_i32_0, fun _ => z_i64_0, fun _ => by decide, fun _ => by decide, fun _ => by decide⟩
theorem x_newaJ (pc' : Nat) (hp : pc + 2 = pc') (hw : Cond.arrayClass .long ∈ z_tb) (hdg : decode mt.2.1 pc = .ok (.newarray .long, 2)) (N : Nat) (hx : x = (N : Int)) (hN : N ≤ 10000000) (kk : zW mt d kc ks sc Q pc' ls (zn sz :: st) (sz + 1) (z_sup S sz (21, N, fun _ => -1)) (z_mup M sz (fun _ => 0))) : zW mt d (kc + 1) (ks + N) sc Q pc ls (zi x :: st) sz S M := by
  subst hp
  intro E D dA p l e R s m args below meth c QQ hE H locs cells slots lr hR hS0 hc hs ho hL
  have hK := hE.2.2.2.2.2.2.2.2.2.1.1
  subst hx
  have hi : z_i32 (N : Int) := ho (zi N) (by simp)
  have hS1 : z_sup S sz (21, N, fun _ => (-1 : Int)) sz = (21, N, fun _ => -1) := by simp [z_sup]
  have hn : ¬ Int32.ofInt (N : Int) < 0 := fun h => by
    have := (z_lt hi z_i32_0).mp h
    omega
  refine va_newaK (atype := .long) hE.1 hE.2.1 (hE.2.2.2.2.1 _ hw) rfl hdg rfl hn (z_clamp hi) (by show N * componentBytes .long ≤ _; show N * 8 ≤ _; omega) (by omega) (by omega) hR.1 fun H1 cA e1 z1 o1 hAr hNm => ?_
  have hcA : cA = dA 1 := Option.some.inj (hNm.symm.trans (hK.2 1 _ rfl).2)
  subst hcA
  have h9 := kk E D dA p l e R s m args below meth c QQ hE H1 locs (cells + 1) (slots + N) lr (z_R_push hR ?_ z1 o1 (fun i hi => z_sup_ne hi) (fun i hi => z_mup_ne hi) ?_) (z_S_push hS0 (by rw [z1, hR.1]; omega) (fun q hq => o1 q (by rw [← hR.1]; exact hq))) (by omega) (by omega) (z_oks1 (v := zn sz) trivial (fun u hu => ho u (by simp [hu]))) hL
  · simp only [List.map_cons, z_vn] at h9
    exact h9
  · rw [z_ent_l hS1]
    show H1[E.1 + sz]? = some (vp_cell _ _)
    rw [e1]
    simp [z_mup]
    rfl
  · intro k hk
    rw [hS1]
    have h0 : z_mup M sz (fun _ => (0 : Int)) sz k = 0 := by simp [z_mup]
    rw [h0]
    exact ⟨fun h => by simp at h, fun _ => z_i32_0, fun _ => z_i64_0, fun _ => by decide, fun _ => by decide, fun _ => by decide⟩
theorem x_newaB (pc' : Nat) (hp : pc + 2 = pc') (hw : Cond.arrayClass .byte ∈ z_tb) (hdg : decode mt.2.1 pc = .ok (.newarray .byte, 2)) (N : Nat) (hx : x = (N : Int)) (hN : N ≤ 10000000) (kk : zW mt d kc ks sc Q pc' ls (zn sz :: st) (sz + 1) (z_sup S sz (22, N, fun _ => -1)) (z_mup M sz (fun _ => 0))) : zW mt d (kc + 1) (ks + N) sc Q pc ls (zi x :: st) sz S M := by
  subst hp
  intro E D dA p l e R s m args below meth c QQ hE H locs cells slots lr hR hS0 hc hs ho hL
  have hK := hE.2.2.2.2.2.2.2.2.2.1.1
  subst hx
  have hi : z_i32 (N : Int) := ho (zi N) (by simp)
  have hS1 : z_sup S sz (22, N, fun _ => (-1 : Int)) sz = (22, N, fun _ => -1) := by simp [z_sup]
  have hn : ¬ Int32.ofInt (N : Int) < 0 := fun h => by
    have := (z_lt hi z_i32_0).mp h
    omega
  refine va_newaK (atype := .byte) hE.1 hE.2.1 (hE.2.2.2.2.1 _ hw) rfl hdg rfl hn (z_clamp hi) (by show N * componentBytes .byte ≤ _; show N * 1 ≤ _; omega) (by omega) (by omega) hR.1 fun H1 cA e1 z1 o1 hAr hNm => ?_
  have hcA : cA = dA 2 := Option.some.inj (hNm.symm.trans (hK.2 2 _ rfl).2)
  subst hcA
  have h9 := kk E D dA p l e R s m args below meth c QQ hE H1 locs (cells + 1) (slots + N) lr (z_R_push hR ?_ z1 o1 (fun i hi => z_sup_ne hi) (fun i hi => z_mup_ne hi) ?_) (z_S_push hS0 (by rw [z1, hR.1]; omega) (fun q hq => o1 q (by rw [← hR.1]; exact hq))) (by omega) (by omega) (z_oks1 (v := zn sz) trivial (fun u hu => ho u (by simp [hu]))) hL
  · simp only [List.map_cons, z_vn] at h9
    exact h9
  · rw [z_ent_i hS1 (by decide)]
    show H1[E.1 + sz]? = some (vp_cell _ _)
    rw [e1]
    simp [z_mup]
    rfl
  · intro k hk
    rw [hS1]
    have h0 : z_mup M sz (fun _ => (0 : Int)) sz k = 0 := by simp [z_mup]
    rw [h0]
    exact ⟨fun h => by simp at h, fun _ => z_i32_0, fun _ => z_i64_0, fun _ => by decide, fun _ => by decide, fun _ => by decide⟩
theorem x_newaZ (pc' : Nat) (hp : pc + 2 = pc') (hw : Cond.arrayClass .boolean ∈ z_tb) (hdg : decode mt.2.1 pc = .ok (.newarray .boolean, 2)) (N : Nat) (hx : x = (N : Int)) (hN : N ≤ 10000000) (kk : zW mt d kc ks sc Q pc' ls (zn sz :: st) (sz + 1) (z_sup S sz (23, N, fun _ => -1)) (z_mup M sz (fun _ => 0))) : zW mt d (kc + 1) (ks + N) sc Q pc ls (zi x :: st) sz S M := by
  subst hp
  intro E D dA p l e R s m args below meth c QQ hE H locs cells slots lr hR hS0 hc hs ho hL
  have hK := hE.2.2.2.2.2.2.2.2.2.1.1
  subst hx
  have hi : z_i32 (N : Int) := ho (zi N) (by simp)
  have hS1 : z_sup S sz (23, N, fun _ => (-1 : Int)) sz = (23, N, fun _ => -1) := by simp [z_sup]
  have hn : ¬ Int32.ofInt (N : Int) < 0 := fun h => by
    have := (z_lt hi z_i32_0).mp h
    omega
  refine va_newaK (atype := .boolean) hE.1 hE.2.1 (hE.2.2.2.2.1 _ hw) rfl hdg rfl hn (z_clamp hi) (by show N * componentBytes .boolean ≤ _; show N * 1 ≤ _; omega) (by omega) (by omega) hR.1 fun H1 cA e1 z1 o1 hAr hNm => ?_
  have hcA : cA = dA 3 := Option.some.inj (hNm.symm.trans (hK.2 3 _ rfl).2)
  subst hcA
  have h9 := kk E D dA p l e R s m args below meth c QQ hE H1 locs (cells + 1) (slots + N) lr (z_R_push hR ?_ z1 o1 (fun i hi => z_sup_ne hi) (fun i hi => z_mup_ne hi) ?_) (z_S_push hS0 (by rw [z1, hR.1]; omega) (fun q hq => o1 q (by rw [← hR.1]; exact hq))) (by omega) (by omega) (z_oks1 (v := zn sz) trivial (fun u hu => ho u (by simp [hu]))) hL
  · simp only [List.map_cons, z_vn] at h9
    exact h9
  · rw [z_ent_i hS1 (by decide)]
    show H1[E.1 + sz]? = some (vp_cell _ _)
    rw [e1]
    simp [z_mup]
    rfl
  · intro k hk
    rw [hS1]
    have h0 : z_mup M sz (fun _ => (0 : Int)) sz k = 0 := by simp [z_mup]
    rw [h0]
    exact ⟨fun h => by simp at h, fun _ => z_i32_0, fun _ => z_i64_0, fun _ => by decide, fun _ => by decide, fun _ => by decide⟩
theorem x_newq {kd idx : Nat} (C : String) (hkd : (kd = 24 ∧ C = RX7) ∨ (kd = 25 ∧ C = RX9)) (pc' : Nat) (hp : pc + 3 = pc') (hw : Cond.classLink mt.1.cls idx C ∈ z_tb) (hdg : decode mt.2.1 pc = .ok (.anewarray idx, 3)) (N : Nat) (hx : x = (N : Int)) (hN : N ≤ 10000000) (kk : zW mt d kc ks sc Q pc' ls (zn sz :: st) (sz + 1) (z_sup S sz (kd, N, fun _ => -1)) (z_mup M sz (fun _ => -1))) : zW mt d (kc + 1) (ks + N) sc Q pc ls (zi x :: st) sz S M := by
  subst hp
  intro E D dA p l e R s m args below meth c QQ hE H locs cells slots lr hR hS0 hc hs ho hL
  have hK := hE.2.2.2.2.2.2.2.2.2.1.1
  subst hx
  have hi : z_i32 (N : Int) := ho (zi N) (by simp)
  have hS1 : z_sup S sz (kd, N, fun _ => (-1 : Int)) sz = (kd, N, fun _ => -1) := by simp [z_sup]
  have hn : ¬ Int32.ofInt (N : Int) < 0 := fun h => by
    have := (z_lt hi z_i32_0).mp h
    omega
  have hAO : va_AO C s := by
    rcases hkd with ⟨_, rfl⟩ | ⟨_, rfl⟩
    · exact hE.2.2.2.2.2.2.2.2.2.1.2.2.1
    · exact hE.2.2.2.2.2.2.2.2.2.1.2.2.2.1
  obtain ⟨t0, ht0⟩ : ∃ t0, (z_tys dA)[t0]? = some (dA (kd - 20), FieldType.object C) := by
    rcases hkd with ⟨rfl, rfl⟩ | ⟨rfl, rfl⟩
    · exact ⟨4, rfl⟩
    · exact ⟨5, rfl⟩
  have hkk : (kd = 24 ∨ kd = 25) := by rcases hkd with ⟨rfl, _⟩ | ⟨rfl, _⟩ <;> simp
  have hcl := z_clamp hi
  have hcl : (Int32.ofInt (N : Int)).toNatClampNeg = N := by rw [hcl]; simp
  refine W.anew hE.1 hE.2.1 hE.2.2.2.1 (hE.2.2.2.2.1 _ hw) (va_AO.use hAO) rfl hdg rfl hn (by rw [hcl]; omega) (by omega) (by rw [hcl]; omega) fun cA kA comp f1 f2 f3 f4 => ?_
  rw [hcl, hR.1]
  generalize hH1 : H.push ({ cls := cA, slots := Array.replicate N .null, vm := .none } : Cell) = H1
  have z1 : H1.size = E.1 + sz + 1 := by rw [← hH1, Array.size_push, hR.1]
  have e1 : H1[E.1 + sz]? = some (arrV cA N (fun _ => .null)) := by rw [← hH1, ← hR.1, Array.getElem?_push_size, ← arrV_new]
  have o1 : ∀ q : Nat, q < E.1 + sz → H1[q]? = H[q]? := fun q hq => by rw [← hH1, Array.getElem?_push, if_neg (by rw [hR.1]; omega)]
  have hcA : cA = dA (kd - 20) := by
    obtain ⟨kA', comp', k1, k2, k3, k4⟩ := (hK.2 t0 _ ht0).2
    exact Option.some.inj (f1.symm.trans k4)
  subst hcA
  have h9 := kk E D dA p l e R s m args below meth c QQ hE H1 locs (cells + 1) (slots + N) lr (z_R_push hR ?_ z1 o1 (fun i hi => z_sup_ne hi) (fun i hi => z_mup_ne hi) ?_) (z_S_push hS0 (by rw [z1, hR.1]; omega) (fun q hq => o1 q (by rw [← hR.1]; exact hq))) (by omega) (by omega) (z_oks1 (v := zn sz) trivial (fun u hu => ho u (by simp [hu]))) hL
  · simp only [List.map_cons, z_vn] at h9
    exact h9
  · rw [z_ent_q hS1 hkk]
    show H1[E.1 + sz]? = some (vp_cell _ _)
    rw [e1]
    simp [z_mup, z_op, vp_cell_q, va_rf]
  · intro k hk
    rw [hS1]
    have h0 : z_mup M sz (fun _ => (-1 : Int)) sz k = -1 := by simp [z_mup]
    rw [h0]
    exact ⟨fun h => by simp at h; omega, fun h => by simp at h; omega, fun h => by simp at h; omega, fun h => by simp at h; omega, fun h => by simp at h; omega, fun _ => by decide⟩
end ZN
