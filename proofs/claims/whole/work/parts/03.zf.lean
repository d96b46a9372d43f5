/-! CALLS, RETURNS -/
def z_rm (d kc ks : Nat) : Room := { frames := d, cells := kc, slots := ks, locals := 64 * d + 64 }
def z_Pre (E : zAd) (D : va_G) (dA : Nat → ClassId) (as : List zV) (sz : Nat) (S : zSh) (M : zMem) : Array Value → State → Prop := fun v U => v = (as.map (z_val E)).toArray ∧ z_R E D dA sz S M U.heap ∧ z_C E D dA U U.heap
def z_Post (E : zAd) (D : va_G) (dA : Nat → ClassId) (Q : zQ) : Array Value → State → Outcome → State → Prop := fun _ st o t => (∃ (v : Option zV) (sz : Nat) (S : zSh) (M : zMem), o = .returned (v.map (z_val E)) ∧ Q v sz S M ∧ (∀ x, v = some x → z_ok x) ∧ z_R E D dA sz S M t.heap) ∧ va_F (z_A E) st t
def zX (d kc ks : Nat) (mt : zMt) (as : List zV) (sz : Nat) (S : zSh) (M : zMem) (Q : zQ) : Prop := ∀ (l : Launch) (E : zAd) (D : va_G) (dA : Nat → ClassId), (∀ v ∈ as, z_ok v) → Met l mt.1 (z_wd mt) (z_rm d kc ks) (z_Pre E D dA as sz S M) (z_Post E D dA Q) kc ks (z_A E)
theorem z_blind (E : zAd) (D : va_G) (dA : Nat → ClassId) (as : List zV) (sz : Nat) (S : zSh) (M : zMem) : FrameBlind (z_Pre E D dA as sz S M) := fun a U g mk h => ⟨h.1, h.2.1, z_C_calling h.2.2⟩
def z_in : List zV → zLs
  | [] => []
  | .inr (.inl x) :: t => some (zl x) :: none :: z_in t
  | v :: t => some v :: z_in t
theorem z_in_len (E : zAd) : ∀ as : List zV, (lg_sl (as.map (z_val E))).length = (z_in as).length
  | [] => rfl
  | .inl x :: t => by
    have h := z_in_len E t
    simp only [lg_sl, List.map_cons, List.flatMap_cons] at h ⊢
    rw [if_neg (by rw [z_c1i]; decide)]
    simp [z_in, h]
  | .inr (.inl x) :: t => by
    have h := z_in_len E t
    simp only [lg_sl, List.map_cons, List.flatMap_cons] at h ⊢
    rw [if_pos (z_c2l E x)]
    simp [z_in, h]
  | .inr (.inr x) :: t => by
    have h := z_in_len E t
    simp only [lg_sl, List.map_cons, List.flatMap_cons] at h ⊢
    rw [if_neg (by rw [z_c1r]; decide)]
    simp [z_in, h]
theorem z_as_rep (E : zAd) (n : Nat) : ∀ k, z_as E k (List.replicate n none) = [] := by
  induction n with
  | zero => intro k; rfl
  | succ n ih => intro k; rw [List.replicate_succ]; exact ih (k + 1)
theorem z_in_as (E : zAd) (n : Nat) : ∀ (as : List zV) (k : Nat), z_as E k (z_in as ++ List.replicate n none) = lv_args k (as.map (z_val E))
  | [], k => by simp [z_in, z_as_rep, lv_args]
  | .inl x :: t, k => by
    simp only [z_in, List.cons_append, z_as, List.map_cons, lv_args]
    rw [if_neg (by rw [z_c1i]; decide), z_in_as E n t (k + 1)]
  | .inr (.inl x) :: t, k => by
    simp only [z_in, List.cons_append, z_as, List.map_cons, lv_args]
    rw [if_pos (z_c2l E x), z_in_as E n t (k + 1 + 1)]
  | .inr (.inr x) :: t, k => by
    simp only [z_in, List.cons_append, z_as, List.map_cons, lv_args]
    rw [if_neg (by rw [z_c1r]; decide), z_in_as E n t (k + 1)]
theorem z_in_ok : ∀ (as : List zV) {v : zV}, some v ∈ z_in as → v ∈ as
  | [], v => fun h => by simp [z_in] at h
  | .inl x :: t, v => fun h => by
    simp [z_in] at h
    rcases h with rfl | h
    · exact List.mem_cons_self
    · exact List.mem_cons_of_mem _ (z_in_ok t h)
  | .inr (.inl x) :: t, v => fun h => by
    simp [z_in] at h
    rcases h with rfl | h
    · exact List.mem_cons_self
    · exact List.mem_cons_of_mem _ (z_in_ok t h)
  | .inr (.inr x) :: t, v => fun h => by
    simp [z_in] at h
    rcases h with rfl | h
    · exact List.mem_cons_self
    · exact List.mem_cons_of_mem _ (z_in_ok t h)
set_option maxHeartbeats 1000000 in
/-- a method's contract out of its walk -/
theorem zX_of {mt : zMt} {d kc ks : Nat} {as : List zV} {sz : Nat} {S : zSh} {M : zMem} {Q : zQ} (hpl : plainName mt.1.cls = true) (ls : zLs) (n : Nat) (hls : z_in as ++ List.replicate n none = ls) (hn : (z_in as).length + n = mt.2.2.1) (h : zW mt d kc ks [] Q 0 ls [] sz S M) : zX d kc ks mt as sz S M Q := by
  intro l E D dA hok
  refine Met.ofW (cc := mt.2.1) (maxL := mt.2.2.1) (ret := mt.2.2.2) hpl rfl ?_
  intro p e s m args below meth c s₁ B hml hv
  obtain ⟨rfl, hR, hC⟩ := hv
  have hts0 := atoms_spec (ws := z_wd mt) B.pre
  have hlocks := B.notSynchronized
  have hlen := z_in_len E as
  have hl := lv_entry (as.map (z_val E)) (n := mt.2.2.1) (by rw [hlen]; omega)
  rw [lg_entry_eq]
  generalize (lg_sl (as.map (z_val E)) ++ List.replicate (mt.2.2.1 - (lg_sl (as.map (z_val E))).length) Slot.unset).toArray = lr at hl ⊢
  refine h E D dA p l e _ s m _ below meth c _ ⟨B.exec, B.bytes, hml, findClass_of_methodNamed B.named, fun w hw => hts0 w (List.mem_cons_of_mem _ hw), (name_of_methodNamed B.named B.method).1, Nat.le_refl _, Nat.le_refl _, by rw [hR.1]; omega, hC, Or.inl rfl, ?_⟩ s.heap [] 0 0 lr hR va_S.rf (by rw [Nat.zero_add]; exact Nat.le_refl _) (by rw [Nat.zero_add]; exact Nat.le_refl _) (fun v hv => by simp at hv) ⟨?_, ?_, ?_⟩
  · intro v sz1 S1 M1 H locs cells slots pc lr1 hQ hR1 hS1 hc hs hvo hrd
    refine W.widen (k := kc) (n := ks) hc hs ?_
    have hq : ∀ t : State, t.heap = H → s.WarmedH t.vm → z_Post E D dA Q (as.map (z_val E)).toArray s (.returned (v.map (z_val E))) t := fun t ht _ => ⟨⟨v, sz1, S1, M1, rfl, hQ, hvo, by rw [ht]; exact hR1⟩, hS1.F ht⟩
    have hret := B.returns
    match v, hrd, hq with
    | none, hrd, hq => exact W.vret B.exec B.bytes (by rw [hret]; exact hrd.2) hq hS1.2.2 hrd.1
    | some (.inl x), hrd, hq =>
      rcases hrd.2 with h2 | ⟨h2, h3⟩
      · exact W.iret B.exec B.bytes (by rw [hret]; exact h2) hq hS1.2.2 hrd.1
      · exact W.zret (ty := .boolean) B.exec B.bytes (by rw [hret]; exact h2) (z_bool h3 E).1 hq hS1.2.2 hrd.1
    | some (.inr (.inl x)), hrd, hq => exact W.lret B.exec B.bytes (by rw [hret]; exact hrd.2) hq hS1.2.2 hrd.1
    | some (.inr (.inr x)), hrd, hq =>
      obtain ⟨nm, h2⟩ := hrd.2
      exact W.aret (rt := .object nm) B.exec B.bytes (by rw [hret]; exact h2) (Or.inl ⟨_, rfl⟩) (z_rfc E x) hq hS1.2.2 hrd.1
  · rw [← hls, z_in_as]; exact hl
  · intro v hv
    rw [← hls] at hv
    rcases List.mem_append.mp hv with h1 | h1
    · exact hok v (z_in_ok as h1)
    · have := List.eq_of_mem_replicate h1
      cases this
  · rw [← hls, List.length_append, List.length_replicate]; exact hn
section ZC
variable {mt mt2 : zMt} {d kc ks kc2 ks2 : Nat} {sc : List Int} {Q Q2 : zQ} {pc : Nat} {ls : zLs} {st : List zV} {sz : Nat} {S : zSh} {M : zMem} {x y : Int} {a n : Nat} {f : Nat → Int}
theorem x_iret (hdg : decode mt.2.1 pc = .ok (.ireturn, 1)) (hr : mt.2.2.2 = some .int) (hq : Q (some (zi x)) sz S M) : zW mt d kc ks sc Q pc ls [zi x] sz S M := by
  intro E D dA p l e R s m args below meth c QQ hE H locs cells slots lr hR hS0 hc hs ho hL
  exact hE.2.2.2.2.2.2.2.2.2.2.2 (some (zi x)) sz S M H locs cells slots pc lr hq hR hS0 (by omega) (by omega) (fun v hv => by cases hv; exact ho _ (by simp)) ⟨hdg, Or.inl hr⟩
theorem x_zret (hdg : decode mt.2.1 pc = .ok (.ireturn, 1)) (hr : mt.2.2.2 = some .boolean) (h01 : x = 0 ∨ x = 1) (hq : Q (some (zi x)) sz S M) : zW mt d kc ks sc Q pc ls [zi x] sz S M := by
  intro E D dA p l e R s m args below meth c QQ hE H locs cells slots lr hR hS0 hc hs ho hL
  exact hE.2.2.2.2.2.2.2.2.2.2.2 (some (zi x)) sz S M H locs cells slots pc lr hq hR hS0 (by omega) (by omega) (fun v hv => by cases hv; exact ho _ (by simp)) ⟨hdg, Or.inr ⟨hr, h01⟩⟩
theorem x_lret (hdg : decode mt.2.1 pc = .ok (.lreturn, 1)) (hr : mt.2.2.2 = some .long) (hq : Q (some (zl x)) sz S M) : zW mt d kc ks sc Q pc ls [zl x] sz S M := by
  intro E D dA p l e R s m args below meth c QQ hE H locs cells slots lr hR hS0 hc hs ho hL
  exact hE.2.2.2.2.2.2.2.2.2.2.2 (some (zl x)) sz S M H locs cells slots pc lr hq hR hS0 (by omega) (by omega) (fun v hv => by cases hv; exact ho _ (by simp)) ⟨hdg, hr⟩
theorem x_aret (hdg : decode mt.2.1 pc = .ok (.areturn, 1)) (hr : ∃ n, mt.2.2.2 = some (.object n)) (hq : Q (some (zr x)) sz S M) : zW mt d kc ks sc Q pc ls [zr x] sz S M := by
  intro E D dA p l e R s m args below meth c QQ hE H locs cells slots lr hR hS0 hc hs ho hL
  exact hE.2.2.2.2.2.2.2.2.2.2.2 (some (zr x)) sz S M H locs cells slots pc lr hq hR hS0 (by omega) (by omega) (fun v hv => by cases hv; exact ho _ (by simp)) ⟨hdg, hr⟩
theorem x_vret (hdg : decode mt.2.1 pc = .ok (.return_, 1)) (hr : mt.2.2.2 = none) (hq : Q none sz S M) : zW mt d kc ks sc Q pc ls [] sz S M := by
  intro E D dA p l e R s m args below meth c QQ hE H locs cells slots lr hR hS0 hc hs ho hL
  exact hE.2.2.2.2.2.2.2.2.2.2.2 none sz S M H locs cells slots pc lr hq hR hS0 (by omega) (by omega) (fun v hv => by cases hv) ⟨hdg, hr⟩
theorem z_cont {E : zAd} {D : va_G} {dA : Nat → ClassId} {p : Program} {l : Launch} {e : Env} {R : Room} {s : State} {m : MethodId} {args : Array Value} {below : List Frame} {meth : Method} {c : Code} {QQ : State → Prop} {H : Heap} {locs : List Loc} {cells slots mc ms : Nat} {lr : Array Slot} {aa : Array Value} {st0 rest : List Value} (hr : va_Run p l e R s m args below meth c H locs cells slots mc ms (F0 m pc lr st0) rest (z_Post E D dA Q2 aa) (z_A E)) (hS : va_S (z_A E) s.heap H locs) (kk : ∀ (v : Option zV) (sz : Nat) (S : zSh) (M : zMem) (H1 : Heap) (locs1 : List Loc), Q2 v sz S M → (∀ x, v = some x → z_ok x) → z_R E D dA sz S M H1 → va_S (z_A E) s.heap H1 locs1 → W p l e R s m args below meth c H1 locs1 (cells + mc) (slots + ms) QQ (F0 m (pc + 3) lr ((v.map (z_val E)).toList ++ rest))) : W p l e R s m args below meth c H locs cells slots QQ (F0 m pc lr st0) := by
  intro T hT X
  obtain ⟨v, st₀, t, T', L, h0, X', hL, e1, e2, ⟨⟨v', sz', S', M', hv, hq, hvo, hR'⟩, hz, hk⟩, st⟩ := hr T hT X
  cases hv
  rw [h0] at hz hk
  obtain ⟨t2, a1, b1⟩ := kk v' sz' S' M' T'.heap (locs ++ L) hq hvo (by rw [e1]; exact hR')
    ⟨Nat.le_trans hS.1 (by rw [e1]; exact hz), fun q h1 h2 => by rw [e1, hk q (Nat.lt_of_lt_of_le h1 hS.1) h2]; exact hS.2.1 q h1 h2, fun q hq => by
      rcases List.mem_append.mp hq with h | h
      · exact hS.2.2 q h
      · exact hL q h⟩ T' rfl X'
  exact ⟨t2, st t2 a1, b1⟩
def z_MB (mt2 : zMt) (nA : Nat) : Prop := Cond.code mt2.1 mt2.2.1 mt2.2.2.1 mt2.2.2.2 ∈ z_tb ∧ Cond.initialized mt2.1.cls ∈ z_tb ∧ (mt2.1.cls ≠ "java/lang/invoke/MethodHandle" ∧ mt2.1.cls ≠ "java/lang/invoke/VarHandle" ∧ (parseMethodDescriptor mt2.1.desc).map (fun d => d.parameters.length) = some nA) ∧ mt2.2.2.1 ≤ 45
def z_MV (own : String) (idx : Nat) (mt2 : zMt) (ci nA : Nat) : Prop := z_MB mt2 nA ∧ ∃ (C : String) (T : u_T) (N : Nat), vwCl[ci]? = some (C, T, N) ∧ ci < 20 ∧ Cond.methodLink own idx mt2.1 ∈ z_tb ∧ Cond.instanceMethod mt2.1 ∈ z_tb ∧ Cond.selects C mt2.1 mt2.1 ∈ z_tb
def z_MS (own : String) (idx : Nat) (mt2 : zMt) (nA : Nat) : Prop := z_MB mt2 nA ∧ Cond.methodLink own idx mt2.1 ∈ z_tb ∧ Cond.static mt2.1 ∈ z_tb
def z_MI (own : String) (idx : Nat) (mt2 : zMt) (nA : Nat) : Prop := z_MB mt2 nA ∧ (Cond.methodLink own idx mt2.1 ∈ z_tb ∨ ∃ host, Cond.methodLinkNest own idx mt2.1 host ∈ z_nest) ∧ Cond.instanceMethod mt2.1 ∈ z_tb ∧ mt2.1.name = "<init>" ∧ mt2.2.2.2 = none
theorem z_rest {E : zAd} {rest : List zV} (h : rest.length ≤ 4) : ((rest.map (z_val E)).map fun v => v.category).sum ≤ 8 := by
  have h2 : ∀ l : List zV, ((l.map (z_val E)).map fun v => v.category).sum ≤ 2 * l.length := by
    intro l
    induction l with
    | nil => simp
    | cons v t ih =>
      have h3 : (z_val E v).category ≤ 2 := by rcases lv_cat (z_val E v) with h | h <;> omega
      simp only [List.map_cons, List.sum_cons, List.length_cons]
      omega
  have := h2 rest
  omega
theorem z_callB {own : String} {idx nA : Nat} {E : zAd} {args : Array Value} {s : State} {R : Room} (hts : ∀ w ∈ z_tb, w.before args s = true) (hB : z_MB mt2 nA) (hl : Cond.methodLink own idx mt2.1 ∈ z_tb) (hf : d + 1 ≤ R.frames) (hlo : 64 * (d + 1) + 64 ≤ R.locals) : CallB R s args own idx mt2.1 mt2.2.1 mt2.2.2.1 mt2.2.2.2 (z_wd mt2) (z_rm d kc2 ks2) kc2 ks2 nA :=
  callB_of nA hts (z_good hB.1) rfl rfl rfl (hts _ hB.2.1) (hts _ hl) hB.2.2.1 ⟨hf, by have := hB.2.2.2; show 8 + (mt2.2.2.1 + 11) + (64 * d + 64) ≤ _; omega⟩
theorem z_pre {E : zAd} {D : va_G} {dA : Nat → ClassId} {as : List zV} {s : State} {H : Heap} {locs : List Loc} (hR : z_R E D dA sz S M H) (hC : z_C E D dA s s.heap) (hS : va_S (z_A E) s.heap H locs) : ∀ U : State, U.heap = H → s.WarmedH U.vm → z_Pre E D dA as sz S M (as.map (z_val E)).toArray U :=
  fun U hU hW => ⟨rfl, by rw [hU]; exact hR, by rw [hU]; exact z_C_warm hW hS.2.1 hC⟩
theorem x_callV {idx ci nA : Nat} {as rest : List zV} (pc' : Nat) (hp : pc + 3 = pc') (hl : z_MV mt.1.cls idx mt2 ci nA) (hdg : decode mt.2.1 pc = .ok (.invokevirtual idx, 3)) (ha : a < sz) (hSa : S a = (ci, n, f)) (hX : zX d kc2 ks2 mt2 (zn a :: as) sz S M Q2) (hst : st = as.reverse ++ zn a :: rest) (hnA : as.length = nA) (hre : rest.length ≤ 4) (kk : ∀ (v : Option zV) (sz' : Nat) (S' : zSh) (M' : zMem), Q2 v sz' S' M' → zW mt (d + 1) kc ks sc Q pc' ls (v.toList ++ rest) sz' S' M') : zW mt (d + 1) (kc + kc2) (ks + ks2) sc Q pc ls st sz S M := by
  subst hp
  subst hst
  intro E D dA p l e R s m args below meth c QQ hE H locs cells slots lr hR hS0 hc hs ho hL
  have hC := hE.2.2.2.2.2.2.2.2.2.1
  have hts := hE.2.2.2.2.1
  obtain ⟨hB, C, T, N, hcl, h20, h1, h2, h3⟩ := hl
  have hg := z_ws_get (E := E) (dA := dA) (S := S) (M := M) ha
  rw [z_ent_o hSa h20] at hg
  have hM := hX l E D dA (fun v hv => ho v (by
    rcases List.mem_cons.mp hv with rfl | h
    · simp
    · simp [h]))
  have hrun := va_runV (g := F0 m pc lr ((as.reverse ++ zn a :: rest).map (z_val E))) (As := as.map (z_val E)) (rest := rest.map (z_val E)) (b := E.1 + a) (H := H) (locs := locs) (cells := cells) (slots := slots) (e := e) (below := below) (meth := meth) (l := l) (n := nA) (index := idx) (C := C) ⟨hE.1, hE.2.1, hE.2.2.1, hE.2.2.2.1, hts⟩ hM ⟨z_callB (d := d) (R := R) (E := E) hts hB h1 hE.2.2.2.2.2.2.1 hE.2.2.2.2.2.2.2.1, hts _ h2, hts _ h3⟩ ⟨z_blind _ _ _ _ _ _ _, va_recv hC.1 hR.2.1 hcl hg, fun U hU hW => by
      have := z_pre (as := zn a :: as) hR hC hS0 U hU hW
      rwa [List.map_cons, z_vn] at this⟩ rfl (by simpa using hnA) hL.1.1 (by simp [z_vn]) (lv_room (z_rest hre)) hdg ⟨by omega, by omega⟩
  refine z_cont hrun hS0 (fun v sz' S' M' H1 locs1 hq hvo hR1 hS1 => ?_)
  have h9 := kk v sz' S' M' hq E D dA p l e R s m args below meth c QQ hE H1 locs1 (cells + kc2) (slots + ks2) lr hR1 hS1 (by omega) (by omega) (fun u hu => by
    rcases List.mem_append.mp hu with h | h
    · exact hvo u (by simpa using h)
    · exact ho u (by simp [h])) hL
  rw [List.map_append] at h9
  cases v <;> exact h9
theorem x_callS {idx nA : Nat} {as rest : List zV} (pc' : Nat) (hp : pc + 3 = pc') (hl : z_MS mt.1.cls idx mt2 nA) (hdg : decode mt.2.1 pc = .ok (.invokestatic idx, 3)) (hX : zX d kc2 ks2 mt2 as sz S M Q2) (hst : st = as.reverse ++ rest) (hnA : as.length = nA) (hre : rest.length ≤ 4) (kk : ∀ (v : Option zV) (sz' : Nat) (S' : zSh) (M' : zMem), Q2 v sz' S' M' → zW mt (d + 1) kc ks sc Q pc' ls (v.toList ++ rest) sz' S' M') : zW mt (d + 1) (kc + kc2) (ks + ks2) sc Q pc ls st sz S M := by
  subst hp
  subst hst
  intro E D dA p l e R s m args below meth c QQ hE H locs cells slots lr hR hS0 hc hs ho hL
  have hC := hE.2.2.2.2.2.2.2.2.2.1
  have hts := hE.2.2.2.2.1
  obtain ⟨hB, h1, h2⟩ := hl
  have hM := hX l E D dA (fun v hv => ho v (by simp [hv]))
  have hrun := va_runS (g := F0 m pc lr ((as.reverse ++ rest).map (z_val E))) (As := as.map (z_val E)) (rest := rest.map (z_val E)) (H := H) (locs := locs) (cells := cells) (slots := slots) (e := e) (below := below) (meth := meth) (l := l) (n := nA) (index := idx) ⟨hE.1, hE.2.1, hE.2.2.1, hE.2.2.2.1, hts⟩ hM ⟨z_callB (d := d) (R := R) (E := E) hts hB h1 hE.2.2.2.2.2.2.1 hE.2.2.2.2.2.2.2.1, hts _ h2⟩ ⟨z_blind _ _ _ _ _ _ _, z_pre hR hC hS0⟩ rfl (by simpa using hnA) hL.1.1 (by simp) (lv_room (z_rest hre)) hdg ⟨by omega, by omega⟩
  refine z_cont hrun hS0 (fun v sz' S' M' H1 locs1 hq hvo hR1 hS1 => ?_)
  have h9 := kk v sz' S' M' hq E D dA p l e R s m args below meth c QQ hE H1 locs1 (cells + kc2) (slots + ks2) lr hR1 hS1 (by omega) (by omega) (fun u hu => by
    rcases List.mem_append.mp hu with h | h
    · exact hvo u (by simpa using h)
    · exact ho u (by simp [h])) hL
  rw [List.map_append] at h9
  cases v <;> exact h9
theorem x_callI {idx nA : Nat} {as rest : List zV} (pc' : Nat) (hp : pc + 3 = pc') (hl : z_MI mt.1.cls idx mt2 nA) (hdg : decode mt.2.1 pc = .ok (.invokespecial idx, 3)) (hX : zX d kc2 ks2 mt2 (zn a :: as) sz S M Q2) (hst : st = as.reverse ++ zn a :: rest) (hnA : as.length = nA) (hre : rest.length ≤ 4) (kk : ∀ (v : Option zV) (sz' : Nat) (S' : zSh) (M' : zMem), Q2 v sz' S' M' → zW mt (d + 1) kc ks sc Q pc' ls (v.toList ++ rest) sz' S' M') : zW mt (d + 1) (kc + kc2) (ks + ks2) sc Q pc ls st sz S M := by
  subst hp
  subst hst
  intro E D dA p l e R s m args below meth c QQ hE H locs cells slots lr hR hS0 hc hs ho hL
  have hC := hE.2.2.2.2.2.2.2.2.2.1
  have hts := hE.2.2.2.2.1
  obtain ⟨hB, h1, h2, h3, h4⟩ := hl
  have hM := hX l E D dA (fun v hv => ho v (by
    rcases List.mem_cons.mp hv with rfl | h
    · simp
    · simp [h]))
  have hpre : PreS s H (z_Pre E D dA (zn a :: as) sz S M) (Value.ref (E.1 + a) :: as.map (z_val E)) := ⟨z_blind _ _ _ _ _ _ _, fun U hU hW => by
      have := z_pre (as := zn a :: as) hR hC hS0 U hU hW
      rwa [List.map_cons, z_vn] at this⟩
  have hst0 : (F0 m pc lr ((as.reverse ++ zn a :: rest).map (z_val E))).stack = (as.map (z_val E)).reverse ++ Value.ref (E.1 + a) :: rest.map (z_val E) := by simp [z_vn]
  have hrun : va_Run p l e R s m args below meth c H locs cells slots kc2 ks2 (F0 m pc lr ((as.reverse ++ zn a :: rest).map (z_val E))) (rest.map (z_val E)) (z_Post E D dA Q2 (Value.ref (E.1 + a) :: as.map (z_val E)).toArray) (z_A E) := by
    obtain ⟨y2, cc2, nL2, ret2⟩ := mt2
    have h4 : ret2 = none := h4
    subst h4
    rcases h1 with h1 | ⟨host, h1⟩
    · exact va_runI (n := nA) ⟨hE.1, hE.2.1, hE.2.2.1, hE.2.2.2.1, hts⟩ hM ⟨z_callB (d := d) (R := R) (E := E) hts hB h1 hE.2.2.2.2.2.2.1 hE.2.2.2.2.2.2.2.1, h3, hts _ h2⟩ hpre rfl (by simpa using hnA) hL.1.1 hst0 (lv_room (z_rest hre)) hdg ⟨by omega, by omega⟩
    · exact va_runIN (n := nA) (host := host) ⟨hE.1, hE.2.1, hE.2.2.1, hE.2.2.2.1, hts⟩ hM ⟨va_cnB nA hts (z_good hB.1) rfl rfl rfl (hC.2.1 _ h1) (hts _ hB.2.1) hB.2.2.1 ⟨hE.2.2.2.2.2.2.1, by have := hB.2.2.2; have := hE.2.2.2.2.2.2.2.1; show 8 + (nL2 + 11) + (64 * d + 64) ≤ _; simp only at *; omega⟩, h3, hts _ h2⟩ hpre rfl (by simpa using hnA) hL.1.1 hst0 (lv_room (z_rest hre)) hdg ⟨by omega, by omega⟩
  refine z_cont hrun hS0 (fun v sz' S' M' H1 locs1 hq hvo hR1 hS1 => ?_)
  have h9 := kk v sz' S' M' hq E D dA p l e R s m args below meth c QQ hE H1 locs1 (cells + kc2) (slots + ks2) lr hR1 hS1 (by omega) (by omega) (fun u hu => by
    rcases List.mem_append.mp hu with h | h
    · exact hvo u (by simpa using h)
    · exact ho u (by simp [h])) hL
  rw [List.map_append] at h9
  cases v <;> exact h9
theorem x_objInit {idx : Nat} (pc' : Nat) (hp : pc + 3 = pc') (h1 : Cond.methodLink mt.1.cls idx Lib.objectInit ∈ z_tb) (h2 : Cond.instanceMethod Lib.objectInit ∈ z_tb) (h3 : Cond.code Lib.objectInit ⟨#[0xb1]⟩ 1 none ∈ z_tb) (hdg : decode mt.2.1 pc = .ok (.invokespecial idx, 3)) (hre : st.length ≤ 4) (kk : zW mt (d + 1) kc ks sc Q pc' ls st sz S M) : zW mt (d + 1) kc ks sc Q pc ls (zn a :: st) sz S M := by
  subst hp
  intro E D dA p l e R s m args below meth c QQ hE H locs cells slots lr hR hS0 hc hs ho hL
  have hts := hE.2.2.2.2.1
  simp only [List.map_cons, z_vn]
  have hz := z_rest (E := E) hre
  refine W.objInit hE.1 hE.2.1 hE.2.2.2.1 (hts _ h1) (hts _ h2) (hts _ h3) rfl (by rw [hE.2.2.1]; exact hL.1.1) rfl hdg (by have := hE.2.2.2.2.2.2.1; omega) ?_ (kk E D dA p l e R s m args below meth c QQ hE H locs cells slots lr hR hS0 hc hs (fun u hu => ho u (by simp [hu])) hL)
  have h8 := lv_room (m := m) (pc := pc) (ls := lr) (rest := Value.ref (E.1 + a) :: st.map (z_val E)) hz
  have := hE.2.2.2.2.2.2.2.1
  omega
end ZC
