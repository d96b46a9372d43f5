theorem pl_RX0 : plainName RX0 = true := by decide +kernel
theorem pl_RX1 : plainName RX1 = true := by decide +kernel
theorem pl_RX2 : plainName RX2 = true := by decide +kernel
theorem pl_RX3 : plainName RX3 = true := by decide +kernel
theorem pl_RX4 : plainName RX4 = true := by decide +kernel
theorem pl_RX5 : plainName RX5 = true := by decide +kernel
theorem pl_RX6 : plainName RX6 = true := by decide +kernel
theorem pl_RX7 : plainName RX7 = true := by decide +kernel
theorem pl_RX8 : plainName RX8 = true := by decide +kernel
theorem pl_RX9 : plainName RX9 = true := by decide +kernel
theorem pl_RX10 : plainName RX10 = true := by decide +kernel
theorem pl_RX11 : plainName RX11 = true := by decide +kernel
theorem pl_RJ6 : plainName RJ6 = true := by decide +kernel
theorem pf_J9a : plainFor yJ9_floorDiv_7cf53 = true := by decide +kernel
theorem pf_J9b : plainFor yJ9_max_7cf53 = true := by decide +kernel
theorem pf_J9c : plainFor yJ9_max_f86c9 = true := by decide +kernel
theorem pf_J9d : plainFor yJ9_min_7cf53 = true := by decide +kernel
section ZT
variable {mt : zMt} {d kc ks : Nat} {sc : List Int} {Q : zQ} {pc : Nat} {ls : zLs} {st : List zV} {sz : Nat} {S : zSh} {M : zMem} {x : Int}
theorem x_tsC (c : Int) (tgt i : Nat) {dflt lo hi : Int} {offs : Array Int} {len : Nat} {off : Int} (hdg : decode mt.2.1 pc = .ok (.tableswitch dflt lo hi offs, len)) (h1 : lo ≤ c) (h2 : c ≤ hi) (h3 : c - lo = (i : Int)) (ho : offs[i]? = some off) (ht : (pc : Int) + off = (tgt : Int)) (kt : x = c → zW mt d kc ks sc Q tgt ls st sz S M) (kf : ¬ x = c → zW mt d kc ks sc Q pc ls (zi x :: st) sz S M) : zW mt d kc ks sc Q pc ls (zi x :: st) sz S M := by
  by_cases h : x = c
  · have h9 := kt h
    subst h
    exact x_tsIn tgt i hdg h1 h2 h3 ho ht h9
  · exact kf h
end ZT
theorem z_ofWF {l : Launch} {y : MethodName} {ws ws' : List Cond} {rm : Room} {Pc : Array Value → State → Prop} {Qc : Array Value → State → Outcome → State → Prop} {mc ms : Nat} {free : Addr → Prop} {cc : ByteArray} {maxL : Nat} {ret : Option FieldType}
    (hy : plainFor y = true) (hw : ws = Cond.code y cc maxL ret :: ws')
    (body : ∀ p e s m args below meth c s₁, BodyLoose p l y (headSpec ws rm) cc maxL ret e s m args below meth c s₁ → c.maxLocals = maxL → Pc args s →
      W p l e (headSpec ws rm).room s m args below meth c s.heap [] 0 0 (MQ below Qc args s mc ms free) (entryFrame m args maxL)) : Met l y ws rm Pc Qc mc ms free := by
  refine MetFree.of_bodyRF (code := cc) (maxLocals := maxL) (ret := ret) hy ?_ ?_
  · intro args s m h hn
    obtain ⟨meth, c, h1, h2, h3, h4, h5, h6, -, -⟩ := Cond.code_spec hn (atoms_spec (ws := ws) h _ (by rw [hw]; exact List.mem_cons_self))
    exact ⟨meth, c, h1, h2, h3, h4, h5, h6⟩
  · intro p e s m args below meth c s₁ B hml hP _ hsteps
    have hh0 : s₁.heap = s.heap := by rw [B.state]; rfl
    obtain ⟨t, a1, o, b1, b2, b3⟩ := body p e s m args below meth c s₁ B hml hP s₁ hh0 (Stand.of_body B)
    exact ⟨t, o, hsteps.trans a1, b1, b2, ⟨b3.1, b3.2⟩⟩
set_option maxHeartbeats 1000000 in
/-- a method's contract out of its walk -/
theorem zX_ofF {mt : zMt} {d kc ks : Nat} {as : List zV} {sz : Nat} {S : zSh} {M : zMem} {Q : zQ} (hpl : plainFor mt.1 = true) (ls : zLs) (n : Nat) (hls : z_in as ++ List.replicate n none = ls) (hn : (z_in as).length + n = mt.2.2.1) (h : zW mt d kc ks [] Q 0 ls [] sz S M) : zX d kc ks mt as sz S M Q := by
  intro l E D dA hok
  refine z_ofWF (cc := mt.2.1) (maxL := mt.2.2.1) (ret := mt.2.2.2) hpl rfl ?_
  intro p e s m args below meth c s₁ B hml hv
  obtain ⟨rfl, hR, hC⟩ := hv
  have hts0 := atoms_spec (ws := z_wd mt) B.pre
  have hlocks := B.notSynchronized
  have hlen := z_in_len E as
  have hl := lv_entry (as.map (z_val E)) (n := mt.2.2.1) (by rw [hlen]; omega)
  rw [lg_entry_eq]
  generalize (lg_sl (as.map (z_val E)) ++ List.replicate (mt.2.2.1 - (lg_sl (as.map (z_val E))).length) Slot.unset).toArray = lr at hl ⊢
  refine h E D dA p l e _ s m _ below meth c _ ⟨B.exec, B.bytes, hml, findClass_of_methodNamed B.named, fun w hw => hts0 w (List.mem_cons_of_mem _ hw), (name_of_methodNamed B.named B.method).1, Nat.le_refl _, Nat.le_refl _, by rw [hR.1]; omega, hC, Or.inl rfl, ?_⟩ s.heap [] 0 0 lr hR va_S.rf (by rw [Nat.zero_add]; exact Nat.le_refl _) (by rw [Nat.zero_add]; exact Nat.le_refl _) (fun v hv => by simp at hv) ⟨?_, ?_, ?_⟩
  · intro v sz1 S1 M1 H locs cells slots pc lr1 hQ hR1 hS1 hc hs hvo hrd
    refine W.widen (k := kc) (n := ks) hc hs ?_
    have hq : ∀ t : State, t.heap = H → s.WarmedH t.vm → z_Post E D dA Q (as.map (z_val E)).toArray s (.returned (v.map (z_val E))) t := fun t ht _ => ⟨⟨v, sz1, S1, M1, rfl, hQ, hvo, by rw [ht]; exact hR1⟩, hS1.F ht⟩
    have hret := B.returns
    match v, hrd, hq with
    | none, hrd, hq => exact W.vret B.exec B.bytes (by rw [hret]; exact hrd.2) hq hS1.2.2 hrd.1
    | some (.inl x), hrd, hq =>
      rcases hrd.2 with h2 | ⟨h2, h3⟩
      · exact W.iret B.exec B.bytes (by rw [hret]; exact h2) hq hS1.2.2 hrd.1
      · exact W.zret (ty := .boolean) B.exec B.bytes (by rw [hret]; exact h2) (z_bool h3 E).1 hq hS1.2.2 hrd.1
    | some (.inr (.inl x)), hrd, hq => exact W.lret B.exec B.bytes (by rw [hret]; exact hrd.2) hq hS1.2.2 hrd.1
    | some (.inr (.inr x)), hrd, hq =>
      obtain ⟨nm, h2⟩ := hrd.2
      exact W.aret (rt := .object nm) B.exec B.bytes (by rw [hret]; exact h2) (Or.inl ⟨_, rfl⟩) (z_rfc E x) hq hS1.2.2 hrd.1
  · rw [← hls, z_in_as]; exact hl
  · intro v hv
    rw [← hls] at hv
    rcases List.mem_append.mp hv with h1 | h1
    · exact hok v (z_in_ok as h1)
    · have := List.eq_of_mem_replicate h1
      cases this
  · rw [← hls, List.length_append, List.length_replicate]; exact hn
