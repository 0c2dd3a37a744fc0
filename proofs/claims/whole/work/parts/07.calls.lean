/-! calls: a body's end is a contract; links; the rule of a call -/
def g_ok (M : MD) : Prop := plainFor M.1 = true ∧ Cond.code M.1 M.2.1 M.2.2.1 M.2.2.2.1 ∈ gw ∧ Cond.initialized M.1.cls ∈ gw ∧ M.1.cls ≠ "java/lang/invoke/MethodHandle" ∧ M.1.cls ≠ "java/lang/invoke/VarHandle"
def g_wm (M : MD) : List Cond := Cond.code M.1 M.2.1 M.2.2.1 M.2.2.2.1 :: gw
def g_rm (M : MD) (mc ms : Nat) : Room := { frames := M.2.2.2.2.1, cells := mc, slots := ms, locals := M.2.2.2.2.2 }
def g_Pc (G : Wd) (σ : St) (vs : List Value) : Array Value → State → Prop := va_Pc (vs.map (g_tr G)) (fun U => g_Uw G U ∧ g_Wk G σ U.heap ∧ g_a G ≤ U.heap.size)
def g_Qc (G : Wd) (nE : Nat) (Q : Option Value → St → Prop) : Array Value → State → Outcome → State → Prop := fun _ st o t => (∃ (v : Option Value) (σ' : St), o = .returned (v.map (g_tr G)) ∧ Q v σ' ∧ σ'.2.2.2 = nE ∧ g_Wk G σ' t.heap) ∧ va_F (g_A G) st t
theorem g_wm_good {M : MD} (h : g_ok M) : GoodIn gw (g_wm M) := gw_goodc (fun w hw => (List.mem_cons.mp hw).elim (fun e => e ▸ h.2.1) (fun q => q))
theorem g_ent_at (G : Wd) : ∀ (vs : List Value) (n b i : Nat) (v : Value), (g_ent n vs)[i]? = some (some v) → (b + i, g_tr G v) ∈ lv_args b (vs.map (g_tr G)) := by
  intro vs
  induction vs with
  | nil =>
    intro n b i v h
    rw [g_ent, List.getElem?_replicate] at h
    split at h <;> cases h
  | cons a l ih =>
    intro n b i v h
    rw [List.map_cons, lv_args]
    rcases lv_cat a with hc | hc
    · have e : g_ent n (a :: l) = some a :: g_ent (n - 1) l := by rw [g_ent, hc]; rfl
      rw [e] at h
      rw [if_neg (by rw [g_tr_cat, hc]; decide)]
      cases i with
      | zero => cases h; exact List.mem_cons_self
      | succ i =>
        rw [List.getElem?_cons_succ] at h
        have := ih _ (b + 1) i v h
        rw [show b + (i + 1) = b + 1 + i by omega]
        exact List.mem_cons_of_mem _ this
    · have e : g_ent n (a :: l) = some a :: none :: g_ent (n - 2) l := by rw [g_ent, hc]; rfl
      rw [e] at h
      rw [if_pos (by rw [g_tr_cat, hc])]
      match i, h with
      | 0, h => cases h; exact List.mem_cons_self
      | 1, h => cases h
      | i + 2, h =>
        rw [List.getElem?_cons_succ, List.getElem?_cons_succ] at h
        have := ih _ (b + 2) i v h
        rw [show b + (i + 2) = b + 2 + i by omega]
        exact List.mem_cons_of_mem _ this
theorem g_LO_ent {G : Wd} {ls : Array Slot} {n : Nat} {vs : List Value} (h : lv_has ls n (lv_args 0 (vs.map (g_tr G)))) : g_LO G ls n (g_ent n vs) :=
  ⟨h.1, h.2.1, fun i v hi => h.2.2 (i, g_tr G v) (by have := g_ent_at G vs n 0 i v hi; rwa [Nat.zero_add] at this)⟩
theorem g_lgl (G : Wd) (vs : List Value) : (lg_sl (vs.map (g_tr G))).length = (lg_sl vs).length := by
  induction vs with
  | nil => rfl
  | cons a l ih =>
    simp only [lg_sl, List.map_cons, List.flatMap_cons, List.length_append, g_tr_cat] at ih ⊢
    rw [ih]
    by_cases h : a.category = 2 <;> simp [h]
/-- a method of a class that may have natives: this one is none -/
theorem g_ofW {l : Launch} {y : MethodName} {ws ws' : List Cond} {rm : Room} {Pc : Array Value → State → Prop} {Qc : Array Value → State → Outcome → State → Prop} {mc ms : Nat} {free : Addr → Prop} {cc : ByteArray} {maxL : Nat} {ret : Option FieldType} (hy : plainFor y = true) (hw : ws = Cond.code y cc maxL ret :: ws')
    (body : ∀ p e s m args below meth c s₁, BodyLoose p l y (headSpec ws rm) cc maxL ret e s m args below meth c s₁ → c.maxLocals = maxL → Pc args s →
      W p l e (headSpec ws rm).room s m args below meth c s.heap [] 0 0 (MQ below Qc args s mc ms free) (entryFrame m args maxL)) : Met l y ws rm Pc Qc mc ms free := by
  refine MetFree.of_bodySF (code := cc) (maxLocals := maxL) (ret := ret) hy (fun args s m h hn => ?_) (fun p e s m args below meth c s₁ B hml hP _ => ?_)
  · obtain ⟨meth, c, h1, h2, h3, h4, h5, h6, -, -⟩ := Cond.code_spec hn (atoms_spec (ws := ws) h _ (by rw [hw]; exact List.mem_cons_self))
    exact ⟨meth, c, h1, h2, h3, h4, h5, h6⟩
  · obtain ⟨t, a1, o, b1, b2, b3⟩ := body p e s m args below meth c s₁ B hml hP s₁ (by rw [B.state]; rfl) (Stand.of_body B)
    exact ⟨t, o, a1, b1, b2, ⟨b3.1, b3.2⟩⟩
/-- A BODY IS A CONTRACT -/
theorem g_met {G : Wd} {M : MD} {nE : Nat} {vs : List Value} {σ : St} {Q : Option Value → St → Prop} (hok : g_ok M) (hlen : (lg_sl vs).length ≤ M.2.2.1) (hle : σ.2.2.2 ≤ nE) (h : Cc G M nE 0 (g_ent M.2.2.1 vs) [] σ Q) : Met (g_l G) M.1 (g_wm M) (g_rm M (nE - σ.2.2.2) (g_sz nE - g_sz σ.2.2.2)) (g_Pc G σ vs) (g_Qc G nE Q) (nE - σ.2.2.2) (g_sz nE - g_sz σ.2.2.2) (g_A G) := by
  refine g_ofW (cc := M.2.1) (maxL := M.2.2.1) (ret := M.2.2.2.1) hok.1 rfl ?_
  intro p e s m args below meth c s₁ B hml hv
  obtain ⟨rfl, hU, hW, ha⟩ := hv
  have hts := atoms_spec (ws := g_wm M) B.pre
  have hown : s.vm.findClass M.1.cls = some m.cls := findClass_of_methodNamed B.named
  have hin : meth.name = M.1.name := (name_of_methodNamed B.named B.method).1
  have hl := lv_entry (vs.map (g_tr G)) (n := M.2.2.1) (by rw [g_lgl]; exact hlen)
  have hlocks := B.notSynchronized
  have hsz := g_sz_le hle
  rw [lg_entry_eq]
  refine h p e _ s m _ below meth c s.heap [] _ 0 0 σ.2.2.2 _ ⟨B.exec, B.bytes, hml, hown, fun w hw => hts w (List.mem_cons_of_mem _ hw), B.returns, B.notSynchronized, hin⟩ hU ⟨Nat.le_refl _, Nat.le_refl _, ?_, ?_, hle⟩ ha hW.2.2.1 ?_ (Nat.zero_add _) (Nat.zero_add _) hW va_S.rf (g_LO_ent hl)
  · show nE ≤ (nE - σ.2.2.2) + σ.2.2.2; omega
  · show g_sz nE ≤ (g_sz nE - g_sz σ.2.2.2) + g_sz σ.2.2.2; omega
  · intro v σ' H' locs' pc' ls' hq hn hW' hS' hd hr
    have hfree : ∀ q ∈ locs', g_A G q.base := hS'.2.2
    have hQ : ∀ t : State, t.heap = H' → s.WarmedH t.vm → g_Qc G nE Q (vs.map (g_tr G)).toArray s (.returned (v.map (g_tr G))) t := fun t ht _ => ⟨⟨v, σ', rfl, hq, hn, by rw [ht]; exact hW'⟩, hS'.F ht⟩
    match v, hd, hr, hQ with
    | none, hd, hr, hQ => exact W.vret B.exec B.bytes (B.returns.trans hr) hQ hfree hd
    | some (.int z), hd, hr, hQ =>
      obtain ⟨ty, h1, h2⟩ := hr
      exact W.zret B.exec B.bytes (B.returns.trans h1) h2 hQ hfree hd
    | some (.long z), hd, hr, hQ => exact W.lret B.exec B.bytes (B.returns.trans hr) hQ hfree hd
    | some (.ref z), hd, hr, hQ =>
      obtain ⟨n, h1⟩ := hr
      exact W.aret B.exec B.bytes (B.returns.trans h1) (Or.inl ⟨n, rfl⟩) (Or.inr ⟨_, rfl⟩) hQ hfree hd
theorem g_blind {G : Wd} {σ : St} {vs : List Value} : FrameBlind (g_Pc G σ vs) := fun a U g mk q => ⟨q.1, g_Uw.same (s := U) rfl q.2.1, q.2.2.1, q.2.2.2⟩
/-- a static call -/
def g_LkS (own : String) (ins : Instr) (n : Nat) (M' : MD) : Prop :=
  ∀ (p : Program) (l : Launch) (e : Env) (R : Room) (s : State) (m : MethodId) (args : Array Value) (below : List Frame) (meth : Method) (c : Code) (cc : ByteArray) (nL : Nat) (H : Heap) (locs : List Loc) (cells slots mc ms : Nat) (Pc : Array Value → State → Prop) (Qc : Array Value → State → Outcome → State → Prop) (free : Addr → Prop) (g : JFrame) (As rest : List Value),
    CallFix p m c cc nL s args gw own → (∀ w ∈ nw, va_Nw w s) → Met l M'.1 (g_wm M') (g_rm M' mc ms) Pc Qc mc ms free → M'.2.2.2.2.1 + 1 ≤ R.frames → 8 + (M'.2.2.1 + 11) + M'.2.2.2.2.2 ≤ R.locals → PreS s H Pc As → g.method = m → As.length = n → g.locals.size = nL → g.stack = As.reverse ++ rest → 2 * g.monitorRoom + (rest.map fun v => v.category).sum ≤ 8 → decode cc g.pc = .ok (ins, 3) → cells + mc ≤ R.cells ∧ slots + ms ≤ R.slots →
    va_Run p l e R s m args below meth c H locs cells slots mc ms g rest (Qc As.toArray) free
/-- a call on an object of a class -/
def g_LkV (own : String) (ins : Instr) (C : String) (n : Nat) (M' : MD) : Prop :=
  ∀ (p : Program) (l : Launch) (e : Env) (R : Room) (s : State) (m : MethodId) (args : Array Value) (below : List Frame) (meth : Method) (c : Code) (cc : ByteArray) (nL : Nat) (H : Heap) (locs : List Loc) (cells slots mc ms : Nat) (Pc : Array Value → State → Prop) (Qc : Array Value → State → Outcome → State → Prop) (free : Addr → Prop) (g : JFrame) (b : Addr) (As rest : List Value) (D : va_G) (tys : List (ClassId × FieldType)),
    CallFix p m c cc nL s args gw own → (∀ w ∈ nw, va_Nw w s) → va_K D classes tys s → Met l M'.1 (g_wm M') (g_rm M' mc ms) Pc Qc mc ms free → M'.2.2.2.2.1 + 1 ≤ R.frames → 8 + (M'.2.2.1 + 11) + M'.2.2.2.2.2 ≤ R.locals → PreV s H C b Pc As → g.method = m → As.length = n → g.locals.size = nL → g.stack = As.reverse ++ .ref b :: rest → 2 * g.monitorRoom + (rest.map fun v => v.category).sum ≤ 8 → decode cc g.pc = .ok (ins, 3) → cells + mc ≤ R.cells ∧ slots + ms ≤ R.slots →
    va_Run p l e R s m args below meth c H locs cells slots mc ms g rest (Qc (Value.ref b :: As).toArray) free
def g_np (d : String) (n : Nat) : Prop := (parseMethodDescriptor d).map (fun q => q.parameters.length) = some n
theorem g_lkS {own : String} {idx n : Nat} {M' : MD} (hok : g_ok M') (w1 : Cond.methodLink own idx M'.1 ∈ gw) (w2 : Cond.static M'.1 ∈ gw) (hn : g_np M'.1.desc n) : g_LkS own (.invokestatic idx) n M' := by
  intro p l e R s m args below meth c cc nL H locs cells slots mc ms Pc Qc free g As rest S _ hM hf hl hp hg hA hs hst hW hd hr
  exact va_runS S hM ⟨callB_of n S.2.2.2.2 (g_wm_good hok) rfl rfl rfl (S.2.2.2.2 _ hok.2.2.1) (S.2.2.2.2 _ w1) ⟨hok.2.2.2.1, hok.2.2.2.2, hn⟩ ⟨hf, hl⟩, S.2.2.2.2 _ w2⟩ hp hg hA hs hst hW hd hr
theorem g_lkSN {own host : String} {idx n : Nat} {M' : MD} (hok : g_ok M') (w1 : Cond.methodLinkNest own idx M'.1 host ∈ nw) (w2 : Cond.static M'.1 ∈ gw) (hn : g_np M'.1.desc n) : g_LkS own (.invokestatic idx) n M' := by
  intro p l e R s m args below meth c cc nL H locs cells slots mc ms Pc Qc free g As rest S hN hM hf hl hp hg hA hs hst hW hd hr
  exact va_runSN S hM ⟨va_cnB n S.2.2.2.2 (g_wm_good hok) rfl rfl rfl (hN _ w1) (S.2.2.2.2 _ hok.2.2.1) ⟨hok.2.2.2.1, hok.2.2.2.2, hn⟩ ⟨hf, hl⟩, S.2.2.2.2 _ w2, trivial⟩ hp hg hA hs hst hW hd hr
theorem g_lkV {own C : String} {idx n : Nat} {M' : MD} (hok : g_ok M') (w1 : Cond.methodLink own idx M'.1 ∈ gw) (w2 : Cond.instanceMethod M'.1 ∈ gw) (w3 : Cond.selects C M'.1 M'.1 ∈ gw) (hn : g_np M'.1.desc n) : g_LkV own (.invokevirtual idx) C n M' := by
  intro p l e R s m args below meth c cc nL H locs cells slots mc ms Pc Qc free g b As rest D tys S _ _ hM hf hl hp hg hA hs hst hW hd hr
  exact va_runV S hM ⟨callB_of n S.2.2.2.2 (g_wm_good hok) rfl rfl rfl (S.2.2.2.2 _ hok.2.2.1) (S.2.2.2.2 _ w1) ⟨hok.2.2.2.1, hok.2.2.2.2, hn⟩ ⟨hf, hl⟩, S.2.2.2.2 _ w2, S.2.2.2.2 _ w3⟩ hp hg hA hs hst hW hd hr
theorem g_lkVN {own C host : String} {idx n : Nat} {M' : MD} (hok : g_ok M') (w1 : Cond.methodLinkNest own idx M'.1 host ∈ nw) (w2 : Cond.instanceMethod M'.1 ∈ gw) (w3 : Cond.selects C M'.1 M'.1 ∈ gw) (hn : g_np M'.1.desc n) : g_LkV own (.invokevirtual idx) C n M' := by
  intro p l e R s m args below meth c cc nL H locs cells slots mc ms Pc Qc free g b As rest D tys S hN _ hM hf hl hp hg hA hs hst hW hd hr
  exact va_runVN S hM ⟨va_cnB n S.2.2.2.2 (g_wm_good hok) rfl rfl rfl (hN _ w1) (S.2.2.2.2 _ hok.2.2.1) ⟨hok.2.2.2.1, hok.2.2.2.2, hn⟩ ⟨hf, hl⟩, S.2.2.2.2 _ w2, S.2.2.2.2 _ w3⟩ hp hg hA hs hst hW hd hr
theorem g_lkI {own C : String} {idx n : Nat} {M' : MD} (hok : g_ok M') (hret : M'.2.2.2.1 = none) (w1 : Cond.methodLink own idx M'.1 ∈ gw) (w2 : Cond.instanceMethod M'.1 ∈ gw) (hi : M'.1.name = "<init>") (hn : g_np M'.1.desc n) : g_LkV own (.invokespecial idx) C n M' := by
  intro p l e R s m args below meth c cc nL H locs cells slots mc ms Pc Qc free g b As rest D tys S _ _ hM hf hl hp hg hA hs hst hW hd hr
  exact va_runI S hM ⟨callB_of (bytes := M'.2.1) (maxL := M'.2.2.1) (ret := none) (ws' := gw) n S.2.2.2.2 (g_wm_good hok) (by rw [g_wm, hret]) rfl rfl (S.2.2.2.2 _ hok.2.2.1) (S.2.2.2.2 _ w1) ⟨hok.2.2.2.1, hok.2.2.2.2, hn⟩ ⟨hf, hl⟩, hi, S.2.2.2.2 _ w2⟩ ⟨hp.1, hp.2.2⟩ hg hA hs hst hW hd hr
theorem g_lkIN {own C host : String} {idx n : Nat} {M' : MD} (hok : g_ok M') (hret : M'.2.2.2.1 = none) (w1 : Cond.methodLinkNest own idx M'.1 host ∈ nw) (w2 : Cond.instanceMethod M'.1 ∈ gw) (hi : M'.1.name = "<init>") (hn : g_np M'.1.desc n) : g_LkV own (.invokespecial idx) C n M' := by
  intro p l e R s m args below meth c cc nL H locs cells slots mc ms Pc Qc free g b As rest D tys S hN _ hM hf hl hp hg hA hs hst hW hd hr
  exact va_runIN S hM ⟨va_cnB (bytes := M'.2.1) (maxL := M'.2.2.1) (ret := none) (ws' := gw) n S.2.2.2.2 (g_wm_good hok) (by rw [g_wm, hret]) rfl rfl (hN _ w1) (S.2.2.2.2 _ hok.2.2.1) ⟨hok.2.2.2.1, hok.2.2.2.2, hn⟩ ⟨hf, hl⟩, hi, S.2.2.2.2 _ w2⟩ ⟨hp.1, hp.2.2⟩ hg hA hs hst hW hd hr
/-- inherited: the method that the class's own table names is another class's -/
theorem g_lkU {own C owner : String} {idx n : Nat} {x : MethodName} {M' : MD} (hok : g_ok M') (hy : M'.1 = ⟨owner, x.name, x.desc⟩) (w1 : Cond.methodLink own idx x ∈ gw) (w2 : Cond.sameMethod x.cls owner x.name x.desc ∈ gw) (w3 : Cond.selects C x M'.1 ∈ gw) (w4 : Cond.instanceMethod M'.1 ∈ gw) (hn : g_np x.desc n) : g_LkV own (.invokevirtual idx) C n M' := by
  intro p l e R s m args below meth c cc nL H locs cells slots mc ms Pc Qc free g b As rest D tys S _ _ hM hf hl hp hg hA hs hst hW hd hr
  have ho : M'.1.cls = owner := by rw [hy]
  refine va_runU (owner := owner) (x := x) S hM (va_cwU n S.2.2.2.2 ?_ rfl rfl rfl hy ⟨by rw [← ho]; exact hok.2.2.2.1, by rw [← ho]; exact hok.2.2.2.2, hn⟩ ⟨hf, hl⟩) hp hg hA hs hst hW hd hr
  refine gw_goodc (fun w hw => ?_)
  unfold va_wsU at hw
  rcases List.mem_append.mp hw with hw | hw
  · simp only [List.mem_cons, List.not_mem_nil, or_false] at hw
    rcases hw with rfl | rfl | rfl | rfl | rfl
    · exact w1
    · exact w2
    · exact w3
    · exact w4
    · exact hok.2.2.1
  · exact (g_wm_good hok w hw).1
theorem g_lkO {own C owner : String} {idx n m0 : Nat} {b0 : ByteArray} {r0 : Option FieldType} {x : MethodName} {M' : MD} (hok : g_ok M') (h0 : Cond.code ⟨owner, x.name, x.desc⟩ b0 m0 r0 ∈ gw) (w1 : Cond.methodLink own idx x ∈ gw) (w2 : Cond.sameMethod x.cls owner x.name x.desc ∈ gw) (w5 : Cond.instanceMethod ⟨owner, x.name, x.desc⟩ ∈ gw) (w3 : Cond.selects C x M'.1 ∈ gw) (w4 : Cond.instanceMethod M'.1 ∈ gw) (ho : owner ≠ "java/lang/invoke/MethodHandle" ∧ owner ≠ "java/lang/invoke/VarHandle") (hn : g_np x.desc n) : g_LkV own (.invokevirtual idx) C n M' := by
  intro p l e R s m args below meth c cc nL H locs cells slots mc ms Pc Qc free g b As rest D tys S _ _ hM hf hl hp hg hA hs hst hW hd hr
  refine va_runU (owner := owner) (x := x) S hM (va_cwO n S.2.2.2.2 ?_ rfl rfl rfl h0 ⟨ho.1, ho.2, hn⟩ ⟨hf, hl⟩) hp hg hA hs hst hW hd hr
  refine gw_goodc (fun w hw => ?_)
  unfold va_wsO at hw
  rcases List.mem_append.mp hw with hw | hw
  · simp only [List.mem_cons, List.not_mem_nil, or_false] at hw
    rcases hw with rfl | rfl | rfl | rfl | rfl | rfl
    · exact w1
    · exact w2
    · exact w5
    · exact w3
    · exact w4
    · exact hok.2.2.1
  · exact (g_wm_good hok w hw).1
/-- super -/
theorem g_lkSU {own C : String} {idx n ci : Nat} {T : u_T} {N : Nat} {M' : MD} (hok : g_ok M') (hc : classes[ci]? = some (C, T, N)) (w1 : Cond.methodLink own idx M'.1 ∈ gw) (w2 : Cond.sameMethod M'.1.cls M'.1.cls M'.1.name M'.1.desc ∈ gw) (w3 : Cond.superclass own M'.1.cls ∈ gw) (w4 : Cond.instanceMethod M'.1 ∈ gw) (hi : M'.1.name ≠ "<init>") (hn : g_np M'.1.desc n) : g_LkV own (.invokespecial idx) C n M' := by
  intro p l e R s m args below meth c cc nL H locs cells slots mc ms Pc Qc free g b As rest D tys S _ hK hM hf hl hp hg hA hs hst hW hd hr
  refine va_runSU (hK.1 ci _ hc).2 S hM (va_cwSU n S.2.2.2.2 ?_ rfl rfl rfl ⟨hi, hn⟩ ⟨hf, hl⟩) hp hg hA hs hst hW hd hr
  refine gw_goodc (fun w hw => ?_)
  unfold va_wsSU at hw
  rcases List.mem_append.mp hw with hw | hw
  · simp only [List.mem_cons, List.not_mem_nil, or_false] at hw
    rcases hw with rfl | rfl | rfl | rfl | rfl
    · exact w1
    · exact w2
    · exact w3
    · exact w4
    · exact hok.2.2.1
  · exact (g_wm_good hok w hw).1
/-- who is called: a cell of the class C -/
def g_rc (G : Wd) (σ : St) (k : Nat) (C : String) : Prop := ∀ (s : State) (H : Heap) (locs : List Loc), g_Uw G s → g_Wk G σ H → va_S (g_A G) s.heap H locs → (∀ q : Nat, q < g_a G → s.heap[q]? = (g_H G)[q]?) → g_a G ≤ s.heap.size → ∃ cell : Cell, H[g_ad G k]? = some cell ∧ cell.vm.isStatics = false ∧ s.vm.findClass C = some cell.cls
theorem g_rc_own {G : Wd} {σ : St} {k ci : Nat} {C : String} {T : u_T} {N : Nat} (hk : k < σ.2.2.2) (hs : g_sh k = .inr ci) (hc : classes[ci]? = some (C, T, N)) : g_rc G σ k C := by
  intro s H locs hU hW hS _ _
  rw [g_ad_lt (Nat.lt_of_lt_of_le hk hW.2.2.2)]
  exact va_recv hU.1 hW.1 hc (g_ws_o hk hs)
section
variable {G : Wd} {M M' : MD} {nE nE' pc pc' n : Nat} {L L' : List (Option Value)} {S As S0 : List Value} {σ : St} {Q Q' : Option Value → St → Prop} {ins : Instr}
theorem g_catm (G : Wd) (S : List Value) : ((S.map (g_tr G)).map fun v => v.category) = S.map fun v => v.category := by
  rw [List.map_map]; congr 1; funext v; exact g_tr_cat G v
/-- behind a call -/
theorem g_back {p : Program} {e : Env} {R : Room} {s : State} {m : MethodId} {args : Array Value} {below : List Frame} {meth : Method} {c : Code} {H : Heap} {locs : List Loc} {cells slots mc ms : Nat} {QQ : State → Prop} {ls : Array Slot} {st0 rest : List Value} {a : Array Value}
    (hr : va_Run p (g_l G) e R s m args below meth c H locs cells slots mc ms (F0 m pc ls st0) rest (g_Qc G nE' Q' a) (g_A G)) (hS : va_S (g_A G) s.heap H locs)
    (kk : ∀ (v : Option Value) (τ : St) (H1 : Heap) (locs1 : List Loc), Q' v τ → τ.2.2.2 = nE' → g_Wk G τ H1 → va_S (g_A G) s.heap H1 locs1 → W p (g_l G) e R s m args below meth c H1 locs1 (cells + mc) (slots + ms) QQ (F0 m (pc + 3) ls ((v.map (g_tr G)).toList ++ rest))) : W p (g_l G) e R s m args below meth c H locs cells slots QQ (F0 m pc ls st0) := by
  intro T hT X
  obtain ⟨v, st₀, t, T', Lc, h0, X', hLc, e1, e2, ⟨⟨w, τ, hv, hq, hn, hb⟩, hz, hk⟩, st⟩ := hr T hT X
  cases hv
  rw [h0] at hz hk
  obtain ⟨t2, a1, b1⟩ := kk w τ T'.heap (locs ++ Lc) hq hn (by rw [e1]; exact hb)
    ⟨Nat.le_trans hS.1 (by rw [e1]; exact hz), fun q h1 h2 => by rw [e1, hk q (Nat.lt_of_lt_of_le h1 hS.1) h2]; exact hS.2.1 q h1 h2, fun q hq => by
      rcases List.mem_append.mp hq with h | h
      · exact hS.2.2 q h
      · exact hLc q h⟩ T' rfl X'
  exact ⟨t2, st t2 a1, b1⟩
theorem cz_callS (hd : decode M.2.1 pc = .ok (ins, 3)) (hL : g_LkS M.1.cls ins n M') (hok : g_ok M') (hn : As.length = n) (hst : As.reverse ++ S = S0) (hlen : (lg_sl As).length ≤ M'.2.2.1) (hcat : (S.map fun v => v.category).sum ≤ 8) (hrm : M'.2.2.2.2.1 + 1 ≤ M.2.2.2.2.1 ∧ 8 + (M'.2.2.1 + 11) + M'.2.2.2.2.2 ≤ M.2.2.2.2.2) (hN : σ.2.2.2 ≤ nE' ∧ nE' ≤ nE) (hp : pc + 3 = pc') (hM : Cc G M' nE' 0 (g_ent M'.2.2.1 As) [] σ Q') (h : ∀ v τ, Q' v τ → τ.2.2.2 = nE' → Cc G M nE pc' L (v.toList ++ S) τ Q) : Cc G M nE pc L S0 σ Q := by
  subst hp; subst hst
  intro p e R s m args below meth c H locs ls cells slots n0 QQ hF hU hR ha hh hK hc1 hc2 hW hS hLo
  obtain ⟨r1, r2, r3, r4, r5⟩ := id hR
  have hz1 := g_sz_le hN.1
  have hz2 := g_sz_le hN.2
  have hmet := g_met hok hlen hN.1 hM
  have hrun := hL p (g_l G) e R s m args below meth c M.2.1 M.2.2.1 H locs cells slots (nE' - σ.2.2.2) (g_sz nE' - g_sz σ.2.2.2) _ _ _ (F0 m pc ls ((As.reverse ++ S).map (g_tr G))) (As.map (g_tr G)) (S.map (g_tr G)) ⟨hF.1, hF.2.1, hF.2.2.1, hF.2.2.2.1, hF.2.2.2.2.1⟩ hU.2.1 hmet (by omega) (by omega) ⟨g_blind, fun U hUh hWm => ⟨rfl, hU.warm hWm, by rw [hUh]; exact hW, by rw [hUh]; exact Nat.le_trans ha hS.1⟩⟩ rfl (by rw [List.length_map]; exact hn) hLo.1 (by show List.map _ _ = _; rw [List.map_append, List.map_reverse]) (by rw [g_catm]; show 2 * 0 + _ ≤ 8; omega) hd (by omega)
  refine g_back hrun hS (fun v τ H1 locs1 hq hn hW1 hS1 => ?_)
  have hgo := h v τ hq hn p e R s m args below meth c H1 locs1 ls (cells + (nE' - σ.2.2.2)) (slots + (g_sz nE' - g_sz σ.2.2.2)) n0 QQ hF hU hR ha hh hK (by omega) (by rw [hn]; omega) hW1 hS1 hLo
  refine W.eq ?_ hgo
  rw [List.map_append]
  cases v <;> rfl
theorem cz_callV {k : Nat} {C : String} (hd : decode M.2.1 pc = .ok (ins, 3)) (hL : g_LkV M.1.cls ins C n M') (hok : g_ok M') (hrc : g_rc G σ k C) (hn : As.length = n) (hst : As.reverse ++ .ref k :: S = S0) (hlen : (lg_sl (.ref k :: As)).length ≤ M'.2.2.1) (hcat : (S.map fun v => v.category).sum ≤ 8) (hrm : M'.2.2.2.2.1 + 1 ≤ M.2.2.2.2.1 ∧ 8 + (M'.2.2.1 + 11) + M'.2.2.2.2.2 ≤ M.2.2.2.2.2) (hN : σ.2.2.2 ≤ nE' ∧ nE' ≤ nE) (hp : pc + 3 = pc') (hM : Cc G M' nE' 0 (g_ent M'.2.2.1 (.ref k :: As)) [] σ Q') (h : ∀ v τ, Q' v τ → τ.2.2.2 = nE' → Cc G M nE pc' L (v.toList ++ S) τ Q) : Cc G M nE pc L S0 σ Q := by
  subst hp; subst hst
  intro p e R s m args below meth c H locs ls cells slots n0 QQ hF hU hR ha hh hK hc1 hc2 hW hS hLo
  obtain ⟨r1, r2, r3, r4, r5⟩ := id hR
  have hz1 := g_sz_le hN.1
  have hz2 := g_sz_le hN.2
  have hmet := g_met hok hlen hN.1 hM
  have hrun := hL p (g_l G) e R s m args below meth c M.2.1 M.2.2.1 H locs cells slots (nE' - σ.2.2.2) (g_sz nE' - g_sz σ.2.2.2) _ _ _ (F0 m pc ls ((As.reverse ++ .ref k :: S).map (g_tr G))) (g_ad G k) (As.map (g_tr G)) (S.map (g_tr G)) (g_D G) (g_ty G) ⟨hF.1, hF.2.1, hF.2.2.1, hF.2.2.2.1, hF.2.2.2.2.1⟩ hU.2.1 hU.1 hmet (by omega) (by omega) ⟨g_blind, hrc s H locs hU hW hS hh ha, fun U hUh hWm => ⟨rfl, hU.warm hWm, by rw [hUh]; exact hW, by rw [hUh]; exact Nat.le_trans ha hS.1⟩⟩ rfl (by rw [List.length_map]; exact hn) hLo.1 (by show List.map _ _ = _; rw [List.map_append, List.map_reverse]; rfl) (by rw [g_catm]; show 2 * 0 + _ ≤ 8; omega) hd (by omega)
  refine g_back hrun hS (fun v τ H1 locs1 hq hn hW1 hS1 => ?_)
  have hgo := h v τ hq hn p e R s m args below meth c H1 locs1 ls (cells + (nE' - σ.2.2.2)) (slots + (g_sz nE' - g_sz σ.2.2.2)) n0 QQ hF hU hR ha hh hK (by omega) (by rw [hn]; omega) hW1 hS1 hLo
  refine W.eq ?_ hgo
  rw [List.map_append]
  cases v <;> rfl
/-- the constructor of Object -/
theorem cz_obj {idx k : Nat} (hd : decode M.2.1 pc = .ok (.invokespecial idx, 3)) (w1 : Cond.methodLink M.1.cls idx objectInit ∈ gw) (w2 : Cond.instanceMethod objectInit ∈ gw ∧ Cond.code objectInit ⟨#[0xb1]⟩ 1 none ∈ gw) (hf : 1 ≤ M.2.2.2.2.1) (hl : (S.map fun v => v.category).sum + 12 ≤ M.2.2.2.2.2) (hp : pc + 3 = pc') (h : Cc G M nE pc' L S σ Q) : Cc G M nE pc L (.ref k :: S) σ Q := by
  subst hp
  intro p e R s m args below meth c H locs ls cells slots n0 QQ hF hU hR ha hh hK hc1 hc2 hW hS hL
  refine W.objInit hF.1 hF.2.1 hF.2.2.2.1 (hF.2.2.2.2.1 _ w1) (hF.2.2.2.2.1 _ w2.1) (hF.2.2.2.2.1 _ w2.2) rfl (hL.1.trans hF.2.2.1.symm) (by show List.map _ _ = _; rw [List.map_cons]; rfl) hd (Nat.le_trans hf hR.1) (by rw [g_catm]; show 2 * 0 + _ + 12 ≤ _; have := hR.2.1; omega) (h p e R s m args below meth c H locs ls cells slots n0 QQ hF hU hR ha hh hK hc1 hc2 hW hS hL)
end
