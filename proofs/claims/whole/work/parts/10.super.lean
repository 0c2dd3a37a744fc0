/-! super.m(..) where the method is the superclass's superclass's -/
theorem g_sub2 {s : State} {c p : ClassId} {k : Class} (hk : s.vm.classes[c]? = some k) (hs : k.super = some p) : s.vm.isSubclass c p = true := by
  have hz : 0 < s.vm.classes.size := by
    have := (Array.getElem?_eq_some_iff.mp hk).1
    omega
  obtain ⟨n, hn⟩ : ∃ n, s.vm.classes.size = n + 1 := ⟨s.vm.classes.size - 1, by omega⟩
  simp [Vm.isSubclass, Vm.isSubclassAux, hn, hk, hs]
theorem g_lkSU2 {own C owner : String} {idx n ci : Nat} {T : u_T} {N : Nat} {x : MethodName} {M' : MD} (hok : g_ok M') (hy : M'.1 = ⟨owner, x.name, x.desc⟩) (hc : classes[ci]? = some (C, T, N)) (w1 : Cond.methodLink own idx x ∈ gw) (w2 : Cond.sameMethod x.cls owner x.name x.desc ∈ gw) (w3 : Cond.superclass own x.cls ∈ gw) (w5 : Cond.superclass x.cls owner ∈ gw) (w4 : Cond.instanceMethod M'.1 ∈ gw) (hi : x.name ≠ "<init>") (hn : g_np x.desc n) : g_LkV own (.invokespecial idx) C n M' := by
  intro p l e R s m args below meth c cc nL H locs cells slots mc ms Pc Qc free g b As rest D tys S _ hK hM hf hl hp hg hA hs hst hW hd hr
  obtain ⟨hx, hb, hml, ho, hts⟩ := S
  have hBk : Back l R p e below s args M'.1 3 8 (PreOf R mc ms Pc) (PostOf Qc mc ms free) := back_of (bytes := M'.2.1) (maxL := M'.2.2.1) (ret := M'.2.2.2.1) hM hp.1 rfl rfl hf hl (pay_in hts (g_wm_good hok)) List.mem_cons_self (fun a' U hW => word_at hW (Or.inl (by first | rfl | simp [Cond.onTables, Cond.keeps, Cond.steady])) (hts _ hok.2.2.1))
  obtain ⟨-, ⟨cellB, hcB, hoB, hclB⟩, hPc⟩ := hp
  obtain ⟨hfc, kB, hkB, -⟩ := (hK.1 ci _ hc).2
  rw [Option.some.inj (hfc.symm.trans hclB)] at hkB
  intro T0 hT X
  obtain ⟨mk, methM, hnamed, hmethM, hstM, habM⟩ := Cond.instanceMethod_spec (hts _ w4)
  obtain ⟨methM', cM, hmethM', -, -, -, -, -, -, hsigM⟩ := Cond.code_spec hnamed (hts _ hok.2.1)
  cases hmethM.symm.trans hmethM'
  obtain ⟨ps, dk, kp, hps, hdk, hkp, hsuper, -, -, hnid⟩ := Cond.superclass_spec ho (hts _ w3)
  obtain ⟨pp, dk2, kp2, hpp, hdk2, hkp2, hsuper2, -, -, hnid2⟩ := Cond.superclass_spec hps (hts _ w5)
  have hnm : s.methodNamed? ⟨owner, x.name, x.desc⟩ = some mk := by rw [← hy]; exact hnamed
  have hpm : pp = mk.cls := by
    have h1 := findClass_of_methodNamed hnm
    exact Option.some.inj (hpp.symm.trans h1)
  have hlen : As.length = methM.sig.parameters.length := by
    have h2 : (parseMethodDescriptor x.desc).map (fun q => q.parameters.length) = some n := hn
    have h3 : parseMethodDescriptor x.desc = some methM.sig := by
      have h4 : M'.1.desc = x.desc := by rw [hy]
      rw [← h4]; exact hsigM
    rw [h3] at h2
    exact hA.trans (Option.some.inj h2).symm
  obtain ⟨vm₁, X₁, hstep₁⟩ := X.invokespecialUp hx ho (hts _ w1) (hts _ w2) hnm hmethM hstM habM hi hdk hnid hps hsuper (by rw [← hpm]; exact g_sub2 hdk2 hsuper2) (a := b) (cell := cellB) (by rw [hT]; exact hcB)
    (fun z h => by rw [h] at hoB; cases hoB) hkB (g := g) hg (argsL := As) (rest := rest) hlen hst (by rw [hb]; exact hd)
  obtain ⟨v, ⟨U', l2, c2, s2⟩, X', ⟨g', mk', t, L, e1, e2, hq, h1, hL, h2, h3⟩, hsteps⟩ := hBk m meth c ⟨T0.setVm vm₁, locs, cells, slots⟩ { g with stack := rest } (.invokespecial idx) mk (Value.ref b :: As).toArray X₁ hg (hs.trans hml.symm) (by rw [hb]; exact hd) hW (X₁.named hnamed) ⟨hr.1, hr.2, hPc (T0.setVm vm₁) hT X₁.warmed⟩
  dsimp only [Pt.U, Pt.locs, Pt.cells, Pt.slots] at X' e1 e2 h1 h2 h3 hsteps
  subst h1; subst h2; subst h3
  exact ⟨v, (T0.setVm vm₁).calling g' mk' (Value.ref b :: As).toArray, t, U', L, hT, X', hL, e1, e2, hq, fun target h => hstep₁ _ (by rw [doInvoke_state]; exact hsteps.trans h)⟩
theorem lk_X5_7 : g_LkV RX5 (.invokespecial 7) RX5 2 mX6_poundsIn := g_lkSU2 (owner := RX6) (x := ⟨RX3, "poundsIn", "(II)I"⟩) (ci := 5) okX6_poundsIn rfl rfl (gw_in 511 (by decide +kernel) (by decide +kernel)) (gw_in 512 (by decide +kernel) (by decide +kernel)) (by first | exact q_0 | decide +kernel) (by decide +kernel) (by decide +kernel) (by decide) (by unfold g_np; decide +kernel)
