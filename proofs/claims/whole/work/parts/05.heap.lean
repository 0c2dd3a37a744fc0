/-! fields, arrays, what is made -/
theorem g_uin (ci : Nat) (q : vw_C) (h : classes[ci]? = some q) : ∀ w ∈ u_ws q.1 q.2.1 q.2.2, w ∈ gw := by
  have key : (classes.all fun q => (u_ws q.1 q.2.1 q.2.2).all fun w => gw.contains w) = true := by decide +kernel
  intro w hw
  have h1 := List.all_eq_true.mp key q (List.mem_of_getElem? h)
  have h2 := List.all_eq_true.mp h1 w hw
  exact List.contains_iff_mem.mp h2
theorem g_typ (ci : Nat) (q : vw_C) (h : classes[ci]? = some q) : ∀ k, k < q.2.2 → parseFieldDescriptor (q.2.1 k).2.2.1 = some (g_fty ci k) := by
  match ci, h with
  | 0, h => cases h; exact tyX0_ok
  | 1, h => cases h; exact tyX1_ok
  | 2, h => cases h; exact tyX2_ok
  | 3, h => cases h; exact tyX3_ok
  | 4, h => cases h; exact tyX4_ok
  | 5, h => cases h; exact tyX5_ok
  | 6, h => cases h; exact tyX6_ok
  | 7, h => cases h; exact tyX7_ok
  | 8, h => cases h; exact tyX8_ok
  | 9, h => cases h; exact tyX9_ok
  | 10, h => cases h; exact tyX10_ok
  | 11, h => cases h; exact tyX11_ok
  | n + 12, h => simp [classes] at h
theorem g_nam (ci : Nat) (q : vw_C) (h : classes[ci]? = some q) : ∀ a, a < q.2.2 → ∀ b, b < q.2.2 → a ≠ b → (q.2.1 a).2.1 ≠ (q.2.1 b).2.1 := by
  match ci, h with
  | 0, h => cases h; exact nmX0
  | 1, h => cases h; exact nmX1
  | 2, h => cases h; exact nmX2
  | 3, h => cases h; exact nmX3
  | 4, h => cases h; exact nmX4
  | 5, h => cases h; exact nmX5
  | 6, h => cases h; exact nmX6
  | 7, h => cases h; exact nmX7
  | 8, h => cases h; exact nmX8
  | 9, h => cases h; exact nmX9
  | 10, h => cases h; exact nmX10
  | 11, h => cases h; exact nmX11
  | n + 12, h => simp [classes] at h
/-- a field's link: class, place -/
def g_Gf (own : String) (idx ci j : Nat) : Prop := ∃ (C : String) (T : u_T) (N : Nat), classes[ci]? = some (C, T, N) ∧ j < N ∧ (Cond.fieldLink own idx (T j).1 (T j).2.1 (T j).2.2.1 ∈ gw ∨ ∃ host, Cond.fieldLinkNest own idx (T j).1 (T j).2.1 (T j).2.2.1 host ∈ nw)
def g_Pf (own : String) (idx ci j : Nat) : Prop := ∃ (C : String) (T : u_T) (N : Nat), classes[ci]? = some (C, T, N) ∧ j < N ∧ (T j).2.2.2 = false ∧ (Cond.fieldLink own idx (T j).1 (T j).2.1 (T j).2.2.1 ∈ gw ∨ ∃ host, Cond.fieldLinkNest own idx (T j).1 (T j).2.1 (T j).2.2.1 host ∈ nw)
def g_Ff (own : String) (idx ci j : Nat) : Prop := ∃ (C : String) (T : u_T) (N : Nat), classes[ci]? = some (C, T, N) ∧ j < N ∧ (T j).2.2.2 = true ∧ (T j).1 = own ∧ Cond.fieldLink own idx (T j).1 (T j).2.1 (T j).2.2.1 ∈ gw
theorem g_fl_at {G : Wd} {σ : St} {k ci j : Nat} (h : j < g_nf ci) : (g_fl G σ k ci)[j]? = some (g_tr G (g_fv σ k (g_fty ci j) j)) := by simp [g_fl, h]
theorem g_nf_eq {ci : Nat} {C : String} {T : u_T} {N : Nat} (h : classes[ci]? = some (C, T, N)) : g_nf ci = N := by simp only [g_nf, h]
theorem g_ws_o {G : Wd} {σ : St} {k ci : Nat} (hk : k < σ.2.2.2) (hs : g_sh k = .inr ci) : (g_ws G σ)[k]? = some (g_a G + k, .inr (ci, g_fl G σ k ci)) := by
  rw [g_ws_at hk]
  simp only [g_en, hs]
theorem g_ws_r {G : Wd} {σ : St} {k t n : Nat} (hk : k < σ.2.2.2) (hs : g_sh k = .inl (t, n)) : (g_ws G σ)[k]? = some (g_a G + k, .inl (g_c G t, n, .inl (σ.1 k))) := by
  rw [g_ws_at hk]
  simp only [g_en, hs]
theorem g_tr_own {G : Wd} {k : Nat} (h : k < 1000) : g_tr G (.ref k) = .ref (g_a G + k) := by
  show Value.ref (g_ad G k) = _
  rw [g_ad_lt h]
section
variable {G : Wd} {M : MD} {nE pc pc' : Nat} {L L' : List (Option Value)} {S : List Value} {σ : St} {Q : Option Value → St → Prop}
theorem cz_getf {idx k ci j : Nat} {v : Value} (hd : decode M.2.1 pc = .ok (.getfield idx, 3)) (hg : g_Gf M.1.cls idx ci j) (hk : k < σ.2.2.2) (hs : g_sh k = .inr ci) (hv : g_fv σ k (g_fty ci j) j = v) (hp : pc + 3 = pc') (h : Cc G M nE pc' L (v :: S) σ Q) : Cc G M nE pc L (.ref k :: S) σ Q := by
  subst hp; subst hv
  intro p e R s m args below meth c H locs ls cells slots n0 QQ hF hU hR ha hh hK hc1 hc2 hW hS hL
  obtain ⟨C, T, N, hc, hj, hl⟩ := hg
  have hk1 : k < 1000 := Nat.lt_of_lt_of_le hk hW.2.2.2
  have hgo := h p e R s m args below meth c H locs ls cells slots n0 QQ hF hU hR ha hh hK hc1 hc2 hW hS hL
  refine W.eq (g2 := F0 m pc ls (.ref (g_a G + k) :: S.map (g_tr G))) (by rw [List.map_cons, g_tr_own hk1]) ?_
  have hv : (g_fl G σ k ci)[j]? = some (g_tr G (g_fv σ k (g_fty ci j) j)) := g_fl_at (by rw [g_nf_eq hc]; exact hj)
  rcases hl with hl | ⟨host, hl⟩
  · exact va_get hF.1 hF.2.1 hF.2.2.2.2.1 (g_uin ci _ hc) hF.2.2.2.1 hU.1 hW.1 k (g_ws_o hk hs) hc j hj (hF.2.2.2.2.1 _ hl) (fun _ h9 => h9) hv hd hgo
  · exact va_getN hF.1 hF.2.1 hF.2.2.2.2.1 (g_uin ci _ hc) hF.2.2.2.1 hU.1 hW.1 k (g_ws_o hk hs) hc j hj (va_Nw.use rfl (hU.2.1 _ hl)) (fun _ h9 => h9) hv hd hgo
/-- one cell of the world set anew -/
theorem g_Wk_set {σ' : St} {H0 H H1 : Heap} {locs : List Loc} {k sl : Nat} {en : va_E} (hW : g_Wk G σ H) (hS : va_S (g_A G) H0 H locs) (hk : k < σ.2.2.2) (hn : σ'.2.2.2 = σ.2.2.2) (he : g_en G σ' k = en) (ho : ∀ i, i ≠ k → g_en G σ' i = g_en G σ i) (hat : va_at (g_D G) classes (g_a G + k, en) H1) (hz : H1.size = H.size) (oq : ∀ q : Nat, q ≠ g_a G + k → H1[q]? = H[q]?) : g_Wk G σ' H1 ∧ va_S (g_A G) H0 H1 (locs ++ [⟨g_a G + k, sl⟩]) := by
  refine ⟨⟨?_, by rw [hz, hn]; exact hW.2.1, fun q hq => ?_, by rw [hn]; exact hW.2.2.2⟩, hS.put hz oq (Nat.le_add_right _ _)⟩
  · rw [← g_ws_set hk hn he ho]
    exact hW.1.set g_ws_D (g_ws_at hk) hat oq
  · rw [oq q (by omega)]
    exact hW.2.2.1 q hq
theorem cz_putA {idx k ci j : Nat} {v : Value} {σ' : St} (hd : decode M.2.1 pc = .ok (.putfield idx, 3)) (hg : g_Pf M.1.cls idx ci j) (hk : k < σ.2.2.2) (hs : g_sh k = .inr ci)
    (hnr : narrow (g_fty ci j) (g_tr G v) = g_tr G v) (hft : fits (g_fty ci j) (g_tr G v) = true) (hn : σ'.2.2.2 = σ.2.2.2) (he : g_fl G σ' k ci = (g_fl G σ k ci).set j (g_tr G v)) (ho : ∀ i, i ≠ k → g_en G σ' i = g_en G σ i) (hp : pc + 3 = pc') (h : Cc G M nE pc' L S σ' Q) : Cc G M nE pc L (v :: .ref k :: S) σ Q := by
  subst hp
  intro p e R s m args below meth c H locs ls cells slots n0 QQ hF hU hR ha hh hK hc1 hc2 hW hS hL
  obtain ⟨C, T, N, hc, hj, hfin, hl⟩ := hg
  have hk1 : k < 1000 := Nat.lt_of_lt_of_le hk hW.2.2.2
  have hjl : j < (g_fl G σ k ci).length := by simp only [g_fl, List.length_map, List.length_range, g_nf_eq hc]; exact hj
  refine W.eq (g2 := F0 m pc ls (g_tr G v :: .ref (g_a G + k) :: S.map (g_tr G))) (by rw [List.map_cons, List.map_cons, g_tr_own hk1]) ?_
  have hap := va_apart (own := M.1.cls) hF.2.2.2.2.1 (g_uin ci _ hc) (g_fty ci) (g_typ ci _ hc) (g_nam ci _ hc) hU.1 hc
  obtain ⟨r, h1, cell, q1, q2, q3, q4⟩ := hW.1 k _ (g_ws_o hk hs)
  cases h1.symm.trans hc
  obtain ⟨hSl, hfc, kC, hkC, hkind⟩ := hU.1.1 ci _ hc
  obtain ⟨cf, kf, fi, f, hi, hsl⟩ := hSl j hj
  have hlay := hF.2.2.2.2.1 _ (g_uin ci _ hc _ (u_in_lay hj))
  unfold u_lay at hlay
  rw [if_neg (by rw [hfin]; decide)] at hlay
  have hst := (u_facts hfc hkC (u_lays hF.2.2.2.2.1 (g_uin ci _ hc) hj) hi).1
  have h6 := u_store hfc hkC hkind hlay hi (g_typ ci _ hc j hj) hnr hft
  have go : ∀ H' : Heap, H'[g_a G + k]? = some (cell.setSlot f.slot (g_tr G v)) → H'.size = H.size → (∀ q, q ≠ g_a G + k → H'[q]? = H[q]?) → W p (g_l G) e R s m args below meth c H' (locs ++ [⟨g_a G + k, f.slot⟩]) cells slots QQ (F0 m (pc + 3) ls (S.map (g_tr G))) := by
    intro H' e1 e2 e3
    rw [hsl] at e1
    obtain ⟨hW', hS'⟩ := g_Wk_set (σ' := σ') (sl := f.slot) (en := .inr (ci, (g_fl G σ k ci).set j (g_tr G v))) hW hS hk hn (by simp only [g_en, hs, he]) ho ⟨_, hc, t_OB.to (V := updV (vp_V (g_fl G σ k ci)) j (g_tr G v)) ⟨_, e1, q2, q3, t_set q4 hap hj (g_tr G v)⟩ (fun a _ => vp_updV_set hjl (g_tr G v) a)⟩ e2 e3
    exact h p e R s m args below meth c H' _ ls cells slots n0 QQ hF hU hR ha hh hK (by rw [hn]; exact hc1) (by rw [hn]; exact hc2) hW' hS' hL
  rcases hl with hl | ⟨host, hl⟩
  · exact W.putK hF.1 hF.2.1 (f := f) ⟨hF.2.2.2.1, hF.2.2.2.2.1 _ hl, ⟨_, _, _, hi⟩, hst⟩ (by rw [q2]; exact h6) q1 q3 (by rw [hsl]; exact k2_hasslot (q4 j hj)) rfl rfl hd go
  · exact va_WputK hF.1 hF.2.1 (f := f) hF.2.2.2.1 (va_Nw.use rfl (hU.2.1 _ hl)) hi hst (by rw [q2]; exact h6) q1 q3 (by rw [hsl]; exact k2_hasslot (q4 j hj)) rfl rfl hd go
theorem g_fl_set {σ' : St} {k ci j : Nat} {v : Value} (h1 : g_fv σ' k (g_fty ci j) j = v) (h2 : ∀ a, a ≠ j → g_fv σ' k (g_fty ci a) a = g_fv σ k (g_fty ci a) a) : g_fl G σ' k ci = (g_fl G σ k ci).set j (g_tr G v) := by
  apply List.ext_getElem?
  intro a
  by_cases ha : a < g_nf ci
  · rw [g_fl_at ha]
    by_cases haj : a = j
    · subst haj
      rw [List.getElem?_set_self (by simp [g_fl, ha]), h1]
    · rw [List.getElem?_set_ne (Ne.symm haj), g_fl_at ha, h2 a haj]
  · rw [List.getElem?_eq_none (by simp [g_fl]; omega), List.getElem?_eq_none (by simp [g_fl]; omega)]
theorem cz_puti {idx k ci j : Nat} {x : Int32} (hd : decode M.2.1 pc = .ok (.putfield idx, 3)) (hg : g_Pf M.1.cls idx ci j) (hty : g_fty ci j = .int) (hk : k < σ.2.2.2) (hs : g_sh k = .inr ci) (hp : pc + 3 = pc') (h : Cc G M nE pc' L S (g_pr σ k (upd (σ.1 k) j x)) Q) : Cc G M nE pc L (.int x :: .ref k :: S) σ Q := by
  refine cz_putA hd hg hk hs (by rw [hty]; rfl) (by rw [hty]; rfl) (σ' := g_pr σ k (upd (σ.1 k) j x)) rfl (g_fl_set ?_ ?_) (fun i hi => g_en_pr hi) hp h
  · rw [hty]; simp [g_fv, g_pr, upd]
  · intro a ha
    cases g_fty ci a <;> simp [g_fv, g_pr, upd, ha]
theorem cz_putl {idx k ci j : Nat} {x : Int64} (hd : decode M.2.1 pc = .ok (.putfield idx, 3)) (hg : g_Pf M.1.cls idx ci j) (hty : g_fty ci j = .long) (hk : k < σ.2.2.2) (hs : g_sh k = .inr ci) (hp : pc + 3 = pc') (h : Cc G M nE pc' L S (g_pl σ k j x) Q) : Cc G M nE pc L (.long x :: .ref k :: S) σ Q := by
  refine cz_putA hd hg hk hs (by rw [hty]; rfl) (by rw [hty]; rfl) (σ' := g_pl σ k j x) rfl (g_fl_set ?_ ?_) (fun i hi => g_en_pl hi) hp h
  · rw [hty]; simp [g_fv, g_pl]
  · intro a ha
    cases g_fty ci a <;> simp [g_fv, g_pl, ha]
/-- a final field, in a constructor -/
theorem cz_putf {idx k ci j r : Nat} (hd : decode M.2.1 pc = .ok (.putfield idx, 3)) (hg : g_Ff M.1.cls idx ci j) (hin : M.1.name = "<init>") (hty : (∃ n, g_fty ci j = .object n) ∨ ∃ t, g_fty ci j = .array t) (hk : k < σ.2.2.2) (hs : g_sh k = .inr ci) (hp : pc + 3 = pc') (h : Cc G M nE pc' L S (g_prf σ k j (some r)) Q) : Cc G M nE pc L (.ref r :: .ref k :: S) σ Q := by
  subst hp
  intro p e R s m args below meth c H locs ls cells slots n0 QQ hF hU hR ha hh hK hc1 hc2 hW hS hL
  obtain ⟨C, T, N, hc, hj, hfin, hdecl, hl⟩ := hg
  have hk1 : k < 1000 := Nat.lt_of_lt_of_le hk hW.2.2.2
  have hjl : j < (g_fl G σ k ci).length := by simp only [g_fl, List.length_map, List.length_range, g_nf_eq hc]; exact hj
  refine W.eq (g2 := F0 m pc ls (.ref (g_ad G r) :: .ref (g_a G + k) :: S.map (g_tr G))) (by rw [List.map_cons, List.map_cons, g_tr_own hk1]; rfl) ?_
  have hap := va_apart (own := M.1.cls) hF.2.2.2.2.1 (g_uin ci _ hc) (g_fty ci) (g_typ ci _ hc) (g_nam ci _ hc) hU.1 hc
  obtain ⟨r0, h1, cell, q1, q2, q3, q4⟩ := hW.1 k _ (g_ws_o hk hs)
  cases h1.symm.trans hc
  obtain ⟨hSl, hfc, kC, hkC, hkind⟩ := hU.1.1 ci _ hc
  obtain ⟨cf, kf, fi, f, hi, hsl⟩ := hSl j hj
  have hlay := hF.2.2.2.2.1 _ (g_uin ci _ hc _ (u_in_lay hj))
  unfold u_lay at hlay
  rw [if_pos hfin] at hlay
  have hst := (u_facts hfc hkC (u_lays hF.2.2.2.2.1 (g_uin ci _ hc) hj) hi).1
  have hcf : m.cls = cf := by
    obtain ⟨_, _, c', _, _, _, -, -, hf', -, -, -, hown2, -⟩ := Cond.laysFinal_spec hlay
    have e1 : c' = cf := by have := hi.symm.trans hf'; simp at this; exact this.1.symm
    rw [hdecl] at hown2
    rw [← e1]; exact Option.some.inj (hF.2.2.2.1.symm.trans hown2)
  have hnr : narrow (g_fty ci j) (.ref (g_ad G r)) = .ref (g_ad G r) := by rcases hty with ⟨n, e⟩ | ⟨t, e⟩ <;> rw [e] <;> rfl
  have hft : fits (g_fty ci j) (.ref (g_ad G r)) = true := by rcases hty with ⟨n, e⟩ | ⟨t, e⟩ <;> rw [e] <;> rfl
  have h6 := u_fits hfc hkC hkind (Or.inr hlay) hi (g_typ ci _ hc j hj) hnr hft
  refine W.putFinK hF.1 hF.2.1 hF.2.2.2.1 (hF.2.2.2.2.1 _ hl) hi hst hcf (hF.2.2.2.2.2.2.2.trans hin) (by rw [q2]; exact h6) q1 q3 (by rw [hsl]; exact k2_hasslot (q4 j hj)) rfl rfl hd fun H' e1 e2 e3 => ?_
  rw [hsl] at e1
  have he : g_fl G (g_prf σ k j (some r)) k ci = (g_fl G σ k ci).set j (g_tr G (.ref r)) := by
    refine g_fl_set ?_ ?_
    · rcases hty with ⟨n, e⟩ | ⟨t, e⟩ <;> rw [e] <;> simp [g_fv, g_prf, g_rv]
    · intro a ha
      cases g_fty ci a <;> simp [g_fv, g_prf, ha]
  obtain ⟨hW', hS'⟩ := g_Wk_set (σ' := g_prf σ k j (some r)) (sl := f.slot) (en := .inr (ci, (g_fl G σ k ci).set j (g_tr G (.ref r)))) hW hS hk rfl (by simp only [g_en, hs, he]) (fun i hi => g_en_prf hi) ⟨_, hc, t_OB.to (V := updV (vp_V (g_fl G σ k ci)) j (g_tr G (.ref r))) ⟨_, e1, q2, q3, t_set q4 hap hj (g_tr G (.ref r))⟩ (fun a _ => vp_updV_set hjl (g_tr G (.ref r)) a)⟩ e2 e3
  exact h p e R s m args below meth c H' _ ls cells slots n0 QQ hF hU hR ha hh hK hc1 hc2 hW' hS' hL
/-! arrays -/
theorem g_in {i : Int32} {j n : Nat} (hj : i.toInt = (j : Int)) (hn : j < n) : vp_in i n ∧ i.toNatClampNeg = j := by
  refine ⟨vp_in_iff.mpr (by omega), ?_⟩
  show i.toInt.toNat = j
  omega
theorem g_en_arr {σ' : St} {k t n : Nat} {f : Nat → Int32} (hs : g_sh k = .inl (t, n)) (h : σ'.1 k = f) : g_en G σ' k = .inl (g_c G t, n, .inl f) := by
  simp only [g_en, hs, h]
theorem cz_iald {k n j : Nat} {i : Int32} (hd : decode M.2.1 pc = .ok (.iaload, 1)) (hk : k < σ.2.2.2) (hs : g_sh k = .inl (0, n)) (hj : i.toInt = (j : Int)) (hn : j < n) (hp : pc + 1 = pc') (h : Cc G M nE pc' L (.int (σ.1 k j) :: S) σ Q) : Cc G M nE pc L (.int i :: .ref k :: S) σ Q := by
  subst hp
  intro p e R s m args below meth c H locs ls cells slots n0 QQ hF hU hR ha hh hK hc1 hc2 hW hS hL
  obtain ⟨h1, h2⟩ := g_in hj hn
  refine W.eq (g2 := F0 m pc ls (.int i :: .ref (g_a G + k) :: S.map (g_tr G))) (by rw [List.map_cons, List.map_cons, g_tr_own (Nat.lt_of_lt_of_le hk hW.2.2.2)]; rfl) ?_
  refine va_iald hF.1 hF.2.1 hU.1 hW.1 k 0 (g_ws_r hk hs) rfl h1 hd ?_
  rw [h2]
  exact h p e R s m args below meth c H locs ls cells slots n0 QQ hF hU hR ha hh hK hc1 hc2 hW hS hL
theorem cz_bald {k n j : Nat} {i : Int32} (hd : decode M.2.1 pc = .ok (.baload, 1)) (hk : k < σ.2.2.2) (hs : g_sh k = .inl (1, n)) (hj : i.toInt = (j : Int)) (hn : j < n) (hp : pc + 1 = pc') (h : Cc G M nE pc' L (.int (σ.1 k j) :: S) σ Q) : Cc G M nE pc L (.int i :: .ref k :: S) σ Q := by
  subst hp
  intro p e R s m args below meth c H locs ls cells slots n0 QQ hF hU hR ha hh hK hc1 hc2 hW hS hL
  obtain ⟨h1, h2⟩ := g_in hj hn
  refine W.eq (g2 := F0 m pc ls (.int i :: .ref (g_a G + k) :: S.map (g_tr G))) (by rw [List.map_cons, List.map_cons, g_tr_own (Nat.lt_of_lt_of_le hk hW.2.2.2)]; rfl) ?_
  refine va_bald hF.1 hF.2.1 hU.1 hW.1 k 1 (g_ws_r hk hs) rfl h1 hd ?_
  rw [h2]
  exact h p e R s m args below meth c H locs ls cells slots n0 QQ hF hU hR ha hh hK hc1 hc2 hW hS hL
theorem cz_zald {k n j : Nat} {i : Int32} (hd : decode M.2.1 pc = .ok (.baload, 1)) (hk : k < σ.2.2.2) (hs : g_sh k = .inl (2, n)) (hj : i.toInt = (j : Int)) (hn : j < n) (hp : pc + 1 = pc') (h : Cc G M nE pc' L (.int (σ.1 k j) :: S) σ Q) : Cc G M nE pc L (.int i :: .ref k :: S) σ Q := by
  subst hp
  intro p e R s m args below meth c H locs ls cells slots n0 QQ hF hU hR ha hh hK hc1 hc2 hW hS hL
  obtain ⟨h1, h2⟩ := g_in hj hn
  refine W.eq (g2 := F0 m pc ls (.int i :: .ref (g_a G + k) :: S.map (g_tr G))) (by rw [List.map_cons, List.map_cons, g_tr_own (Nat.lt_of_lt_of_le hk hW.2.2.2)]; rfl) ?_
  refine va_zald hF.1 hF.2.1 hU.1 hW.1 k 2 (g_ws_r hk hs) rfl h1 hd ?_
  rw [h2]
  exact h p e R s m args below meth c H locs ls cells slots n0 QQ hF hU hR ha hh hK hc1 hc2 hW hS hL
theorem cz_alen {k n t : Nat} {v : Int32} (hd : decode M.2.1 pc = .ok (.arraylength, 1)) (hk : k < σ.2.2.2) (hs : g_sh k = .inl (t, n)) (ht : t < 3) (hv : Int32.ofNat n = v) (hp : pc + 1 = pc') (h : Cc G M nE pc' L (.int v :: S) σ Q) : Cc G M nE pc L (.ref k :: S) σ Q := by
  subst hp
  intro p e R s m args below meth c H locs ls cells slots n0 QQ hF hU hR ha hh hK hc1 hc2 hW hS hL
  have hgo := h p e R s m args below meth c H locs ls cells slots n0 QQ hF hU hR ha hh hK hc1 hc2 hW hS hL
  refine W.eq (g2 := F0 m pc ls (.ref (g_a G + k) :: S.map (g_tr G))) (by rw [List.map_cons, g_tr_own (Nat.lt_of_lt_of_le hk hW.2.2.2)]) ?_
  rcases (show t = 0 ∨ t = 1 ∨ t = 2 by omega) with rfl | rfl | rfl
  · exact va_alen hF.1 hF.2.1 hU.1 hW.1 k 0 (g_ws_r hk hs) (ty := .int) rfl hv hd hgo
  · exact va_alen hF.1 hF.2.1 hU.1 hW.1 k 1 (g_ws_r hk hs) (ty := .byte) rfl hv hd hgo
  · exact va_alen hF.1 hF.2.1 hU.1 hW.1 k 2 (g_ws_r hk hs) (ty := .boolean) rfl hv hd hgo
theorem g_at_arr {H1 : Heap} {a cA n j : Nat} {f : Nat → Int32} {x : Int32} (e : H1[a]? = some ((vp_cell cA (n, .inl f)).setSlot j (.int x))) : va_at (g_D G) classes (a, .inl (cA, n, .inl (upd f j x))) H1 := by
  show H1[a]? = some (vp_cell _ _)
  rw [e]
  rw [vp_cell_i, vp_cell_i, arrV_store]
  congr 2
  funext q
  by_cases hq : q = j
  · subst hq
    simp [updV, upd]
  · simp [updV, upd, hq]
theorem cz_iast {k n j : Nat} {i x : Int32} (hd : decode M.2.1 pc = .ok (.iastore, 1)) (hk : k < σ.2.2.2) (hs : g_sh k = .inl (0, n)) (hj : i.toInt = (j : Int)) (hn : j < n) (hp : pc + 1 = pc') (h : Cc G M nE pc' L S (g_pr σ k (upd (σ.1 k) j x)) Q) : Cc G M nE pc L (.int x :: .int i :: .ref k :: S) σ Q := by
  subst hp
  intro p e R s m args below meth c H locs ls cells slots n0 QQ hF hU hR ha hh hK hc1 hc2 hW hS hL
  obtain ⟨h1, h2⟩ := g_in hj hn
  refine W.eq (g2 := F0 m pc ls (.int x :: .int i :: .ref (g_a G + k) :: S.map (g_tr G))) (by rw [List.map_cons, List.map_cons, List.map_cons, g_tr_own (Nat.lt_of_lt_of_le hk hW.2.2.2)]; rfl) ?_
  refine W.iast hF.1 hF.2.1 (hW.1 k _ (g_ws_r hk hs)) ((hU.1.2 0 _ rfl).1 n (fun j => .int (σ.1 k j))) (fun q => by cases q) (by show ¬ (i < 0 ∨ (arrV _ _ _).slots.size ≤ _); rw [arrV_size]; exact h1) rfl rfl hd fun H1 e1 z oq => ?_
  rw [h2] at e1 ⊢
  obtain ⟨hW', hS'⟩ := g_Wk_set (σ' := g_pr σ k (upd (σ.1 k) j x)) (sl := j) hW hS hk rfl (g_en_arr hs (by simp [g_pr])) (fun i hi => g_en_pr hi) (g_at_arr e1) z oq
  exact h p e R s m args below meth c H1 _ ls cells slots n0 QQ hF hU hR ha hh hK hc1 hc2 hW' hS' hL
theorem cz_bast {k n j : Nat} {i x y : Int32} (hd : decode M.2.1 pc = .ok (.bastore, 1)) (hk : k < σ.2.2.2) (hs : g_sh k = .inl (1, n)) (hj : i.toInt = (j : Int)) (hn : j < n) (hx : narrow .byte (.int x) = .int y) (hp : pc + 1 = pc') (h : Cc G M nE pc' L S (g_pr σ k (upd (σ.1 k) j y)) Q) : Cc G M nE pc L (.int x :: .int i :: .ref k :: S) σ Q := by
  subst hp
  intro p e R s m args below meth c H locs ls cells slots n0 QQ hF hU hR ha hh hK hc1 hc2 hW hS hL
  obtain ⟨h1, h2⟩ := g_in hj hn
  refine W.eq (g2 := F0 m pc ls (.int x :: .int i :: .ref (g_a G + k) :: S.map (g_tr G))) (by rw [List.map_cons, List.map_cons, List.map_cons, g_tr_own (Nat.lt_of_lt_of_le hk hW.2.2.2)]; rfl) ?_
  refine W.bast hF.1 hF.2.1 (hW.1 k _ (g_ws_r hk hs)) ((hU.1.2 1 _ rfl).1 n (fun j => .int (σ.1 k j))) (fun q => by cases q) (by show ¬ (i < 0 ∨ (arrV _ _ _).slots.size ≤ _); rw [arrV_size]; exact h1) rfl rfl hd fun H1 e1 z oq => ?_
  rw [h2] at e1 ⊢
  rw [hx] at e1
  obtain ⟨hW', hS'⟩ := g_Wk_set (σ' := g_pr σ k (upd (σ.1 k) j y)) (sl := j) hW hS hk rfl (g_en_arr hs (by simp [g_pr])) (fun i hi => g_en_pr hi) (g_at_arr e1) z oq
  exact h p e R s m args below meth c H1 _ ls cells slots n0 QQ hF hU hR ha hh hK hc1 hc2 hW' hS' hL
theorem cz_zast {k n j : Nat} {i x y : Int32} (hd : decode M.2.1 pc = .ok (.bastore, 1)) (hk : k < σ.2.2.2) (hs : g_sh k = .inl (2, n)) (hj : i.toInt = (j : Int)) (hn : j < n) (hx : narrow .boolean (.int x) = .int y) (hp : pc + 1 = pc') (h : Cc G M nE pc' L S (g_pr σ k (upd (σ.1 k) j y)) Q) : Cc G M nE pc L (.int x :: .int i :: .ref k :: S) σ Q := by
  subst hp
  intro p e R s m args below meth c H locs ls cells slots n0 QQ hF hU hR ha hh hK hc1 hc2 hW hS hL
  obtain ⟨h1, h2⟩ := g_in hj hn
  refine W.eq (g2 := F0 m pc ls (.int x :: .int i :: .ref (g_a G + k) :: S.map (g_tr G))) (by rw [List.map_cons, List.map_cons, List.map_cons, g_tr_own (Nat.lt_of_lt_of_le hk hW.2.2.2)]; rfl) ?_
  refine W.zast hF.1 hF.2.1 (hW.1 k _ (g_ws_r hk hs)) ((hU.1.2 2 _ rfl).1 n (fun j => .int (σ.1 k j))) (fun q => by cases q) (by show ¬ (i < 0 ∨ (arrV _ _ _).slots.size ≤ _); rw [arrV_size]; exact h1) rfl rfl hd fun H1 e1 z oq => ?_
  rw [h2] at e1 ⊢
  rw [hx] at e1
  obtain ⟨hW', hS'⟩ := g_Wk_set (σ' := g_pr σ k (upd (σ.1 k) j y)) (sl := j) hW hS hk rfl (g_en_arr hs (by simp [g_pr])) (fun i hi => g_en_pr hi) (g_at_arr e1) z oq
  exact h p e R s m args below meth c H1 _ ls cells slots n0 QQ hF hU hR ha hh hK hc1 hc2 hW' hS' hL
/-- the script -/
theorem cz_sld {j : Nat} {i : Int32} (hd : decode M.2.1 pc = .ok (.iaload, 1)) (hj : i.toInt = (j : Int)) (hn : j < g_L G) (hp : pc + 1 = pc') (h : Cc G M nE pc' L (.int (g_x G j) :: S) σ Q) : Cc G M nE pc L (.int i :: .ref 1000 :: S) σ Q := by
  subst hp
  intro p e R s m args below meth c H locs ls cells slots n0 QQ hF hU hR ha hh hK hc1 hc2 hW hS hL
  obtain ⟨h1, h2⟩ := g_in hj hn
  have hX : va_X (g_s G 0) (g_L G) (g_x G) s s.heap := hU.2.2.2.1.kept (hh _ hU.2.2.2.2.1)
  refine va_sld hF.1 hF.2.1 hX (Nat.lt_of_lt_of_le hU.2.2.2.2.1 ha) (Nat.not_le.mpr hU.2.2.2.2.1) hS h1 hd ?_
  rw [h2]
  exact h p e R s m args below meth c H locs ls cells slots n0 QQ hF hU hR ha hh hK hc1 hc2 hW hS hL
theorem cz_slen (hd : decode M.2.1 pc = .ok (.arraylength, 1)) (hp : pc + 1 = pc') (h : Cc G M nE pc' L (.int (Int32.ofNat (g_L G)) :: S) σ Q) : Cc G M nE pc L (.ref 1000 :: S) σ Q := by
  subst hp
  intro p e R s m args below meth c H locs ls cells slots n0 QQ hF hU hR ha hh hK hc1 hc2 hW hS hL
  have hX : va_X (g_s G 0) (g_L G) (g_x G) s s.heap := hU.2.2.2.1.kept (hh _ hU.2.2.2.2.1)
  exact va_slen hF.1 hF.2.1 hX (Nat.lt_of_lt_of_le hU.2.2.2.2.1 ha) (Nat.not_le.mpr hU.2.2.2.2.1) hS hd (h p e R s m args below meth c H locs ls cells slots n0 QQ hF hU hR ha hh hK hc1 hc2 hW hS hL)
end
