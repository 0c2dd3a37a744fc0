/-! what is made: objects and arrays, at the next number; copies of rows -/
def g_nw (σ : St) : St := (fun a b => if a = σ.2.2.2 then 0 else σ.1 a b, fun a b => if a = σ.2.2.2 then 0 else σ.2.1 a b, fun a b => if a = σ.2.2.2 then none else σ.2.2.1 a b, σ.2.2.2 + 1)
theorem g_en_nw {G : Wd} {σ : St} {i : Nat} (h : i ≠ σ.2.2.2) : g_en G (g_nw σ) i = g_en G σ i := by
  simp [g_en, g_nw, h, g_fl, g_fv]
theorem g_ws_nw {G : Wd} {σ : St} : g_ws G (g_nw σ) = g_ws G σ ++ [(g_a G + σ.2.2.2, g_en G (g_nw σ) σ.2.2.2)] := by
  apply Eq.symm
  refine g_ws_ext (by rw [List.length_append, g_ws_len]; rfl) (fun i hi => ?_)
  have hi2 : i < σ.2.2.2 + 1 := hi
  by_cases h : i < σ.2.2.2
  · rw [List.getElem?_append_left (by rw [g_ws_len]; exact h), g_ws_at h, g_en_nw (by omega)]
  · have e : i = σ.2.2.2 := by omega
    subst e
    rw [List.getElem?_append_right (by rw [g_ws_len]; omega), g_ws_len, Nat.sub_self]
    rfl
theorem g_Wk_new {G : Wd} {σ : St} {H H1 : Heap} (hW : g_Wk G σ H) (hn : σ.2.2.2 < 42) (hat : va_at (g_D G) classes (g_a G + σ.2.2.2, g_en G (g_nw σ) σ.2.2.2) H1) (hz : H1.size = H.size + 1) (oq : ∀ q : Nat, q < H.size → H1[q]? = H[q]?) : g_Wk G (g_nw σ) H1 := by
  have hzz := hW.2.1 hn
  refine ⟨?_, fun _ => by rw [hz, hzz]; rfl, fun q hq => ?_, by show σ.2.2.2 + 1 ≤ 1000; omega⟩
  · rw [g_ws_nw]
    refine (hW.1.kept (fun k q hk => oq q.1 ((hW.1 k q hk).lt))).app (fun k q hk => ?_)
    have hz : k < 1 := (List.getElem?_eq_some_iff.mp hk).1
    rw [show k = 0 by omega] at hk
    cases hk
    exact hat
  · rw [oq q (by omega)]
    exact hW.2.2.1 q hq
def g_Nf (own : String) (idx ci : Nat) : Prop := ∃ (C : String) (T : u_T) (N : Nat), classes[ci]? = some (C, T, N) ∧ Cond.classLink own idx C ∈ gw ∧ Cond.instantiable C N ∈ gw ∧ Cond.initialized C ∈ gw
theorem g_fv_nw {σ : St} {ty : FieldType} {j : Nat} (h : ty = .int ∨ ty = .long ∨ (∃ n, ty = .object n) ∨ ∃ t, ty = .array t) : defaultValue ty = g_fv (g_nw σ) σ.2.2.2 ty j := by
  rcases h with rfl | rfl | ⟨n, rfl⟩ | ⟨t, rfl⟩ <;> simp [g_fv, g_nw, g_rv] <;> rfl
def g_tyok (ty : FieldType) : Bool := match ty with
  | .int => true
  | .long => true
  | .object _ => true
  | .array _ => true
  | _ => false
theorem g_tyok_of {ty : FieldType} (h : g_tyok ty = true) : ty = .int ∨ ty = .long ∨ (∃ n, ty = .object n) ∨ ∃ t, ty = .array t := by
  cases ty <;> first | (cases h; done) | simp
section
variable {G : Wd} {M : MD} {nE pc pc' : Nat} {L L' : List (Option Value)} {S : List Value} {σ : St} {Q : Option Value → St → Prop}
theorem cz_new {idx ci : Nat} (hd : decode M.2.1 pc = .ok (.new idx, 3)) (hg : g_Nf M.1.cls idx ci) (hs : g_sh σ.2.2.2 = .inr ci) (hty : ∀ j, j < g_nf ci → g_tyok (g_fty ci j) = true) (hE : σ.2.2.2 < nE) (hE2 : nE ≤ 42) (hp : pc + 3 = pc') (h : Cc G M nE pc' L (.ref σ.2.2.2 :: S) (g_nw σ) Q) : Cc G M nE pc L S σ Q := by
  subst hp
  intro p e R s m args below meth c H locs ls cells slots n0 QQ hF hU hR ha hh hK hc1 hc2 hW hS hL
  obtain ⟨C, T, N, hc, w1, w2, w3⟩ := hg
  have hKn := hU.1.1 ci _ hc
  have hszk : g_szk σ.2.2.2 = N := by simp only [g_szk, hs, g_nf_eq hc]
  have hle := g_sz_le (show σ.2.2.2 + 1 ≤ nE from hE)
  have hst : g_sz (σ.2.2.2 + 1) = g_sz σ.2.2.2 + g_szk σ.2.2.2 := rfl
  obtain ⟨r1, r2, r3, r4, r5⟩ := hR
  have hsz := hW.2.1 (by omega)
  refine W.newcK hF.1 hF.2.1 hF.2.2.2.1 (hF.2.2.2.2.1 _ w1) (hF.2.2.2.2.1 _ w2) (hF.2.2.2.2.1 _ w3) rfl hd (by omega) (by omega) hKn.2.1 hsz fun H1 kC hkC e1 z1 o1 => ?_
  have hgo := h p e R s m args below meth c H1 locs ls (cells + 1) (slots + N) n0 QQ hF hU ⟨r1, r2, r3, r4, r5⟩ ha hh hK (by show _ = σ.2.2.2 + 1; omega) (by show _ = g_sz (σ.2.2.2 + 1); omega) (g_Wk_new hW (by omega) ?_ (by rw [z1, hsz]) (fun q hq => o1 q (by rw [← hsz]; exact hq))) ⟨Nat.le_trans hS.1 (by omega), fun q h1 h2 => (o1 q (by have := hS.1; omega)).trans (hS.2.1 q h1 h2), hS.2.2⟩ hL
  · refine W.eq ?_ hgo
    rw [List.map_cons, g_tr_own (show σ.2.2.2 < 1000 by omega)]
  · simp only [g_en, hs]
    refine ⟨_, hc, (u_born (g_fty ci) hF.2.2.2.2.1 (g_uin ci _ hc) hKn hkC e1 (g_typ ci _ hc)).to (fun j hj => ?_)⟩
    have hj2 : j < g_nf ci := by rw [g_nf_eq hc]; exact hj
    have hv := g_fv_nw (σ := σ) (j := j) (g_tyok_of (hty j hj2))
    have hq := g_fl_at (G := G) (σ := g_nw σ) (k := σ.2.2.2) hj2
    rw [vp_V, List.getD_eq_getElem?_getD, hq, hv]
    rcases g_tyok_of (hty j hj2) with e | e | ⟨n, e⟩ | ⟨n, e⟩ <;> rw [e] <;> simp [g_fv, g_nw, g_tr, g_rv]
/-- the types of arrays: 0 int, 1 byte, 2 boolean -/
def g_aty (t : Nat) : ArrayType := match t with
  | 0 => .int
  | 1 => .byte
  | _ => .boolean
theorem cz_newa {t n : Nat} {x : Int32} (hd : decode M.2.1 pc = .ok (.newarray (g_aty t), 2)) (ht : t < 3) (hw : Cond.arrayClass (newarray.typeOf (g_aty t)) ∈ gw) (hs : g_sh σ.2.2.2 = .inl (t, n)) (hx : x.toInt = (n : Int)) (hn : n ≤ 1000) (hE : σ.2.2.2 < nE) (hE2 : nE ≤ 42) (hp : pc + 2 = pc') (h : Cc G M nE pc' L (.ref σ.2.2.2 :: S) (g_nw σ) Q) : Cc G M nE pc L (.int x :: S) σ Q := by
  subst hp
  intro p e R s m args below meth c H locs ls cells slots n0 QQ hF hU hR ha hh hK hc1 hc2 hW hS hL
  have hszk : g_szk σ.2.2.2 = n := by simp only [g_szk, hs]
  have hle := g_sz_le (show σ.2.2.2 + 1 ≤ nE from hE)
  have hst : g_sz (σ.2.2.2 + 1) = g_sz σ.2.2.2 + g_szk σ.2.2.2 := rfl
  obtain ⟨r1, r2, r3, r4, r5⟩ := hR
  have hsz := hW.2.1 (by omega)
  have hx0 : ¬ x < 0 := by rw [Int32.lt_iff_toInt_lt]; show ¬ x.toInt < 0; omega
  have hxn : x.toNatClampNeg = n := by show x.toInt.toNat = n; omega
  have hcb : n * componentBytes (newarray.typeOf (g_aty t)) ≤ 536870912 := by
    have : componentBytes (newarray.typeOf (g_aty t)) ≤ 8 := by
      rcases (show t = 0 ∨ t = 1 ∨ t = 2 by omega) with rfl | rfl | rfl <;> decide
    calc n * componentBytes (newarray.typeOf (g_aty t)) ≤ 1000 * 8 := Nat.mul_le_mul hn this
      _ ≤ 536870912 := by decide
  refine va_newaK hF.1 hF.2.1 (hF.2.2.2.2.1 _ hw) rfl hd rfl hx0 hxn hcb (by omega) (by omega) hsz fun H1 cA e1 z1 o1 hAr hNm => ?_
  have hcA : cA = g_c G t := by
    rcases (show t = 0 ∨ t = 1 ∨ t = 2 by omega) with rfl | rfl | rfl
    · exact Option.some.inj (hNm.symm.trans (hU.1.2 0 _ rfl).2)
    · exact Option.some.inj (hNm.symm.trans (hU.1.2 1 _ rfl).2)
    · exact Option.some.inj (hNm.symm.trans (hU.1.2 2 _ rfl).2)
  have hgo := h p e R s m args below meth c H1 locs ls (cells + 1) (slots + n) n0 QQ hF hU ⟨r1, r2, r3, r4, r5⟩ ha hh hK (by show _ = σ.2.2.2 + 1; omega) (by show _ = g_sz (σ.2.2.2 + 1); omega) (g_Wk_new hW (by omega) ?_ (by rw [z1, hsz]) (fun q hq => o1 q (by rw [← hsz]; exact hq))) ⟨Nat.le_trans hS.1 (by omega), fun q h1 h2 => (o1 q (by have := hS.1; omega)).trans (hS.2.1 q h1 h2), hS.2.2⟩ hL
  · refine W.eq ?_ hgo
    show F0 m (pc + 2) ls _ = F0 m (pc + 2) ls (g_tr G (.ref σ.2.2.2) :: S.map (g_tr G))
    rw [g_tr_own (show σ.2.2.2 < 1000 by omega)]
  · rw [g_en_arr hs rfl]
    show H1[_]? = some (vp_cell _ _)
    rw [vp_cell_i, e1, hcA]
    have hz : (g_nw σ).1 σ.2.2.2 = fun _ => 0 := by funext b; simp [g_nw]
    rw [hz]
    rcases (show t = 0 ∨ t = 1 ∨ t = 2 by omega) with rfl | rfl | rfl <;> rfl
/-- a copy from a row of ints into one (the same, too) -/
theorem cz_acopy {idx k0 k1 m0 m1 a b n : Nat} {x y z : Int32} (hd : decode M.2.1 pc = .ok (.invokestatic idx, 3)) (hw : Cond.methodLink M.1.cls idx arraycopyName ∈ gw) (hw2 : Cond.native arraycopyName ∈ gw ∧ Cond.static arraycopyName ∈ gw ∧ Cond.initialized "java/lang/System" ∈ gw) (hk0 : k0 < σ.2.2.2) (hk1 : k1 < σ.2.2.2) (hs0 : g_sh k0 = .inl (0, m0)) (hs1 : g_sh k1 = .inl (0, m1)) (hx : x.toInt = (a : Int)) (hy : y.toInt = (b : Int)) (hz : z.toInt = (n : Int)) (h0 : a + n ≤ m0) (h1 : b + n ≤ m1) (hN : σ.2.2.2 = 42) (hf : 1 ≤ M.2.2.2.2.1) (hl : (S.map fun v => v.category).sum + 18 ≤ M.2.2.2.2.2) (hp : pc + 3 = pc') (h : Cc G M nE pc' L S (g_pr σ k1 (va_cpy (σ.1 k0) (σ.1 k1) a b n)) Q) : Cc G M nE pc L (.int z :: .int y :: .ref k1 :: .int x :: .ref k0 :: S) σ Q := by
  subst hp
  intro p e R s m args below meth c H locs ls cells slots n0 QQ hF hU hR ha hh hK hc1 hc2 hW hS hL
  refine W.eq (g2 := F0 m pc ls (.int z :: .int y :: .ref (g_a G + k1) :: .int x :: .ref (g_a G + k0) :: S.map (g_tr G))) (by simp only [List.map_cons]; rw [g_tr_own (Nat.lt_of_lt_of_le hk0 hW.2.2.2), g_tr_own (Nat.lt_of_lt_of_le hk1 hW.2.2.2)]; rfl) ?_
  have ex : x.toNatClampNeg = a := by show x.toInt.toNat = a; omega
  have ey : y.toNatClampNeg = b := by show y.toInt.toNat = b; omega
  have ez : z.toNatClampNeg = n := by show z.toInt.toNat = n; omega
  have ng : ∀ {u : Int32} {i : Nat}, u.toInt = (i : Int) → ¬ u < 0 := fun {u i} q => by rw [Int32.lt_iff_toInt_lt]; show ¬ u.toInt < 0; omega
  obtain ⟨r1, r2, r3, r4, r5⟩ := id hR
  have hcat : ((S.map (g_tr G)).map fun v => v.category) = S.map fun v => v.category := by
    rw [List.map_map]; congr 1; funext v; exact g_tr_cat G v
  refine va_copyi (H0 := s.heap) (A := g_A G) hF.1 hF.2.1 (hF.2.2.1.trans hL.1.symm) hF.2.2.2.1 (hF.2.2.2.2.1 _ hw) (hF.2.2.2.2.1 _ hw2.1) (hF.2.2.2.2.1 _ hw2.2.1) (hF.2.2.2.2.1 _ hw2.2.2) hU.1 hW.1 g_ws_D hS k0 k1 0 0 (ty := .int) (g_ws_r hk0 hs0) (g_ws_r hk1 hs1) rfl rfl rfl (ng hx) (ng hy) (ng hz) (by rw [ex, ez]; exact h0) (by rw [ey, ez]; exact h1) (fun _ _ => rfl) (Nat.le_trans hf r1) ?_ hd fun H1 locs1 hP1 hD1 hS1 => ?_
  · rw [hcat]
    exact Nat.le_trans hl r2
  · rw [ex, ey, ez] at hP1
    refine h p e R s m args below meth c H1 locs1 ls cells slots n0 QQ hF hU hR ha hh hK hc1 hc2 ⟨?_, fun q => absurd q (by show ¬ σ.2.2.2 < 42; omega), fun q hq => ?_, hW.2.2.2⟩ hS1 hL
    · rw [← g_ws_set (G := G) (σ := σ) (σ' := g_pr σ k1 (va_cpy (σ.1 k0) (σ.1 k1) a b n)) (k := k1) hk1 rfl (g_en_arr (f := va_cpy (σ.1 k0) (σ.1 k1) a b n) hs1 (by simp [g_pr])) (fun i hi => g_en_pr hi)]
      exact hP1
    · rw [hS1.2.1 q (by omega) (by show ¬ g_a G ≤ q; omega)]
      exact hh q hq
end
