/-! constructors -/
abbrev RF : Type := Nat → Nat → Option Nat
def g_M (Z : ZS) (R : RF) (N : Nat) : St := (fun k j => Int32.ofInt (Z k j), fun k j => Int64.ofInt (Z k j), R, N)
def rset (R : RF) (k j x : Nat) : RF := fun a b => if a = k then (if b = j then some x else R a b) else R a b
def Fz (Z : ZS) (R : RF) (N : Nat) : Prop := (∀ a j, N ≤ a → Z a j = 0) ∧ (∀ a j, N ≤ a → R a j = none)
theorem Fz.up {Z : ZS} {R : RF} {N N' : Nat} (h : Fz Z R N) (hn : N ≤ N') : Fz Z R N' := ⟨fun a j ha => h.1 a j (by omega), fun a j ha => h.2 a j (by omega)⟩
theorem Fz.r {Z : ZS} {R : RF} {N k j x : Nat} (h : Fz Z R N) (hk : k < N) : Fz Z (rset R k j x) N := ⟨h.1, fun a b ha => by unfold rset; rw [if_neg (by omega)]; exact h.2 a b ha⟩
theorem Fz.u {Z : ZS} {R : RF} {N k j : Nat} {v : Int} (h : Fz Z R N) (hk : k < N) : Fz (zu Z k j v) R N := ⟨fun a b ha => by rw [zu_ne (by omega)]; exact h.1 a b ha, h.2⟩
theorem g_nwM {Z : ZS} {R : RF} {N : Nat} (h : Fz Z R N) : g_nw (g_M Z R N) = g_M Z R (N + 1) := by
  refine Prod.ext (funext fun a => funext fun b => ?_) (Prod.ext (funext fun a => funext fun b => ?_) (Prod.ext (funext fun a => funext fun b => ?_) rfl))
  · show (if a = N then 0 else Int32.ofInt (Z a b)) = Int32.ofInt (Z a b)
    by_cases q : a = N
    · rw [if_pos q, q, h.1 N b (Nat.le_refl _)]; rfl
    · rw [if_neg q]
  · show (if a = N then 0 else Int64.ofInt (Z a b)) = Int64.ofInt (Z a b)
    by_cases q : a = N
    · rw [if_pos q, q, h.1 N b (Nat.le_refl _)]; rfl
    · rw [if_neg q]
  · show (if a = N then none else R a b) = R a b
    by_cases q : a = N
    · rw [if_pos q, q, h.2 N b (Nat.le_refl _)]
    · rw [if_neg q]
theorem g_enM_zu {G : Wd} {Z : ZS} {R : RF} {N k j : Nat} {v : Int} (a : Nat) (f : Nat → Int32) (hf : f = upd ((g_M Z R N).1 k) j (Int32.ofInt v)) (hty : ∀ ci, g_sh k = .inr ci → g_fty ci j ≠ .long) : g_en G (g_M (zu Z k j v) R N) a = g_en G (g_pr (g_M Z R N) k f) a := by
  subst hf
  by_cases ha : a = k
  · subst ha
    unfold g_en
    cases hs : g_sh a with
    | inl q =>
      simp only
      have : (g_M (zu Z a j v) R N).1 a = (g_pr (g_M Z R N) a (upd ((g_M Z R N).1 a) j (Int32.ofInt v))).1 a := by
        funext b
        by_cases hb : b = j <;> simp [g_M, g_pr, zu, upd, hb]
      rw [this]
    | inr ci =>
      simp only
      have hl := hty ci hs
      congr 2
      unfold g_fl
      apply List.map_congr_left
      intro b _
      by_cases hb : b = j
      · subst hb
        cases hq : g_fty ci b <;> first | (exact absurd hq hl) | simp [g_fv, g_M, g_pr, zu, upd]
      · cases g_fty ci b <;> simp [g_fv, g_M, g_pr, zu, upd, hb]
  · rw [g_en_pr ha]
    unfold g_en
    have h1 : (g_M (zu Z k j v) R N).1 a = (g_M Z R N).1 a := by funext b; simp [g_M, zu, ha]
    cases g_sh a with
    | inl q => simp only [h1]
    | inr ci =>
      simp only
      congr 2
      unfold g_fl
      apply List.map_congr_left
      intro b _
      cases g_fty ci b <;> simp [g_fv, g_M, zu, ha]
theorem g_enM_zl {G : Wd} {Z : ZS} {R : RF} {N k j : Nat} {v : Int} (a : Nat) {ci : Nat} (hs : g_sh k = .inr ci) (hty : g_fty ci j = .long) : g_en G (g_M (zu Z k j v) R N) a = g_en G (g_pl (g_M Z R N) k j (Int64.ofInt v)) a := by
  by_cases ha : a = k
  · subst ha
    unfold g_en
    rw [hs]
    simp only
    congr 2
    unfold g_fl
    apply List.map_congr_left
    intro b _
    by_cases hb : b = j
    · subst hb
      rw [hty]; simp [g_fv, g_M, g_pl, zu]
    · cases g_fty ci b <;> simp [g_fv, g_M, g_pl, zu, hb]
  · rw [g_en_pl ha]
    unfold g_en
    have h1 : (g_M (zu Z k j v) R N).1 a = (g_M Z R N).1 a := by funext b; simp [g_M, zu, ha]
    cases g_sh a with
    | inl q => simp only [h1]
    | inr ci =>
      simp only
      congr 2
      unfold g_fl
      apply List.map_congr_left
      intro b _
      cases g_fty ci b <;> simp [g_fv, g_M, zu, ha]
theorem g_nf_le (ci : Nat) : g_nf ci ≤ 16 := by
  unfold g_nf
  match ci with
  | 0 => decide
  | 1 => decide
  | 2 => decide
  | 3 => decide
  | 4 => decide
  | 5 => decide
  | 6 => decide
  | 7 => decide
  | 8 => decide
  | 9 => decide
  | 10 => decide
  | 11 => decide
  | n + 12 => simp [classes]
theorem g_enR {G : Wd} {Z : ZS} {R : RF} (h : ∀ k, k < 42 → ∀ j, j < 16 → R k j = g_rS k j) (a : Nat) : g_en G (g_N Z) a = g_en G (g_M Z R 42) a := by
  unfold g_en
  cases hs : g_sh a with
  | inl q => rfl
  | inr ci =>
    simp only
    congr 2
    unfold g_fl
    apply List.map_congr_left
    intro b hb
    have hb1 := List.mem_range.mp hb
    have hb2 := g_nf_le ci
    have ha : a < 42 := by
      refine Decidable.byContradiction (fun q => ?_)
      have : g_sh a = .inr 99 := by
        unfold g_sh
        rw [List.getD_eq_getElem?_getD, List.getElem?_eq_none (by show 42 ≤ a; omega)]; rfl
      rw [this] at hs
      cases hs
      exact absurd hb1 (by show ¬ b < g_nf 99; simp [g_nf, classes])
    have e := h a ha b (by omega)
    cases g_fty ci b <;> simp [g_fv, g_N, g_M, e]
section
variable {G : Wd} {M : MD} {nE pc pc' N : Nat} {L : List (Option Value)} {S : List Value} {Z : ZS} {R : RF} {Q : Option Value → St → Prop}
theorem mz_new {idx ci : Nat} (hd : decode M.2.1 pc = .ok (.new idx, 3)) (hg : g_Nf M.1.cls idx ci) (hs : g_sh N = .inr ci) (hty : ∀ j, j < g_nf ci → g_tyok (g_fty ci j) = true) (hE : N < nE) (hE2 : nE ≤ 42) (hz : Fz Z R N) (hp : pc + 3 = pc') (h : Cc G M nE pc' L (.ref N :: S) (g_M Z R (N + 1)) Q) : Cc G M nE pc L S (g_M Z R N) Q :=
  cz_new hd hg hs hty hE hE2 hp (by rw [g_nwM hz]; exact h)
theorem mz_newa {t n : Nat} {x : Int} (hd : decode M.2.1 pc = .ok (.newarray (g_aty t), 2)) (ht : t < 3) (hw : Cond.arrayClass (newarray.typeOf (g_aty t)) ∈ gw) (hs : g_sh N = .inl (t, n)) (hx : x = (n : Int)) (hn : n ≤ 1000) (hE : N < nE) (hE2 : nE ≤ 42) (hz : Fz Z R N) (hp : pc + 2 = pc') (h : Cc G M nE pc' L (.ref N :: S) (g_M Z R (N + 1)) Q) : Cc G M nE pc L (iv x :: S) (g_M Z R N) Q :=
  cz_newa hd ht hw hs (by rw [t32 (by omega)]; exact hx) hn hE hE2 hp (by rw [g_nwM hz]; exact h)
theorem mz_putf {idx k ci j r : Nat} (hd : decode M.2.1 pc = .ok (.putfield idx, 3)) (hg : g_Ff M.1.cls idx ci j) (hin : M.1.name = "<init>") (hty : (∃ n, g_fty ci j = .object n) ∨ ∃ t, g_fty ci j = .array t) (hk : k < N) (hs : g_sh k = .inr ci) (hp : pc + 3 = pc') (h : Cc G M nE pc' L S (g_M Z (rset R k j r) N) Q) : Cc G M nE pc L (.ref r :: .ref k :: S) (g_M Z R N) Q :=
  cz_putf hd hg hin hty hk hs hp h
theorem mz_putl {idx k ci j : Nat} {v : Int} (hd : decode M.2.1 pc = .ok (.putfield idx, 3)) (hg : g_Pf M.1.cls idx ci j) (hty : g_fty ci j = .long) (hk : k < N) (hs : g_sh k = .inr ci) (hp : pc + 3 = pc') (h : Cc G M nE pc' L S (g_M (zu Z k j v) R N) Q) : Cc G M nE pc L (il v :: .ref k :: S) (g_M Z R N) Q :=
  cz_putl hd hg hty hk hs hp (cz_eqv (σ' := g_M (zu Z k j v) R N) rfl (fun b => g_enM_zl b hs hty) h)
theorem mz_iast {k n j : Nat} {a v : Int} (hd : decode M.2.1 pc = .ok (.iastore, 1)) (hk : k < N) (hs : g_sh k = .inl (0, n)) (hn2 : n ≤ 1000) (hj : a = (j : Int)) (hn : j < n) (hp : pc + 1 = pc') (h : Cc G M nE pc' L S (g_M (zu Z k j v) R N) Q) : Cc G M nE pc L (iv v :: iv a :: .ref k :: S) (g_M Z R N) Q :=
  cz_iast hd hk hs (by rw [t32 (by omega)]; exact hj) hn hp (cz_eqv (σ' := g_M (zu Z k j v) R N) rfl (fun b => g_enM_zu b _ rfl (g_nl hs j)) h)
theorem mz_getr {idx k ci j x : Nat} (hd : decode M.2.1 pc = .ok (.getfield idx, 3)) (hg : g_Gf M.1.cls idx ci j) (hk : k < N) (hs : g_sh k = .inr ci) (hv : g_fv (g_M Z R N) k (g_fty ci j) j = .ref x) (hp : pc + 3 = pc') (h : Cc G M nE pc' L (.ref x :: S) (g_M Z R N) Q) : Cc G M nE pc L (.ref k :: S) (g_M Z R N) Q := cz_getf hd hg hk hs hv hp h
end
def rBk (R : RF) (k : Nat) : RF := rset (rset (rset (rset R k 0 (k + 1)) k 1 (k + 2)) k 2 (k + 3)) k 3 (k + 4)
def rKd (R : RF) : RF := rset (rset (rset (rset (rset (rset R 25 0 26) 25 1 27) 25 2 28) 25 3 29) 25 4 30) 25 5 31
def rRd (R : RF) : RF := rset (rBk (rset R 17 0 18) 19) 17 1 19
def rOl (R : RF) : RF := rset (rset (rKd R) 24 0 25) 24 1 32
def rMain (R : RF) : RF := rset (rset (rset (rOl (rset (rRd (rset (rset (rBk (rset (rBk (rset (rBk R 1) 0 0 1) 6) 0 1 6) 11) 0 2 11) 0 3 16)) 0 4 17)) 0 5 24) 0 6 25) 0 7 33
def rMod (R : RF) : RF := rset (rset (rset (rset (rset (rset (rset R 34 0 35) 34 1 36) 34 2 37) 34 3 38) 34 4 39) 34 5 40) 34 9 41
theorem Fz.bk {Z : ZS} {R : RF} {k : Nat} (h : Fz Z R (k + 1)) : Fz (zu Z (k + 1) 3 1) (rBk R k) (k + 5) := (((((h.up (show k + 1 ≤ k + 5 by omega)).r (by omega)).r (by omega)).r (by omega)).r (by omega)).u (by omega)
theorem Fz.kd {Z : ZS} {R : RF} (h : Fz Z R 26) : Fz Z (rKd R) 32 := ((((((h.up (by decide)).r (by decide)).r (by decide)).r (by decide)).r (by decide)).r (by decide)).r (by decide)

theorem li_X3 (C : String) : g_LkV RX3 (.invokespecial 3) C 0 mX6_init := g_lkIN okX6_init rfl q_175 q_166 rfl (by unfold g_np; decide +kernel)
theorem li_X7 (C : String) : g_LkV RX7 (.invokespecial 1) C 0 mX6_init := g_lkIN okX6_init rfl q_182 q_166 rfl (by unfold g_np; decide +kernel)
theorem li_X1 (C : String) : g_LkV RX1 (.invokespecial 3) C 0 mX6_init := g_lkIN okX6_init rfl q_189 q_166 rfl (by unfold g_np; decide +kernel)
theorem li_X9 (C : String) : g_LkV RX9 (.invokespecial 1) C 0 mX7_init := g_lkIN okX7_init rfl q_196 q_180 rfl (by unfold g_np; decide +kernel)
theorem li_X5 (C : String) : g_LkV RX5 (.invokespecial 1) C 0 mX3_init := g_lkIN okX3_init rfl q_203 q_173 rfl (by unfold g_np; decide +kernel)
theorem i_X6 (G : Wd) (k : Nat) (σ : St) : Cc G mX6_init σ.2.2.2 0 [some (.ref k)] [] σ (fun v τ => v = none ∧ τ = σ) := by
  refine cz_aload_n (pc' := 1) (g_d dtbX6_init_0 0 rfl) rfl rfl ?_
  refine cz_obj (S := []) (pc' := 4) (g_d dtbX6_init_0 1 rfl) lo_X6_1 g_oi (by decide) (by decide) rfl ?_
  exact cz_vret (g_d dtbX6_init_0 2 rfl) rfl rfl ⟨rfl, rfl⟩
theorem i_X3 (G : Wd) (k : Nat) (σ : St) (C : String) (hr : g_rc G σ k C) : Cc G mX3_init σ.2.2.2 0 [some (.ref k)] [] σ (fun v τ => v = none ∧ τ = σ) := by
  refine cz_aload_n (pc' := 1) (g_d dtbX3_init_0 0 rfl) rfl rfl ?_
  refine cz_callV (M' := mX6_init) (k := k) (C := C) (As := []) (S := []) (nE' := σ.2.2.2) (pc' := 4) (g_d dtbX3_init_0 1 rfl) (li_X3 C) okX6_init hr rfl rfl (Nat.le_of_ble_eq_true rfl) (Nat.le_of_ble_eq_true rfl) (by decide) ⟨Nat.le_refl _, Nat.le_refl _⟩ rfl (i_X6 G k σ) ?_
  rintro _ _ ⟨rfl, rfl⟩ _
  exact cz_vret (g_d dtbX3_init_0 2 rfl) rfl rfl ⟨rfl, rfl⟩
theorem i_X7 (G : Wd) (k : Nat) (σ : St) (C : String) (hr : g_rc G σ k C) : Cc G mX7_init σ.2.2.2 0 [some (.ref k)] [] σ (fun v τ => v = none ∧ τ = σ) := by
  refine cz_aload_n (pc' := 1) (g_d dtbX7_init_0 0 rfl) rfl rfl ?_
  refine cz_callV (M' := mX6_init) (k := k) (C := C) (As := []) (S := []) (nE' := σ.2.2.2) (pc' := 4) (g_d dtbX7_init_0 1 rfl) (li_X7 C) okX6_init hr rfl rfl (Nat.le_of_ble_eq_true rfl) (Nat.le_of_ble_eq_true rfl) (by decide) ⟨Nat.le_refl _, Nat.le_refl _⟩ rfl (i_X6 G k σ) ?_
  rintro _ _ ⟨rfl, rfl⟩ _
  exact cz_vret (g_d dtbX7_init_0 2 rfl) rfl rfl ⟨rfl, rfl⟩
theorem i_X1 (G : Wd) (k : Nat) (σ : St) (C : String) (hr : g_rc G σ k C) : Cc G mX1_init σ.2.2.2 0 [some (.ref k)] [] σ (fun v τ => v = none ∧ τ = σ) := by
  refine cz_aload_n (pc' := 1) (g_d dtbX1_init_0 0 rfl) rfl rfl ?_
  refine cz_callV (M' := mX6_init) (k := k) (C := C) (As := []) (S := []) (nE' := σ.2.2.2) (pc' := 4) (g_d dtbX1_init_0 1 rfl) (li_X1 C) okX6_init hr rfl rfl (Nat.le_of_ble_eq_true rfl) (Nat.le_of_ble_eq_true rfl) (by decide) ⟨Nat.le_refl _, Nat.le_refl _⟩ rfl (i_X6 G k σ) ?_
  rintro _ _ ⟨rfl, rfl⟩ _
  exact cz_vret (g_d dtbX1_init_0 2 rfl) rfl rfl ⟨rfl, rfl⟩
theorem i_X9 (G : Wd) (k : Nat) (σ : St) (C : String) (hr : g_rc G σ k C) : Cc G mX9_init σ.2.2.2 0 [some (.ref k)] [] σ (fun v τ => v = none ∧ τ = σ) := by
  refine cz_aload_n (pc' := 1) (g_d dtbX9_init_0 0 rfl) rfl rfl ?_
  refine cz_callV (M' := mX7_init) (k := k) (C := C) (As := []) (S := []) (nE' := σ.2.2.2) (pc' := 4) (g_d dtbX9_init_0 1 rfl) (li_X9 C) okX7_init hr rfl rfl (Nat.le_of_ble_eq_true rfl) (Nat.le_of_ble_eq_true rfl) (by decide) ⟨Nat.le_refl _, Nat.le_refl _⟩ rfl (i_X7 G k σ C hr) ?_
  rintro _ _ ⟨rfl, rfl⟩ _
  exact cz_vret (g_d dtbX9_init_0 2 rfl) rfl rfl ⟨rfl, rfl⟩
theorem i_X5 (G : Wd) (k : Nat) (σ : St) (C : String) (hr : g_rc G σ k C) : Cc G mX5_init σ.2.2.2 0 [some (.ref k)] [] σ (fun v τ => v = none ∧ τ = σ) := by
  refine cz_aload_n (pc' := 1) (g_d dtbX5_init_0 0 rfl) rfl rfl ?_
  refine cz_callV (M' := mX3_init) (k := k) (C := C) (As := []) (S := []) (nE' := σ.2.2.2) (pc' := 4) (g_d dtbX5_init_0 1 rfl) (li_X5 C) okX3_init hr rfl rfl (Nat.le_of_ble_eq_true rfl) (Nat.le_of_ble_eq_true rfl) (by decide) ⟨Nat.le_refl _, Nat.le_refl _⟩ rfl (i_X3 G k σ C hr) ?_
  rintro _ _ ⟨rfl, rfl⟩ _
  exact cz_vret (g_d dtbX5_init_0 2 rfl) rfl rfl ⟨rfl, rfl⟩
section
variable {G : Wd} {M : MD} {nE pc pc' : Nat} {L : List (Option Value)} {S : List Value} {σ : St} {Q : Option Value → St → Prop}
theorem nz_iconstM {n : Int} (hd : decode M.2.1 pc = .ok (.iconst n, 1)) (hp : pc + 1 = pc') (h : Cc G M nE pc' L (iv n :: S) σ Q) : Cc G M nE pc L S σ Q := cz_iconst hd rfl hp h
theorem nz_bipushM {n : Int} (hd : decode M.2.1 pc = .ok (.bipush n, 2)) (hv : (Int8.ofInt n).toInt32 = Int32.ofInt n) (hp : pc + 2 = pc') (h : Cc G M nE pc' L (iv n :: S) σ Q) : Cc G M nE pc L S σ Q := cz_bipush hd hv hp h
theorem nz_sipushM {n : Int} (hd : decode M.2.1 pc = .ok (.sipush n, 3)) (hv : (Int16.ofInt n).toInt32 = Int32.ofInt n) (hp : pc + 3 = pc') (h : Cc G M nE pc' L (iv n :: S) σ Q) : Cc G M nE pc L S σ Q := cz_sipush hd hv hp h
theorem nz_lconstM {n : Fin 2} {v : Int} (hd : decode M.2.1 pc = .ok (.lconst n, 1)) (hv : Int64.ofNat (n : Nat) = Int64.ofInt v) (hp : pc + 1 = pc') (h : Cc G M nE pc' L (il v :: S) σ Q) : Cc G M nE pc L S σ Q := cz_lconst hd hv hp h
end
set_option maxRecDepth 20000 in
set_option maxHeartbeats 4000000 in
theorem i_Bk1 (G : Wd) (Z : ZS) (R : RF) (hz : Fz Z R 2) : Cc G mX0_init 6 0 [some (.ref 1)] [] (g_M Z R 2) (fun v τ => v = none ∧ τ = g_M (zu Z 2 3 1) (rBk R 1) 6) := by
  refine cz_aload_n (pc' := 1) (g_d dtbX0_init_0 0 rfl) rfl rfl ?_
  refine cz_obj (S := []) (pc' := 4) (g_d dtbX0_init_0 1 rfl) lo_X0_3 g_oi (by decide) (by decide) rfl ?_
  refine cz_aload_n (pc' := 5) (g_d dtbX0_init_0 2 rfl) rfl rfl ?_
  refine nz_bipushM (pc' := 7) (g_d dtbX0_init_0 3 rfl) (by decide) rfl ?_
  refine mz_newa (t := 0) (n := 6) (pc' := 9) (g_d dtbX0_init_0 4 rfl) (by decide) ka_0 rfl rfl (by decide) (by decide) (by decide) hz rfl ?_
  refine mz_putf (pc' := 12) (g_d dtbX0_init_0 5 rfl) ff_X0_9 rfl (Or.inr ⟨_, rfl⟩) (by decide) rfl rfl ?_
  refine cz_aload_n (pc' := 13) (g_d dtbX0_init_0 6 rfl) rfl rfl ?_
  refine nz_bipushM (pc' := 15) (g_d dtbX0_init_0 7 rfl) (by decide) rfl ?_
  refine mz_newa (t := 0) (n := 21) (pc' := 17) (g_d dtbX0_init_0 8 rfl) (by decide) ka_0 rfl rfl (by decide) (by decide) (by decide) ((hz.up (by decide : 2 ≤ 3)).r (by decide)) rfl ?_
  refine mz_putf (pc' := 20) (g_d dtbX0_init_0 9 rfl) ff_X0_15 rfl (Or.inr ⟨_, rfl⟩) (by decide) rfl rfl ?_
  refine cz_aload_n (pc' := 21) (g_d dtbX0_init_0 10 rfl) rfl rfl ?_
  refine nz_bipushM (pc' := 23) (g_d dtbX0_init_0 11 rfl) (by decide) rfl ?_
  refine mz_newa (t := 0) (n := 30) (pc' := 25) (g_d dtbX0_init_0 12 rfl) (by decide) ka_0 rfl rfl (by decide) (by decide) (by decide) ((((hz.up (by decide : 2 ≤ 3)).r (by decide)).up (by decide : 3 ≤ 4)).r (by decide)) rfl ?_
  refine mz_putf (pc' := 28) (g_d dtbX0_init_0 13 rfl) ff_X0_18 rfl (Or.inr ⟨_, rfl⟩) (by decide) rfl rfl ?_
  refine cz_aload_n (pc' := 29) (g_d dtbX0_init_0 14 rfl) rfl rfl ?_
  refine nz_bipushM (pc' := 31) (g_d dtbX0_init_0 15 rfl) (by decide) rfl ?_
  refine mz_newa (t := 0) (n := 48) (pc' := 33) (g_d dtbX0_init_0 16 rfl) (by decide) ka_0 rfl rfl (by decide) (by decide) (by decide) ((((((hz.up (by decide : 2 ≤ 3)).r (by decide)).up (by decide : 3 ≤ 4)).r (by decide)).up (by decide : 4 ≤ 5)).r (by decide)) rfl ?_
  refine mz_putf (pc' := 36) (g_d dtbX0_init_0 17 rfl) ff_X0_21 rfl (Or.inr ⟨_, rfl⟩) (by decide) rfl rfl ?_
  refine cz_aload_n (pc' := 37) (g_d dtbX0_init_0 18 rfl) rfl rfl ?_
  refine mz_getr (x := 2) (pc' := 40) (g_d dtbX0_init_0 19 rfl) gf_X0_9 (by decide) rfl rfl rfl ?_
  refine nz_iconstM (pc' := 41) (g_d dtbX0_init_0 20 rfl) rfl ?_
  refine nz_iconstM (pc' := 42) (g_d dtbX0_init_0 21 rfl) rfl ?_
  refine mz_iast (j := 3) (pc' := 43) (g_d dtbX0_init_0 22 rfl) (by decide) rfl (by decide) rfl (by decide) rfl ?_
  exact cz_vret (g_d dtbX0_init_0 23 rfl) rfl rfl ⟨rfl, rfl⟩

set_option maxRecDepth 20000 in
set_option maxHeartbeats 4000000 in
theorem i_Bk6 (G : Wd) (Z : ZS) (R : RF) (hz : Fz Z R 7) : Cc G mX0_init 11 0 [some (.ref 6)] [] (g_M Z R 7) (fun v τ => v = none ∧ τ = g_M (zu Z 7 3 1) (rBk R 6) 11) := by
  refine cz_aload_n (pc' := 1) (g_d dtbX0_init_0 0 rfl) rfl rfl ?_
  refine cz_obj (S := []) (pc' := 4) (g_d dtbX0_init_0 1 rfl) lo_X0_3 g_oi (by decide) (by decide) rfl ?_
  refine cz_aload_n (pc' := 5) (g_d dtbX0_init_0 2 rfl) rfl rfl ?_
  refine nz_bipushM (pc' := 7) (g_d dtbX0_init_0 3 rfl) (by decide) rfl ?_
  refine mz_newa (t := 0) (n := 6) (pc' := 9) (g_d dtbX0_init_0 4 rfl) (by decide) ka_0 rfl rfl (by decide) (by decide) (by decide) hz rfl ?_
  refine mz_putf (pc' := 12) (g_d dtbX0_init_0 5 rfl) ff_X0_9 rfl (Or.inr ⟨_, rfl⟩) (by decide) rfl rfl ?_
  refine cz_aload_n (pc' := 13) (g_d dtbX0_init_0 6 rfl) rfl rfl ?_
  refine nz_bipushM (pc' := 15) (g_d dtbX0_init_0 7 rfl) (by decide) rfl ?_
  refine mz_newa (t := 0) (n := 21) (pc' := 17) (g_d dtbX0_init_0 8 rfl) (by decide) ka_0 rfl rfl (by decide) (by decide) (by decide) ((hz.up (by decide : 7 ≤ 8)).r (by decide)) rfl ?_
  refine mz_putf (pc' := 20) (g_d dtbX0_init_0 9 rfl) ff_X0_15 rfl (Or.inr ⟨_, rfl⟩) (by decide) rfl rfl ?_
  refine cz_aload_n (pc' := 21) (g_d dtbX0_init_0 10 rfl) rfl rfl ?_
  refine nz_bipushM (pc' := 23) (g_d dtbX0_init_0 11 rfl) (by decide) rfl ?_
  refine mz_newa (t := 0) (n := 30) (pc' := 25) (g_d dtbX0_init_0 12 rfl) (by decide) ka_0 rfl rfl (by decide) (by decide) (by decide) ((((hz.up (by decide : 7 ≤ 8)).r (by decide)).up (by decide : 8 ≤ 9)).r (by decide)) rfl ?_
  refine mz_putf (pc' := 28) (g_d dtbX0_init_0 13 rfl) ff_X0_18 rfl (Or.inr ⟨_, rfl⟩) (by decide) rfl rfl ?_
  refine cz_aload_n (pc' := 29) (g_d dtbX0_init_0 14 rfl) rfl rfl ?_
  refine nz_bipushM (pc' := 31) (g_d dtbX0_init_0 15 rfl) (by decide) rfl ?_
  refine mz_newa (t := 0) (n := 48) (pc' := 33) (g_d dtbX0_init_0 16 rfl) (by decide) ka_0 rfl rfl (by decide) (by decide) (by decide) ((((((hz.up (by decide : 7 ≤ 8)).r (by decide)).up (by decide : 8 ≤ 9)).r (by decide)).up (by decide : 9 ≤ 10)).r (by decide)) rfl ?_
  refine mz_putf (pc' := 36) (g_d dtbX0_init_0 17 rfl) ff_X0_21 rfl (Or.inr ⟨_, rfl⟩) (by decide) rfl rfl ?_
  refine cz_aload_n (pc' := 37) (g_d dtbX0_init_0 18 rfl) rfl rfl ?_
  refine mz_getr (x := 7) (pc' := 40) (g_d dtbX0_init_0 19 rfl) gf_X0_9 (by decide) rfl rfl rfl ?_
  refine nz_iconstM (pc' := 41) (g_d dtbX0_init_0 20 rfl) rfl ?_
  refine nz_iconstM (pc' := 42) (g_d dtbX0_init_0 21 rfl) rfl ?_
  refine mz_iast (j := 3) (pc' := 43) (g_d dtbX0_init_0 22 rfl) (by decide) rfl (by decide) rfl (by decide) rfl ?_
  exact cz_vret (g_d dtbX0_init_0 23 rfl) rfl rfl ⟨rfl, rfl⟩

set_option maxRecDepth 20000 in
set_option maxHeartbeats 4000000 in
theorem i_Bk11 (G : Wd) (Z : ZS) (R : RF) (hz : Fz Z R 12) : Cc G mX0_init 16 0 [some (.ref 11)] [] (g_M Z R 12) (fun v τ => v = none ∧ τ = g_M (zu Z 12 3 1) (rBk R 11) 16) := by
  refine cz_aload_n (pc' := 1) (g_d dtbX0_init_0 0 rfl) rfl rfl ?_
  refine cz_obj (S := []) (pc' := 4) (g_d dtbX0_init_0 1 rfl) lo_X0_3 g_oi (by decide) (by decide) rfl ?_
  refine cz_aload_n (pc' := 5) (g_d dtbX0_init_0 2 rfl) rfl rfl ?_
  refine nz_bipushM (pc' := 7) (g_d dtbX0_init_0 3 rfl) (by decide) rfl ?_
  refine mz_newa (t := 0) (n := 6) (pc' := 9) (g_d dtbX0_init_0 4 rfl) (by decide) ka_0 rfl rfl (by decide) (by decide) (by decide) hz rfl ?_
  refine mz_putf (pc' := 12) (g_d dtbX0_init_0 5 rfl) ff_X0_9 rfl (Or.inr ⟨_, rfl⟩) (by decide) rfl rfl ?_
  refine cz_aload_n (pc' := 13) (g_d dtbX0_init_0 6 rfl) rfl rfl ?_
  refine nz_bipushM (pc' := 15) (g_d dtbX0_init_0 7 rfl) (by decide) rfl ?_
  refine mz_newa (t := 0) (n := 21) (pc' := 17) (g_d dtbX0_init_0 8 rfl) (by decide) ka_0 rfl rfl (by decide) (by decide) (by decide) ((hz.up (by decide : 12 ≤ 13)).r (by decide)) rfl ?_
  refine mz_putf (pc' := 20) (g_d dtbX0_init_0 9 rfl) ff_X0_15 rfl (Or.inr ⟨_, rfl⟩) (by decide) rfl rfl ?_
  refine cz_aload_n (pc' := 21) (g_d dtbX0_init_0 10 rfl) rfl rfl ?_
  refine nz_bipushM (pc' := 23) (g_d dtbX0_init_0 11 rfl) (by decide) rfl ?_
  refine mz_newa (t := 0) (n := 30) (pc' := 25) (g_d dtbX0_init_0 12 rfl) (by decide) ka_0 rfl rfl (by decide) (by decide) (by decide) ((((hz.up (by decide : 12 ≤ 13)).r (by decide)).up (by decide : 13 ≤ 14)).r (by decide)) rfl ?_
  refine mz_putf (pc' := 28) (g_d dtbX0_init_0 13 rfl) ff_X0_18 rfl (Or.inr ⟨_, rfl⟩) (by decide) rfl rfl ?_
  refine cz_aload_n (pc' := 29) (g_d dtbX0_init_0 14 rfl) rfl rfl ?_
  refine nz_bipushM (pc' := 31) (g_d dtbX0_init_0 15 rfl) (by decide) rfl ?_
  refine mz_newa (t := 0) (n := 48) (pc' := 33) (g_d dtbX0_init_0 16 rfl) (by decide) ka_0 rfl rfl (by decide) (by decide) (by decide) ((((((hz.up (by decide : 12 ≤ 13)).r (by decide)).up (by decide : 13 ≤ 14)).r (by decide)).up (by decide : 14 ≤ 15)).r (by decide)) rfl ?_
  refine mz_putf (pc' := 36) (g_d dtbX0_init_0 17 rfl) ff_X0_21 rfl (Or.inr ⟨_, rfl⟩) (by decide) rfl rfl ?_
  refine cz_aload_n (pc' := 37) (g_d dtbX0_init_0 18 rfl) rfl rfl ?_
  refine mz_getr (x := 12) (pc' := 40) (g_d dtbX0_init_0 19 rfl) gf_X0_9 (by decide) rfl rfl rfl ?_
  refine nz_iconstM (pc' := 41) (g_d dtbX0_init_0 20 rfl) rfl ?_
  refine nz_iconstM (pc' := 42) (g_d dtbX0_init_0 21 rfl) rfl ?_
  refine mz_iast (j := 3) (pc' := 43) (g_d dtbX0_init_0 22 rfl) (by decide) rfl (by decide) rfl (by decide) rfl ?_
  exact cz_vret (g_d dtbX0_init_0 23 rfl) rfl rfl ⟨rfl, rfl⟩

set_option maxRecDepth 20000 in
set_option maxHeartbeats 4000000 in
theorem i_Bk19 (G : Wd) (Z : ZS) (R : RF) (hz : Fz Z R 20) : Cc G mX0_init 24 0 [some (.ref 19)] [] (g_M Z R 20) (fun v τ => v = none ∧ τ = g_M (zu Z 20 3 1) (rBk R 19) 24) := by
  refine cz_aload_n (pc' := 1) (g_d dtbX0_init_0 0 rfl) rfl rfl ?_
  refine cz_obj (S := []) (pc' := 4) (g_d dtbX0_init_0 1 rfl) lo_X0_3 g_oi (by decide) (by decide) rfl ?_
  refine cz_aload_n (pc' := 5) (g_d dtbX0_init_0 2 rfl) rfl rfl ?_
  refine nz_bipushM (pc' := 7) (g_d dtbX0_init_0 3 rfl) (by decide) rfl ?_
  refine mz_newa (t := 0) (n := 6) (pc' := 9) (g_d dtbX0_init_0 4 rfl) (by decide) ka_0 rfl rfl (by decide) (by decide) (by decide) hz rfl ?_
  refine mz_putf (pc' := 12) (g_d dtbX0_init_0 5 rfl) ff_X0_9 rfl (Or.inr ⟨_, rfl⟩) (by decide) rfl rfl ?_
  refine cz_aload_n (pc' := 13) (g_d dtbX0_init_0 6 rfl) rfl rfl ?_
  refine nz_bipushM (pc' := 15) (g_d dtbX0_init_0 7 rfl) (by decide) rfl ?_
  refine mz_newa (t := 0) (n := 21) (pc' := 17) (g_d dtbX0_init_0 8 rfl) (by decide) ka_0 rfl rfl (by decide) (by decide) (by decide) ((hz.up (by decide : 20 ≤ 21)).r (by decide)) rfl ?_
  refine mz_putf (pc' := 20) (g_d dtbX0_init_0 9 rfl) ff_X0_15 rfl (Or.inr ⟨_, rfl⟩) (by decide) rfl rfl ?_
  refine cz_aload_n (pc' := 21) (g_d dtbX0_init_0 10 rfl) rfl rfl ?_
  refine nz_bipushM (pc' := 23) (g_d dtbX0_init_0 11 rfl) (by decide) rfl ?_
  refine mz_newa (t := 0) (n := 30) (pc' := 25) (g_d dtbX0_init_0 12 rfl) (by decide) ka_0 rfl rfl (by decide) (by decide) (by decide) ((((hz.up (by decide : 20 ≤ 21)).r (by decide)).up (by decide : 21 ≤ 22)).r (by decide)) rfl ?_
  refine mz_putf (pc' := 28) (g_d dtbX0_init_0 13 rfl) ff_X0_18 rfl (Or.inr ⟨_, rfl⟩) (by decide) rfl rfl ?_
  refine cz_aload_n (pc' := 29) (g_d dtbX0_init_0 14 rfl) rfl rfl ?_
  refine nz_bipushM (pc' := 31) (g_d dtbX0_init_0 15 rfl) (by decide) rfl ?_
  refine mz_newa (t := 0) (n := 48) (pc' := 33) (g_d dtbX0_init_0 16 rfl) (by decide) ka_0 rfl rfl (by decide) (by decide) (by decide) ((((((hz.up (by decide : 20 ≤ 21)).r (by decide)).up (by decide : 21 ≤ 22)).r (by decide)).up (by decide : 22 ≤ 23)).r (by decide)) rfl ?_
  refine mz_putf (pc' := 36) (g_d dtbX0_init_0 17 rfl) ff_X0_21 rfl (Or.inr ⟨_, rfl⟩) (by decide) rfl rfl ?_
  refine cz_aload_n (pc' := 37) (g_d dtbX0_init_0 18 rfl) rfl rfl ?_
  refine mz_getr (x := 20) (pc' := 40) (g_d dtbX0_init_0 19 rfl) gf_X0_9 (by decide) rfl rfl rfl ?_
  refine nz_iconstM (pc' := 41) (g_d dtbX0_init_0 20 rfl) rfl ?_
  refine nz_iconstM (pc' := 42) (g_d dtbX0_init_0 21 rfl) rfl ?_
  refine mz_iast (j := 3) (pc' := 43) (g_d dtbX0_init_0 22 rfl) (by decide) rfl (by decide) rfl (by decide) rfl ?_
  exact cz_vret (g_d dtbX0_init_0 23 rfl) rfl rfl ⟨rfl, rfl⟩

set_option maxRecDepth 20000 in
set_option maxHeartbeats 4000000 in
theorem i_Kd (G : Wd) (Z : ZS) (R : RF) (hz : Fz Z R 26) : Cc G mX2_init 32 0 [some (.ref 25)] [] (g_M Z R 26) (fun v τ => v = none ∧ τ = g_M (Z) (rKd R) 32) := by
  refine cz_aload_n (pc' := 1) (g_d dtbX2_init_0 0 rfl) rfl rfl ?_
  refine cz_obj (S := []) (pc' := 4) (g_d dtbX2_init_0 1 rfl) lo_X2_1 g_oi (by decide) (by decide) rfl ?_
  refine cz_aload_n (pc' := 5) (g_d dtbX2_init_0 2 rfl) rfl rfl ?_
  refine mz_new (pc' := 8) (g_d dtbX2_init_0 3 rfl) nf_X2_7 rfl (by decide) (by decide) (by decide) hz rfl ?_
  refine cz_dup (pc' := 9) (g_d dtbX2_init_0 4 rfl) rfl rfl ?_
  refine cz_callV (M' := mX6_init) (k := 26) (C := RX6) (As := []) (S := [.ref 26, .ref 25]) (L := [some (.ref 25)]) (nE' := 27) (pc' := 12) (g_d dtbX2_init_0 5 rfl) lk_X2_9 okX6_init (g_rc_own (Nat.le_of_ble_eq_true rfl) rfl rfl) rfl rfl (Nat.le_of_ble_eq_true rfl) (Nat.le_of_ble_eq_true rfl) (by decide) ⟨Nat.le_of_ble_eq_true rfl, Nat.le_of_ble_eq_true rfl⟩ rfl (i_X6 G 26 (g_M Z R 27)) ?_
  rintro _ _ ⟨rfl, rfl⟩ _
  refine mz_putf (pc' := 15) (g_d dtbX2_init_0 6 rfl) ff_X2_10 rfl (Or.inl ⟨_, rfl⟩) (by decide) rfl rfl ?_
  refine cz_aload_n (pc' := 16) (g_d dtbX2_init_0 7 rfl) rfl rfl ?_
  refine mz_new (pc' := 19) (g_d dtbX2_init_0 8 rfl) nf_X2_16 rfl (by decide) (by decide) (by decide) ((hz.up (by decide : 26 ≤ 27)).r (by decide)) rfl ?_
  refine cz_dup (pc' := 20) (g_d dtbX2_init_0 9 rfl) rfl rfl ?_
  refine cz_callV (M' := mX3_init) (k := 27) (C := RX3) (As := []) (S := [.ref 27, .ref 25]) (L := [some (.ref 25)]) (nE' := 28) (pc' := 23) (g_d dtbX2_init_0 10 rfl) lk_X2_18 okX3_init (g_rc_own (Nat.le_of_ble_eq_true rfl) rfl rfl) rfl rfl (Nat.le_of_ble_eq_true rfl) (Nat.le_of_ble_eq_true rfl) (by decide) ⟨Nat.le_of_ble_eq_true rfl, Nat.le_of_ble_eq_true rfl⟩ rfl (i_X3 G 27 (g_M Z (rset R 25 0 26) 28) RX3 (g_rc_own (Nat.le_of_ble_eq_true rfl) rfl rfl)) ?_
  rintro _ _ ⟨rfl, rfl⟩ _
  refine mz_putf (pc' := 26) (g_d dtbX2_init_0 11 rfl) ff_X2_19 rfl (Or.inl ⟨_, rfl⟩) (by decide) rfl rfl ?_
  refine cz_aload_n (pc' := 27) (g_d dtbX2_init_0 12 rfl) rfl rfl ?_
  refine mz_new (pc' := 30) (g_d dtbX2_init_0 13 rfl) nf_X2_23 rfl (by decide) (by decide) (by decide) ((((hz.up (by decide : 26 ≤ 27)).r (by decide)).up (by decide : 27 ≤ 28)).r (by decide)) rfl ?_
  refine cz_dup (pc' := 31) (g_d dtbX2_init_0 14 rfl) rfl rfl ?_
  refine cz_callV (M' := mX7_init) (k := 28) (C := RX7) (As := []) (S := [.ref 28, .ref 25]) (L := [some (.ref 25)]) (nE' := 29) (pc' := 34) (g_d dtbX2_init_0 15 rfl) lk_X2_25 okX7_init (g_rc_own (Nat.le_of_ble_eq_true rfl) rfl rfl) rfl rfl (Nat.le_of_ble_eq_true rfl) (Nat.le_of_ble_eq_true rfl) (by decide) ⟨Nat.le_of_ble_eq_true rfl, Nat.le_of_ble_eq_true rfl⟩ rfl (i_X7 G 28 (g_M Z (rset (rset R 25 0 26) 25 1 27) 29) RX7 (g_rc_own (Nat.le_of_ble_eq_true rfl) rfl rfl)) ?_
  rintro _ _ ⟨rfl, rfl⟩ _
  refine mz_putf (pc' := 37) (g_d dtbX2_init_0 16 rfl) ff_X2_26 rfl (Or.inl ⟨_, rfl⟩) (by decide) rfl rfl ?_
  refine cz_aload_n (pc' := 38) (g_d dtbX2_init_0 17 rfl) rfl rfl ?_
  refine mz_new (pc' := 41) (g_d dtbX2_init_0 18 rfl) nf_X2_30 rfl (by decide) (by decide) (by decide) ((((((hz.up (by decide : 26 ≤ 27)).r (by decide)).up (by decide : 27 ≤ 28)).r (by decide)).up (by decide : 28 ≤ 29)).r (by decide)) rfl ?_
  refine cz_dup (pc' := 42) (g_d dtbX2_init_0 19 rfl) rfl rfl ?_
  refine cz_callV (M' := mX1_init) (k := 29) (C := RX1) (As := []) (S := [.ref 29, .ref 25]) (L := [some (.ref 25)]) (nE' := 30) (pc' := 45) (g_d dtbX2_init_0 20 rfl) lk_X2_32 okX1_init (g_rc_own (Nat.le_of_ble_eq_true rfl) rfl rfl) rfl rfl (Nat.le_of_ble_eq_true rfl) (Nat.le_of_ble_eq_true rfl) (by decide) ⟨Nat.le_of_ble_eq_true rfl, Nat.le_of_ble_eq_true rfl⟩ rfl (i_X1 G 29 (g_M Z (rset (rset (rset R 25 0 26) 25 1 27) 25 2 28) 30) RX1 (g_rc_own (Nat.le_of_ble_eq_true rfl) rfl rfl)) ?_
  rintro _ _ ⟨rfl, rfl⟩ _
  refine mz_putf (pc' := 48) (g_d dtbX2_init_0 21 rfl) ff_X2_33 rfl (Or.inl ⟨_, rfl⟩) (by decide) rfl rfl ?_
  refine cz_aload_n (pc' := 49) (g_d dtbX2_init_0 22 rfl) rfl rfl ?_
  refine mz_new (pc' := 52) (g_d dtbX2_init_0 23 rfl) nf_X2_37 rfl (by decide) (by decide) (by decide) ((((((((hz.up (by decide : 26 ≤ 27)).r (by decide)).up (by decide : 27 ≤ 28)).r (by decide)).up (by decide : 28 ≤ 29)).r (by decide)).up (by decide : 29 ≤ 30)).r (by decide)) rfl ?_
  refine cz_dup (pc' := 53) (g_d dtbX2_init_0 24 rfl) rfl rfl ?_
  refine cz_callV (M' := mX9_init) (k := 30) (C := RX9) (As := []) (S := [.ref 30, .ref 25]) (L := [some (.ref 25)]) (nE' := 31) (pc' := 56) (g_d dtbX2_init_0 25 rfl) lk_X2_39 okX9_init (g_rc_own (Nat.le_of_ble_eq_true rfl) rfl rfl) rfl rfl (Nat.le_of_ble_eq_true rfl) (Nat.le_of_ble_eq_true rfl) (by decide) ⟨Nat.le_of_ble_eq_true rfl, Nat.le_of_ble_eq_true rfl⟩ rfl (i_X9 G 30 (g_M Z (rset (rset (rset (rset R 25 0 26) 25 1 27) 25 2 28) 25 3 29) 31) RX9 (g_rc_own (Nat.le_of_ble_eq_true rfl) rfl rfl)) ?_
  rintro _ _ ⟨rfl, rfl⟩ _
  refine mz_putf (pc' := 59) (g_d dtbX2_init_0 26 rfl) ff_X2_40 rfl (Or.inl ⟨_, rfl⟩) (by decide) rfl rfl ?_
  refine cz_aload_n (pc' := 60) (g_d dtbX2_init_0 27 rfl) rfl rfl ?_
  refine mz_new (pc' := 63) (g_d dtbX2_init_0 28 rfl) nf_X2_44 rfl (by decide) (by decide) (by decide) ((((((((((hz.up (by decide : 26 ≤ 27)).r (by decide)).up (by decide : 27 ≤ 28)).r (by decide)).up (by decide : 28 ≤ 29)).r (by decide)).up (by decide : 29 ≤ 30)).r (by decide)).up (by decide : 30 ≤ 31)).r (by decide)) rfl ?_
  refine cz_dup (pc' := 64) (g_d dtbX2_init_0 29 rfl) rfl rfl ?_
  refine cz_callV (M' := mX5_init) (k := 31) (C := RX5) (As := []) (S := [.ref 31, .ref 25]) (L := [some (.ref 25)]) (nE' := 32) (pc' := 67) (g_d dtbX2_init_0 30 rfl) lk_X2_46 okX5_init (g_rc_own (Nat.le_of_ble_eq_true rfl) rfl rfl) rfl rfl (Nat.le_of_ble_eq_true rfl) (Nat.le_of_ble_eq_true rfl) (by decide) ⟨Nat.le_of_ble_eq_true rfl, Nat.le_of_ble_eq_true rfl⟩ rfl (i_X5 G 31 (g_M Z (rset (rset (rset (rset (rset R 25 0 26) 25 1 27) 25 2 28) 25 3 29) 25 4 30) 32) RX5 (g_rc_own (Nat.le_of_ble_eq_true rfl) rfl rfl)) ?_
  rintro _ _ ⟨rfl, rfl⟩ _
  refine mz_putf (pc' := 70) (g_d dtbX2_init_0 31 rfl) ff_X2_47 rfl (Or.inl ⟨_, rfl⟩) (by decide) rfl rfl ?_
  exact cz_vret (g_d dtbX2_init_0 32 rfl) rfl rfl ⟨rfl, rfl⟩

set_option maxRecDepth 20000 in
set_option maxHeartbeats 4000000 in
theorem i_Rd (G : Wd) (Z : ZS) (R : RF) (hz : Fz Z R 18) : Cc G mX8_init 24 0 [some (.ref 17)] [] (g_M Z R 18) (fun v τ => v = none ∧ τ = g_M (zu Z 20 3 1) (rRd R) 24) := by
  refine cz_aload_n (pc' := 1) (g_d dtbX8_init_0 0 rfl) rfl rfl ?_
  refine cz_obj (S := []) (pc' := 4) (g_d dtbX8_init_0 1 rfl) lo_X8_3 g_oi (by decide) (by decide) rfl ?_
  refine cz_aload_n (pc' := 5) (g_d dtbX8_init_0 2 rfl) rfl rfl ?_
  refine nz_sipushM (pc' := 8) (g_d dtbX8_init_0 3 rfl) (by decide) rfl ?_
  refine mz_newa (t := 1) (n := 150) (pc' := 10) (g_d dtbX8_init_0 4 rfl) (by decide) ka_1 rfl rfl (by decide) (by decide) (by decide) hz rfl ?_
  refine mz_putf (pc' := 13) (g_d dtbX8_init_0 5 rfl) ff_X8_9 rfl (Or.inr ⟨_, rfl⟩) (by decide) rfl rfl ?_
  refine cz_aload_n (pc' := 14) (g_d dtbX8_init_0 6 rfl) rfl rfl ?_
  refine mz_new (pc' := 17) (g_d dtbX8_init_0 7 rfl) nf_X8_15 rfl (by decide) (by decide) (by decide) ((hz.up (by decide : 18 ≤ 19)).r (by decide)) rfl ?_
  refine cz_dup (pc' := 18) (g_d dtbX8_init_0 8 rfl) rfl rfl ?_
  refine cz_callV (M' := mX0_init) (k := 19) (C := RX0) (As := []) (S := [.ref 19, .ref 17]) (L := [some (.ref 17)]) (nE' := 24) (pc' := 21) (g_d dtbX8_init_0 9 rfl) lk_X8_17 okX0_init (g_rc_own (Nat.le_of_ble_eq_true rfl) rfl rfl) rfl rfl (Nat.le_of_ble_eq_true rfl) (Nat.le_of_ble_eq_true rfl) (by decide) ⟨Nat.le_of_ble_eq_true rfl, Nat.le_of_ble_eq_true rfl⟩ rfl (i_Bk19 G Z (rset R 17 0 18) (((hz.up (by decide : 18 ≤ 19)).r (by decide)).up (by decide : 19 ≤ 20))) ?_
  rintro _ _ ⟨rfl, rfl⟩ _
  refine mz_putf (pc' := 24) (g_d dtbX8_init_0 10 rfl) ff_X8_18 rfl (Or.inl ⟨_, rfl⟩) (by decide) rfl rfl ?_
  exact cz_vret (g_d dtbX8_init_0 11 rfl) rfl rfl ⟨rfl, rfl⟩

set_option maxRecDepth 20000 in
set_option maxHeartbeats 4000000 in
theorem i_Ol (G : Wd) (Z : ZS) (R : RF) (hz : Fz Z R 25) : Cc G mX4_init 33 0 [some (.ref 24)] [] (g_M Z R 25) (fun v τ => v = none ∧ τ = g_M (Z) (rOl R) 33) := by
  refine cz_aload_n (pc' := 1) (g_d dtbX4_init_0 0 rfl) rfl rfl ?_
  refine cz_obj (S := []) (pc' := 4) (g_d dtbX4_init_0 1 rfl) lo_X4_3 g_oi (by decide) (by decide) rfl ?_
  refine cz_aload_n (pc' := 5) (g_d dtbX4_init_0 2 rfl) rfl rfl ?_
  refine mz_new (pc' := 8) (g_d dtbX4_init_0 3 rfl) nf_X4_9 rfl (by decide) (by decide) (by decide) hz rfl ?_
  refine cz_dup (pc' := 9) (g_d dtbX4_init_0 4 rfl) rfl rfl ?_
  refine cz_callV (M' := mX2_init) (k := 25) (C := RX2) (As := []) (S := [.ref 25, .ref 24]) (L := [some (.ref 24)]) (nE' := 32) (pc' := 12) (g_d dtbX4_init_0 5 rfl) lk_X4_11 okX2_init (g_rc_own (Nat.le_of_ble_eq_true rfl) rfl rfl) rfl rfl (Nat.le_of_ble_eq_true rfl) (Nat.le_of_ble_eq_true rfl) (by decide) ⟨Nat.le_of_ble_eq_true rfl, Nat.le_of_ble_eq_true rfl⟩ rfl (i_Kd G Z R (hz.up (by decide : 25 ≤ 26))) ?_
  rintro _ _ ⟨rfl, rfl⟩ _
  refine mz_putf (pc' := 15) (g_d dtbX4_init_0 6 rfl) ff_X4_12 rfl (Or.inl ⟨_, rfl⟩) (by decide) rfl rfl ?_
  refine cz_aload_n (pc' := 16) (g_d dtbX4_init_0 7 rfl) rfl rfl ?_
  refine nz_bipushM (pc' := 18) (g_d dtbX4_init_0 8 rfl) (by decide) rfl ?_
  refine mz_newa (t := 0) (n := 99) (pc' := 20) (g_d dtbX4_init_0 9 rfl) (by decide) ka_0 rfl rfl (by decide) (by decide) (by decide) ((Fz.kd (hz.up (by decide : 25 ≤ 26))).r (by decide)) rfl ?_
  refine mz_putf (pc' := 23) (g_d dtbX4_init_0 10 rfl) ff_X4_18 rfl (Or.inr ⟨_, rfl⟩) (by decide) rfl rfl ?_
  exact cz_vret (g_d dtbX4_init_0 11 rfl) rfl rfl ⟨rfl, rfl⟩

theorem Fz.rd {Z : ZS} {R : RF} (h : Fz Z R 18) : Fz (zu Z 20 3 1) (rRd R) 24 := (Fz.bk (k := 19) ((h.r (by decide)).up (by decide))).r (by decide)
theorem Fz.ol {Z : ZS} {R : RF} (h : Fz Z R 25) : Fz Z (rOl R) 33 := (((Fz.kd (h.up (by decide))).r (by decide)).up (by decide)).r (by decide)
set_option maxRecDepth 20000 in
set_option maxHeartbeats 4000000 in
theorem i_Main (G : Wd) (Z : ZS) (R : RF) (hz : Fz Z R 1) : Cc G mX10_init 34 0 [some (.ref 0)] [] (g_M Z R 1) (fun v τ => v = none ∧ τ = g_M (zu (zu (zu (zu (zu Z 2 3 1) 7 3 1) 12 3 1) 20 3 1) 0 9 1) (rMain R) 34) := by
  refine cz_aload_n (pc' := 1) (g_d dtbX10_init_0 0 rfl) rfl rfl ?_
  refine cz_obj (S := []) (pc' := 4) (g_d dtbX10_init_0 1 rfl) lo_X10_1 g_oi (by decide) (by decide) rfl ?_
  refine cz_aload_n (pc' := 5) (g_d dtbX10_init_0 2 rfl) rfl rfl ?_
  refine mz_new (pc' := 8) (g_d dtbX10_init_0 3 rfl) nf_X10_7 rfl (by decide) (by decide) (by decide) hz rfl ?_
  refine cz_dup (pc' := 9) (g_d dtbX10_init_0 4 rfl) rfl rfl ?_
  refine cz_callV (M' := mX0_init) (k := 1) (C := RX0) (As := []) (S := [.ref 1, .ref 0]) (L := [some (.ref 0)]) (nE' := 6) (pc' := 12) (g_d dtbX10_init_0 5 rfl) lk_X10_9 okX0_init (g_rc_own (Nat.le_of_ble_eq_true rfl) rfl rfl) rfl rfl (Nat.le_of_ble_eq_true rfl) (Nat.le_of_ble_eq_true rfl) (by decide) ⟨Nat.le_of_ble_eq_true rfl, Nat.le_of_ble_eq_true rfl⟩ rfl (i_Bk1 G Z R (hz.up (by decide : 1 ≤ 2))) ?_
  rintro _ _ ⟨rfl, rfl⟩ _
  refine mz_putf (pc' := 15) (g_d dtbX10_init_0 6 rfl) ff_X10_10 rfl (Or.inl ⟨_, rfl⟩) (by decide) rfl rfl ?_
  refine cz_aload_n (pc' := 16) (g_d dtbX10_init_0 7 rfl) rfl rfl ?_
  refine mz_new (pc' := 19) (g_d dtbX10_init_0 8 rfl) nf_X10_7 rfl (by decide) (by decide) (by decide) ((Fz.bk (k := 1) (hz.up (by decide : 1 ≤ 2))).r (by decide)) rfl ?_
  refine cz_dup (pc' := 20) (g_d dtbX10_init_0 9 rfl) rfl rfl ?_
  refine cz_callV (M' := mX0_init) (k := 6) (C := RX0) (As := []) (S := [.ref 6, .ref 0]) (L := [some (.ref 0)]) (nE' := 11) (pc' := 23) (g_d dtbX10_init_0 10 rfl) lk_X10_9 okX0_init (g_rc_own (Nat.le_of_ble_eq_true rfl) rfl rfl) rfl rfl (Nat.le_of_ble_eq_true rfl) (Nat.le_of_ble_eq_true rfl) (by decide) ⟨Nat.le_of_ble_eq_true rfl, Nat.le_of_ble_eq_true rfl⟩ rfl (i_Bk6 G (zu Z 2 3 1) (rset (rBk R 1) 0 0 1) (((Fz.bk (k := 1) (hz.up (by decide : 1 ≤ 2))).r (by decide)).up (by decide : 6 ≤ 7))) ?_
  rintro _ _ ⟨rfl, rfl⟩ _
  refine mz_putf (pc' := 26) (g_d dtbX10_init_0 11 rfl) ff_X10_16 rfl (Or.inl ⟨_, rfl⟩) (by decide) rfl rfl ?_
  refine cz_aload_n (pc' := 27) (g_d dtbX10_init_0 12 rfl) rfl rfl ?_
  refine mz_new (pc' := 30) (g_d dtbX10_init_0 13 rfl) nf_X10_7 rfl (by decide) (by decide) (by decide) ((Fz.bk (k := 6) (((Fz.bk (k := 1) (hz.up (by decide : 1 ≤ 2))).r (by decide)).up (by decide : 6 ≤ 7))).r (by decide)) rfl ?_
  refine cz_dup (pc' := 31) (g_d dtbX10_init_0 14 rfl) rfl rfl ?_
  refine cz_callV (M' := mX0_init) (k := 11) (C := RX0) (As := []) (S := [.ref 11, .ref 0]) (L := [some (.ref 0)]) (nE' := 16) (pc' := 34) (g_d dtbX10_init_0 15 rfl) lk_X10_9 okX0_init (g_rc_own (Nat.le_of_ble_eq_true rfl) rfl rfl) rfl rfl (Nat.le_of_ble_eq_true rfl) (Nat.le_of_ble_eq_true rfl) (by decide) ⟨Nat.le_of_ble_eq_true rfl, Nat.le_of_ble_eq_true rfl⟩ rfl (i_Bk11 G (zu (zu Z 2 3 1) 7 3 1) (rset (rBk (rset (rBk R 1) 0 0 1) 6) 0 1 6) (((Fz.bk (k := 6) (((Fz.bk (k := 1) (hz.up (by decide : 1 ≤ 2))).r (by decide)).up (by decide : 6 ≤ 7))).r (by decide)).up (by decide : 11 ≤ 12))) ?_
  rintro _ _ ⟨rfl, rfl⟩ _
  refine mz_putf (pc' := 37) (g_d dtbX10_init_0 16 rfl) ff_X10_19 rfl (Or.inl ⟨_, rfl⟩) (by decide) rfl rfl ?_
  refine cz_aload_n (pc' := 38) (g_d dtbX10_init_0 17 rfl) rfl rfl ?_
  refine nz_iconstM (pc' := 39) (g_d dtbX10_init_0 18 rfl) rfl ?_
  refine mz_newa (t := 2) (n := 2) (pc' := 41) (g_d dtbX10_init_0 19 rfl) (by decide) ka_2 rfl rfl (by decide) (by decide) (by decide) ((Fz.bk (k := 11) (((Fz.bk (k := 6) (((Fz.bk (k := 1) (hz.up (by decide : 1 ≤ 2))).r (by decide)).up (by decide : 6 ≤ 7))).r (by decide)).up (by decide : 11 ≤ 12))).r (by decide)) rfl ?_
  refine mz_putf (pc' := 44) (g_d dtbX10_init_0 20 rfl) ff_X10_22 rfl (Or.inr ⟨_, rfl⟩) (by decide) rfl rfl ?_
  refine cz_aload_n (pc' := 45) (g_d dtbX10_init_0 21 rfl) rfl rfl ?_
  refine mz_new (pc' := 48) (g_d dtbX10_init_0 22 rfl) nf_X10_26 rfl (by decide) (by decide) (by decide) ((((Fz.bk (k := 11) (((Fz.bk (k := 6) (((Fz.bk (k := 1) (hz.up (by decide : 1 ≤ 2))).r (by decide)).up (by decide : 6 ≤ 7))).r (by decide)).up (by decide : 11 ≤ 12))).r (by decide)).up (by decide : 16 ≤ 17)).r (by decide)) rfl ?_
  refine cz_dup (pc' := 49) (g_d dtbX10_init_0 23 rfl) rfl rfl ?_
  refine cz_callV (M' := mX8_init) (k := 17) (C := RX8) (As := []) (S := [.ref 17, .ref 0]) (L := [some (.ref 0)]) (nE' := 24) (pc' := 52) (g_d dtbX10_init_0 24 rfl) lk_X10_28 okX8_init (g_rc_own (Nat.le_of_ble_eq_true rfl) rfl rfl) rfl rfl (Nat.le_of_ble_eq_true rfl) (Nat.le_of_ble_eq_true rfl) (by decide) ⟨Nat.le_of_ble_eq_true rfl, Nat.le_of_ble_eq_true rfl⟩ rfl (i_Rd G (zu (zu (zu Z 2 3 1) 7 3 1) 12 3 1) (rset (rset (rBk (rset (rBk (rset (rBk R 1) 0 0 1) 6) 0 1 6) 11) 0 2 11) 0 3 16) (((((Fz.bk (k := 11) (((Fz.bk (k := 6) (((Fz.bk (k := 1) (hz.up (by decide : 1 ≤ 2))).r (by decide)).up (by decide : 6 ≤ 7))).r (by decide)).up (by decide : 11 ≤ 12))).r (by decide)).up (by decide : 16 ≤ 17)).r (by decide)).up (by decide : 17 ≤ 18))) ?_
  rintro _ _ ⟨rfl, rfl⟩ _
  refine mz_putf (pc' := 55) (g_d dtbX10_init_0 25 rfl) ff_X10_29 rfl (Or.inl ⟨_, rfl⟩) (by decide) rfl rfl ?_
  refine cz_aload_n (pc' := 56) (g_d dtbX10_init_0 26 rfl) rfl rfl ?_
  refine mz_new (pc' := 59) (g_d dtbX10_init_0 27 rfl) nf_X10_33 rfl (by decide) (by decide) (by decide) ((Fz.rd (((((Fz.bk (k := 11) (((Fz.bk (k := 6) (((Fz.bk (k := 1) (hz.up (by decide : 1 ≤ 2))).r (by decide)).up (by decide : 6 ≤ 7))).r (by decide)).up (by decide : 11 ≤ 12))).r (by decide)).up (by decide : 16 ≤ 17)).r (by decide)).up (by decide : 17 ≤ 18))).r (by decide)) rfl ?_
  refine cz_dup (pc' := 60) (g_d dtbX10_init_0 28 rfl) rfl rfl ?_
  refine cz_callV (M' := mX4_init) (k := 24) (C := RX4) (As := []) (S := [.ref 24, .ref 0]) (L := [some (.ref 0)]) (nE' := 33) (pc' := 63) (g_d dtbX10_init_0 29 rfl) lk_X10_35 okX4_init (g_rc_own (Nat.le_of_ble_eq_true rfl) rfl rfl) rfl rfl (Nat.le_of_ble_eq_true rfl) (Nat.le_of_ble_eq_true rfl) (by decide) ⟨Nat.le_of_ble_eq_true rfl, Nat.le_of_ble_eq_true rfl⟩ rfl (i_Ol G (zu (zu (zu (zu Z 2 3 1) 7 3 1) 12 3 1) 20 3 1) (rset (rRd (rset (rset (rBk (rset (rBk (rset (rBk R 1) 0 0 1) 6) 0 1 6) 11) 0 2 11) 0 3 16)) 0 4 17) (((Fz.rd (((((Fz.bk (k := 11) (((Fz.bk (k := 6) (((Fz.bk (k := 1) (hz.up (by decide : 1 ≤ 2))).r (by decide)).up (by decide : 6 ≤ 7))).r (by decide)).up (by decide : 11 ≤ 12))).r (by decide)).up (by decide : 16 ≤ 17)).r (by decide)).up (by decide : 17 ≤ 18))).r (by decide)).up (by decide : 24 ≤ 25))) ?_
  rintro _ _ ⟨rfl, rfl⟩ _
  refine mz_putf (pc' := 66) (g_d dtbX10_init_0 30 rfl) ff_X10_36 rfl (Or.inl ⟨_, rfl⟩) (by decide) rfl rfl ?_
  refine cz_aload_n (pc' := 67) (g_d dtbX10_init_0 31 rfl) rfl rfl ?_
  refine cz_aload_n (pc' := 68) (g_d dtbX10_init_0 32 rfl) rfl rfl ?_
  refine mz_getr (x := 24) (pc' := 71) (g_d dtbX10_init_0 33 rfl) gf_X10_36 (by decide) rfl rfl rfl ?_
  refine mz_getr (x := 25) (pc' := 74) (g_d dtbX10_init_0 34 rfl) gf_X10_40 (by decide) rfl rfl rfl ?_
  refine mz_putf (pc' := 77) (g_d dtbX10_init_0 35 rfl) ff_X10_44 rfl (Or.inl ⟨_, rfl⟩) (by decide) rfl rfl ?_
  refine cz_aload_n (pc' := 78) (g_d dtbX10_init_0 36 rfl) rfl rfl ?_
  refine nz_bipushM (pc' := 80) (g_d dtbX10_init_0 37 rfl) (by decide) rfl ?_
  refine mz_newa (t := 0) (n := 7) (pc' := 82) (g_d dtbX10_init_0 38 rfl) (by decide) ka_0 rfl rfl (by decide) (by decide) (by decide) (((Fz.ol (((Fz.rd (((((Fz.bk (k := 11) (((Fz.bk (k := 6) (((Fz.bk (k := 1) (hz.up (by decide : 1 ≤ 2))).r (by decide)).up (by decide : 6 ≤ 7))).r (by decide)).up (by decide : 11 ≤ 12))).r (by decide)).up (by decide : 16 ≤ 17)).r (by decide)).up (by decide : 17 ≤ 18))).r (by decide)).up (by decide : 24 ≤ 25))).r (by decide)).r (by decide)) rfl ?_
  refine mz_putf (pc' := 85) (g_d dtbX10_init_0 39 rfl) ff_X10_45 rfl (Or.inr ⟨_, rfl⟩) (by decide) rfl rfl ?_
  refine cz_aload_n (pc' := 86) (g_d dtbX10_init_0 40 rfl) rfl rfl ?_
  refine nz_lconstM (pc' := 87) (v := 1) (g_d dtbX10_init_0 41 rfl) rfl rfl ?_
  refine mz_putl (pc' := 90) (g_d dtbX10_init_0 42 rfl) pf_X10_49 rfl (by decide) rfl rfl ?_
  exact cz_vret (g_d dtbX10_init_0 43 rfl) rfl rfl ⟨rfl, rfl⟩

theorem m_begin35 (G : Wd) (Z : ZS) : Cn G mX11_begin 0 [some (.ref 35), none] [] Z (qv (fun W => zr Z 35 (r108 rBegin (Z 35)) = W)) := by
  have q := m_begin G Z (Z 35) 35 (by decide) rfl
  rw [zr_self rfl] at q
  exact q

set_option maxRecDepth 20000 in
set_option maxHeartbeats 4000000 in
theorem i_Mod (G : Wd) (Z : ZS) (R : RF) (hz : Fz Z R 35) (hR : ∀ k, k < 42 → ∀ j, j < 16 → rMod R k j = g_rS k j) : Cc G mX11_init 42 0 [some (.ref 34)] [] (g_M Z R 35) (fun v τ => ∃ W, τ = g_N W ∧ qv (fun W => zr (zu Z 34 7 1) 35 (r108 rBegin ((zu Z 34 7 1) 35)) = W) v W) := by
  refine cz_aload_n (pc' := 1) (g_d dtbX11_init_0 0 rfl) rfl rfl ?_
  refine cz_obj (S := []) (pc' := 4) (g_d dtbX11_init_0 1 rfl) lo_X11_1 g_oi (by decide) (by decide) rfl ?_
  refine cz_aload_n (pc' := 5) (g_d dtbX11_init_0 2 rfl) rfl rfl ?_
  refine nz_bipushM (pc' := 7) (g_d dtbX11_init_0 3 rfl) (by decide) rfl ?_
  refine mz_newa (t := 0) (n := 108) (pc' := 9) (g_d dtbX11_init_0 4 rfl) (by decide) ka_0 rfl rfl (by decide) (by decide) (by decide) hz rfl ?_
  refine mz_putf (pc' := 12) (g_d dtbX11_init_0 5 rfl) ff_X11_7 rfl (Or.inr ⟨_, rfl⟩) (by decide) rfl rfl ?_
  refine cz_aload_n (pc' := 13) (g_d dtbX11_init_0 6 rfl) rfl rfl ?_
  refine nz_bipushM (pc' := 15) (g_d dtbX11_init_0 7 rfl) (by decide) rfl ?_
  refine mz_newa (t := 0) (n := 108) (pc' := 17) (g_d dtbX11_init_0 8 rfl) (by decide) ka_0 rfl rfl (by decide) (by decide) (by decide) ((hz.up (by decide : 35 ≤ 36)).r (by decide)) rfl ?_
  refine mz_putf (pc' := 20) (g_d dtbX11_init_0 9 rfl) ff_X11_13 rfl (Or.inr ⟨_, rfl⟩) (by decide) rfl rfl ?_
  refine cz_aload_n (pc' := 21) (g_d dtbX11_init_0 10 rfl) rfl rfl ?_
  refine nz_bipushM (pc' := 23) (g_d dtbX11_init_0 11 rfl) (by decide) rfl ?_
  refine mz_newa (t := 0) (n := 108) (pc' := 25) (g_d dtbX11_init_0 12 rfl) (by decide) ka_0 rfl rfl (by decide) (by decide) (by decide) ((((hz.up (by decide : 35 ≤ 36)).r (by decide)).up (by decide : 36 ≤ 37)).r (by decide)) rfl ?_
  refine mz_putf (pc' := 28) (g_d dtbX11_init_0 13 rfl) ff_X11_16 rfl (Or.inr ⟨_, rfl⟩) (by decide) rfl rfl ?_
  refine cz_aload_n (pc' := 29) (g_d dtbX11_init_0 14 rfl) rfl rfl ?_
  refine nz_sipushM (pc' := 32) (g_d dtbX11_init_0 15 rfl) (by decide) rfl ?_
  refine mz_newa (t := 0) (n := 216) (pc' := 34) (g_d dtbX11_init_0 16 rfl) (by decide) ka_0 rfl rfl (by decide) (by decide) (by decide) ((((((hz.up (by decide : 35 ≤ 36)).r (by decide)).up (by decide : 36 ≤ 37)).r (by decide)).up (by decide : 37 ≤ 38)).r (by decide)) rfl ?_
  refine mz_putf (pc' := 37) (g_d dtbX11_init_0 17 rfl) ff_X11_19 rfl (Or.inr ⟨_, rfl⟩) (by decide) rfl rfl ?_
  refine cz_aload_n (pc' := 38) (g_d dtbX11_init_0 18 rfl) rfl rfl ?_
  refine nz_iconstM (pc' := 39) (g_d dtbX11_init_0 19 rfl) rfl ?_
  refine mz_newa (t := 2) (n := 2) (pc' := 41) (g_d dtbX11_init_0 20 rfl) (by decide) ka_2 rfl rfl (by decide) (by decide) (by decide) ((((((((hz.up (by decide : 35 ≤ 36)).r (by decide)).up (by decide : 36 ≤ 37)).r (by decide)).up (by decide : 37 ≤ 38)).r (by decide)).up (by decide : 38 ≤ 39)).r (by decide)) rfl ?_
  refine mz_putf (pc' := 44) (g_d dtbX11_init_0 21 rfl) ff_X11_22 rfl (Or.inr ⟨_, rfl⟩) (by decide) rfl rfl ?_
  refine cz_aload_n (pc' := 45) (g_d dtbX11_init_0 22 rfl) rfl rfl ?_
  refine nz_iconstM (pc' := 46) (g_d dtbX11_init_0 23 rfl) rfl ?_
  refine mz_newa (t := 0) (n := 3) (pc' := 48) (g_d dtbX11_init_0 24 rfl) (by decide) ka_0 rfl rfl (by decide) (by decide) (by decide) ((((((((((hz.up (by decide : 35 ≤ 36)).r (by decide)).up (by decide : 36 ≤ 37)).r (by decide)).up (by decide : 37 ≤ 38)).r (by decide)).up (by decide : 38 ≤ 39)).r (by decide)).up (by decide : 39 ≤ 40)).r (by decide)) rfl ?_
  refine mz_putf (pc' := 51) (g_d dtbX11_init_0 25 rfl) ff_X11_26 rfl (Or.inr ⟨_, rfl⟩) (by decide) rfl rfl ?_
  refine cz_aload_n (pc' := 52) (g_d dtbX11_init_0 26 rfl) rfl rfl ?_
  refine nz_lconstM (pc' := 53) (v := 1) (g_d dtbX11_init_0 27 rfl) rfl rfl ?_
  refine mz_putl (pc' := 56) (g_d dtbX11_init_0 28 rfl) pf_X11_29 rfl (by decide) rfl rfl ?_
  refine cz_aload_n (pc' := 57) (g_d dtbX11_init_0 29 rfl) rfl rfl ?_
  refine nz_sipushM (pc' := 60) (g_d dtbX11_init_0 30 rfl) (by decide) rfl ?_
  refine mz_newa (t := 0) (n := 150) (pc' := 62) (g_d dtbX11_init_0 31 rfl) (by decide) ka_0 rfl rfl (by decide) (by decide) (by decide) (((((((((((((hz.up (by decide : 35 ≤ 36)).r (by decide)).up (by decide : 36 ≤ 37)).r (by decide)).up (by decide : 37 ≤ 38)).r (by decide)).up (by decide : 38 ≤ 39)).r (by decide)).up (by decide : 39 ≤ 40)).r (by decide)).up (by decide : 40 ≤ 41)).r (by decide)).u (by decide)) rfl ?_
  refine mz_putf (pc' := 65) (g_d dtbX11_init_0 32 rfl) ff_X11_33 rfl (Or.inr ⟨_, rfl⟩) (by decide) rfl rfl ?_
  refine cz_eqv (σ' := g_N (zu Z 34 7 1)) rfl (fun a => g_enR hR a) ?_
  refine cz_aload_n (pc' := 66) (g_d dtbX11_init_0 33 rfl) rfl rfl ?_
  refine nz_getf (v := .ref 35) (pc' := 69) (g_d dtbX11_init_0 34 rfl) gf_X11_7 (by decide) rfl rfl rfl ?_
  refine nz_cSv (M' := mX11_begin) (As := [.ref 35]) (S := []) (L := [some (.ref 34)]) (pc' := 72) (g_d dtbX11_init_0 35 rfl) lk_X11_36 okX11_begin rfl rfl (Nat.le_of_ble_eq_true rfl) (Nat.le_of_ble_eq_true rfl) (by decide) rfl (m_begin35 G (zu Z 34 7 1)) ?_
  rintro _ rfl
  refine nz_rv (g_d dtbX11_init_0 36 rfl) rfl ?_
  exact rfl
