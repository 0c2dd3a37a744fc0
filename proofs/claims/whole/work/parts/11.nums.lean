/-! whole numbers: a state is Z (cell, place): an int, or a long, as a number -/
def g_rL : List (List (Option Nat)) := [[some 1, some 6, some 11, some 16, some 17, some 24, some 25, some 33], [some 2, some 3, some 4, some 5], [], [], [], [], [some 7, some 8, some 9, some 10], [], [], [], [], [some 12, some 13, some 14, some 15], [], [], [], [], [], [some 18, some 19], [], [some 20, some 21, some 22, some 23], [], [], [], [], [some 25, some 32], [some 26, some 27, some 28, some 29, some 30, some 31], [], [], [], [], [], [], [], [], [some 35, some 36, some 37, some 38, some 39, some 40, none, none, none, some 41], [], [], [], [], [], [], []]
def g_rS (k j : Nat) : Option Nat := (g_rL.getD k []).getD j none
abbrev iv (n : Int) : Value := .int (Int32.ofInt n)
abbrev il (n : Int) : Value := .long (Int64.ofInt n)
abbrev ZS : Type := Nat → Nat → Int
def g_N (Z : ZS) : St := (fun k j => Int32.ofInt (Z k j), fun k j => Int64.ofInt (Z k j), g_rS, 42)
/-- one place set anew; one row set anew -/
def zu (Z : ZS) (k j : Nat) (v : Int) : ZS := fun a b => if a = k then (if b = j then v else Z a b) else Z a b
def zr (Z : ZS) (k : Nat) (f : Nat → Int) : ZS := fun a => if a = k then f else Z a
theorem zu_eq {Z : ZS} {k j : Nat} {v : Int} : zu Z k j v k j = v := by simp [zu]
theorem zu_ne {Z : ZS} {k j a b : Nat} {v : Int} (h : a ≠ k ∨ b ≠ j) : zu Z k j v a b = Z a b := by
  unfold zu
  rcases h with h | h
  · rw [if_neg h]
  · rw [if_neg h]; split <;> rfl
theorem zu_row {Z : ZS} {k j a : Nat} {v : Int} (h : a ≠ k) : zu Z k j v a = Z a := by funext b; exact zu_ne (Or.inl h)
theorem zr_eq {Z : ZS} {k : Nat} {f : Nat → Int} : zr Z k f k = f := by simp [zr]
theorem zr_ne {Z : ZS} {k a : Nat} {f : Nat → Int} (h : a ≠ k) : zr Z k f a = Z a := by simp [zr, h]
theorem t32 {n : Int} (h : -2147483648 ≤ n ∧ n ≤ 2147483647) : (Int32.ofInt n).toInt = n := Int32.toInt_ofInt_of_le (by simpa using h.1) (by have := h.2; omega)
theorem t64 {n : Int} (h : -9223372036854775808 ≤ n ∧ n ≤ 9223372036854775807) : (Int64.ofInt n).toInt = n := Int64.toInt_ofInt_of_le (by simpa using h.1) (by have := h.2; omega)
theorem o32 (v : Int32) : Int32.ofInt v.toInt = v := Int32.ofInt_toInt v
/-- FROM A PLACE ON, over whole numbers -/
abbrev Cn (G : Wd) (M : MD) (pc : Nat) (L : List (Option Value)) (S : List Value) (Z : ZS) (Q : Option Value → ZS → Prop) : Prop := Cc G M 42 pc L S (g_N Z) (fun v τ => ∃ Z', τ = g_N Z' ∧ Q v Z')
/-- a state that is the same as far as the cells go -/
theorem cz_eqv {G : Wd} {M : MD} {nE pc : Nat} {L : List (Option Value)} {S : List Value} {σ σ' : St} {Q : Option Value → St → Prop} (hn : σ'.2.2.2 = σ.2.2.2) (he : ∀ k, g_en G σ' k = g_en G σ k) (h : Cc G M nE pc L S σ' Q) : Cc G M nE pc L S σ Q := by
  intro p e R s m args below meth c H locs ls cells slots n0 QQ hF hU hR ha hh hK hc1 hc2 hW hS hL
  refine h p e R s m args below meth c H locs ls cells slots n0 QQ hF hU hR ha hh hK (by rw [hn]; exact hc1) (by rw [hn]; exact hc2) ⟨?_, by rw [hn]; exact hW.2.1, hW.2.2.1, by rw [hn]; exact hW.2.2.2⟩ hS hL
  have : g_ws G σ' = g_ws G σ := by
    apply Eq.symm
    refine g_ws_ext (by rw [g_ws_len, hn]) (fun k hk => ?_)
    rw [g_ws_at (by rw [← hn]; exact hk), he k]
  rw [this]
  exact hW.1
theorem g_en_zu {G : Wd} {Z : ZS} {k j : Nat} {v : Int} (a : Nat) (f : Nat → Int32) (hf : f = upd ((g_N Z).1 k) j (Int32.ofInt v)) (hty : ∀ ci, g_sh k = .inr ci → g_fty ci j ≠ .long) : g_en G (g_N (zu Z k j v)) a = g_en G (g_pr (g_N Z) k f) a := by
  subst hf
  by_cases ha : a = k
  · subst ha
    unfold g_en
    cases hs : g_sh a with
    | inl q =>
      simp only
      have : (g_N (zu Z a j v)).1 a = (g_pr (g_N Z) a (upd ((g_N Z).1 a) j (Int32.ofInt v))).1 a := by
        funext b
        by_cases hb : b = j <;> simp [g_N, g_pr, zu, upd, hb]
      rw [this]
    | inr ci =>
      simp only
      have hl := hty ci hs
      congr 2
      unfold g_fl
      apply List.map_congr_left
      intro b _
      by_cases hb : b = j
      · subst hb
        cases hq : g_fty ci b <;> first | (exact absurd hq hl) | simp [g_fv, g_N, g_pr, zu, upd]
      · cases g_fty ci b <;> simp [g_fv, g_N, g_pr, zu, upd, hb]
  · rw [g_en_pr ha]
    unfold g_en
    have h1 : (g_N (zu Z k j v)).1 a = (g_N Z).1 a := by funext b; simp [g_N, zu, ha]
    cases g_sh a with
    | inl q => simp only [h1]
    | inr ci =>
      simp only
      congr 2
      unfold g_fl
      apply List.map_congr_left
      intro b _
      cases g_fty ci b <;> simp [g_fv, g_N, zu, ha]
theorem g_en_zl {G : Wd} {Z : ZS} {k j : Nat} {v : Int} (a : Nat) {ci : Nat} (hs : g_sh k = .inr ci) (hty : g_fty ci j = .long) : g_en G (g_N (zu Z k j v)) a = g_en G (g_pl (g_N Z) k j (Int64.ofInt v)) a := by
  by_cases ha : a = k
  · subst ha
    unfold g_en
    rw [hs]
    simp only
    congr 2
    unfold g_fl
    apply List.map_congr_left
    intro b _
    by_cases hb : b = j
    · subst hb
      rw [hty]; simp [g_fv, g_N, g_pl, zu]
    · cases g_fty ci b <;> simp [g_fv, g_N, g_pl, zu, hb]
  · rw [g_en_pl ha]
    unfold g_en
    have h1 : (g_N (zu Z k j v)).1 a = (g_N Z).1 a := by funext b; simp [g_N, zu, ha]
    cases g_sh a with
    | inl q => simp only [h1]
    | inr ci =>
      simp only
      congr 2
      unfold g_fl
      apply List.map_congr_left
      intro b _
      cases g_fty ci b <;> simp [g_fv, g_N, zu, ha]
theorem g_en_zr {G : Wd} {Z : ZS} {k t n : Nat} {f : Nat → Int} (a : Nat) (g : Nat → Int32) (hg : g = fun b => Int32.ofInt (f b)) (hs : g_sh k = .inl (t, n)) : g_en G (g_N (zr Z k f)) a = g_en G (g_pr (g_N Z) k g) a := by
  subst hg
  by_cases ha : a = k
  · subst ha
    rw [g_en_arr hs rfl, g_en_arr hs rfl]
    congr 4
    funext b
    simp [g_N, g_pr, zr]
  · rw [g_en_pr ha]
    unfold g_en
    have h1 : (g_N (zr Z k f)).1 a = (g_N Z).1 a := by funext b; simp [g_N, zr, ha]
    cases g_sh a with
    | inl q => simp only [h1]
    | inr ci =>
      simp only
      congr 2
      unfold g_fl
      apply List.map_congr_left
      intro b _
      cases g_fty ci b <;> simp [g_fv, g_N, zr, ha]
section
variable {G : Wd} {M M' : MD} {pc pc' : Nat} {L L' : List (Option Value)} {S : List Value} {Z : ZS} {Q Q' : Option Value → ZS → Prop}
theorem nz_iconst {n : Int} (hd : decode M.2.1 pc = .ok (.iconst n, 1))  (hp : pc + 1 = pc') (h : Cn G M pc' L (iv n :: S) Z Q) : Cn G M pc L (S) Z Q := cz_iconst hd rfl hp h
theorem nz_bipush {n : Int} (hd : decode M.2.1 pc = .ok (.bipush n, 2)) (hv : (Int8.ofInt n).toInt32 = Int32.ofInt n) (hp : pc + 2 = pc') (h : Cn G M pc' L (iv n :: S) Z Q) : Cn G M pc L (S) Z Q := cz_bipush hd hv hp h
theorem nz_sipush {n : Int} (hd : decode M.2.1 pc = .ok (.sipush n, 3)) (hv : (Int16.ofInt n).toInt32 = Int32.ofInt n) (hp : pc + 3 = pc') (h : Cn G M pc' L (iv n :: S) Z Q) : Cn G M pc L (S) Z Q := cz_sipush hd hv hp h
theorem nz_lconst {n : Fin 2} {v : Int} (hd : decode M.2.1 pc = .ok (.lconst n, 1)) (hv : Int64.ofNat (n : Nat) = Int64.ofInt v) (hp : pc + 1 = pc') (h : Cn G M pc' L (il v :: S) Z Q) : Cn G M pc L (S) Z Q := cz_lconst hd hv hp h
theorem nz_ldc {i : Nat} {v : Int} (hd : decode M.2.1 pc = .ok (.ldc i, 2)) (hw : Cond.constant M.1.cls i (Int32.ofInt v) ∈ gw) (hp : pc + 2 = pc') (h : Cn G M pc' L (iv v :: S) Z Q) : Cn G M pc L (S) Z Q := cz_ldc hd hw hp h
theorem nz_ldc2 {i : Nat} {v : Int} (hd : decode M.2.1 pc = .ok (.ldc2_w i, 3)) (hw : Cond.constantLong M.1.cls i (Int64.ofInt v) ∈ gw) (hp : pc + 3 = pc') (h : Cn G M pc' L (il v :: S) Z Q) : Cn G M pc L (S) Z Q := cz_ldc2 hd hw hp h
theorem nz_iadd {a b : Int} (hd : decode M.2.1 pc = .ok (.iadd, 1))  (hp : pc + 1 = pc') (h : Cn G M pc' L (iv (a + b) :: S) Z Q) : Cn G M pc L (iv b :: iv a :: S) Z Q := cz_iadd hd hp (by rw [← Int32.ofInt_add]; exact h)
theorem nz_isub {a b : Int} (hd : decode M.2.1 pc = .ok (.isub, 1))  (hp : pc + 1 = pc') (h : Cn G M pc' L (iv (a - b) :: S) Z Q) : Cn G M pc L (iv b :: iv a :: S) Z Q := cz_isub hd hp (by rw [← Int32.ofInt_sub]; exact h)
theorem nz_imul {a b : Int} (hd : decode M.2.1 pc = .ok (.imul, 1))  (hp : pc + 1 = pc') (h : Cn G M pc' L (iv (a * b) :: S) Z Q) : Cn G M pc L (iv b :: iv a :: S) Z Q := cz_imul hd hp (by rw [← Int32.ofInt_mul]; exact h)
theorem nz_ladd {a b : Int} (hd : decode M.2.1 pc = .ok (.ladd, 1))  (hp : pc + 1 = pc') (h : Cn G M pc' L (il (a + b) :: S) Z Q) : Cn G M pc L (il b :: il a :: S) Z Q := cz_ladd hd hp (by rw [← Int64.ofInt_add]; exact h)
theorem nz_lsub {a b : Int} (hd : decode M.2.1 pc = .ok (.lsub, 1))  (hp : pc + 1 = pc') (h : Cn G M pc' L (il (a - b) :: S) Z Q) : Cn G M pc L (il b :: il a :: S) Z Q := cz_lsub hd hp (by rw [← Int64.ofInt_sub]; exact h)
theorem nz_lmul {a b : Int} (hd : decode M.2.1 pc = .ok (.lmul, 1))  (hp : pc + 1 = pc') (h : Cn G M pc' L (il (a * b) :: S) Z Q) : Cn G M pc L (il b :: il a :: S) Z Q := cz_lmul hd hp (by rw [← Int64.ofInt_mul]; exact h)
theorem nz_ineg {a : Int} (hd : decode M.2.1 pc = .ok (.ineg, 1))  (hp : pc + 1 = pc') (h : Cn G M pc' L (iv (-a) :: S) Z Q) : Cn G M pc L (iv a :: S) Z Q := cz_ineg hd hp (by rw [← Int32.ofInt_neg]; exact h)
theorem nz_i2l {a : Int} (hd : decode M.2.1 pc = .ok (.i2l, 1)) (ha : -2147483648 ≤ a ∧ a ≤ 2147483647) (hp : pc + 1 = pc') (h : Cn G M pc' L (il a :: S) Z Q) : Cn G M pc L (iv a :: S) Z Q := cz_i2l hd hp (by
  have e : (Int32.ofInt a).toInt64 = Int64.ofInt a := by
    apply Int64.toInt_inj.mp
    rw [Int32.toInt_toInt64, t32 ha, t64 (by omega)]
  rw [e]; exact h)
theorem nz_l2i {a : Int} (hd : decode M.2.1 pc = .ok (.l2i, 1)) (ha : -2147483648 ≤ a ∧ a ≤ 2147483647) (hp : pc + 1 = pc') (h : Cn G M pc' L (iv a :: S) Z Q) : Cn G M pc L (il a :: S) Z Q := cz_l2i hd hp (by
  have e : (Int64.ofInt a).toInt32 = Int32.ofInt a := by
    apply Int32.toInt_inj.mp
    rw [Int64.toInt_toInt32, t32 ha, t64 (by omega), Int.bmod_eq_of_le (by omega) (by omega)]
  rw [e]; exact h)
theorem d32 {a b : Int} (ha : 0 ≤ a ∧ a ≤ 2147483647) (hb : 1 ≤ b ∧ b ≤ 2147483647) : Int32.ofInt a / Int32.ofInt b = Int32.ofInt (a / b) := by
  have h1 := Int.ediv_nonneg ha.1 (show 0 ≤ b by omega)
  have h2 := Int.ediv_le_self b ha.1
  apply Int32.toInt_inj.mp
  rw [Int32.toInt_div, t32 (by omega), t32 (by omega), t32 (by omega), Int.tdiv_eq_ediv_of_nonneg ha.1, Int.bmod_eq_of_le (by omega) (by omega)]
theorem d64 {a b : Int} (ha : 0 ≤ a ∧ a ≤ 9223372036854775807) (hb : 1 ≤ b ∧ b ≤ 9223372036854775807) : Int64.ofInt a / Int64.ofInt b = Int64.ofInt (a / b) := by
  have h1 := Int.ediv_nonneg ha.1 (show 0 ≤ b by omega)
  have h2 := Int.ediv_le_self b ha.1
  apply Int64.toInt_inj.mp
  rw [Int64.toInt_div, t64 (by omega), t64 (by omega), t64 (by omega), Int.tdiv_eq_ediv_of_nonneg ha.1, Int.bmod_eq_of_le (by omega) (by omega)]
theorem n0_32 {b : Int} (hb : 1 ≤ b ∧ b ≤ 2147483647) : ¬ Int32.ofInt b = 0 := fun h => by
  have h1 := congrArg Int32.toInt h
  rw [t32 (by omega)] at h1
  have h2 : (0 : Int32).toInt = 0 := rfl
  omega
theorem n0_64 {b : Int} (hb : 1 ≤ b ∧ b ≤ 9223372036854775807) : ¬ Int64.ofInt b = 0 := fun h => by
  have h1 := congrArg Int64.toInt h
  rw [t64 (by omega)] at h1
  have h2 : (0 : Int64).toInt = 0 := rfl
  omega
theorem nz_idiv {a b : Int} (hd : decode M.2.1 pc = .ok (.idiv, 1)) (ha : 0 ≤ a ∧ a ≤ 2147483647) (hb : 1 ≤ b ∧ b ≤ 2147483647) (hp : pc + 1 = pc') (h : Cn G M pc' L (iv (a / b) :: S) Z Q) : Cn G M pc L (iv b :: iv a :: S) Z Q := cz_idiv hd (n0_32 hb) hp (by rw [d32 ha hb]; exact h)
theorem nz_irem {a b : Int} (hd : decode M.2.1 pc = .ok (.irem, 1)) (ha : 0 ≤ a ∧ a ≤ 2147483647) (hb : 1 ≤ b ∧ b ≤ 2147483647) (hp : pc + 1 = pc') (h : Cn G M pc' L (iv (a % b) :: S) Z Q) : Cn G M pc L (iv b :: iv a :: S) Z Q := cz_irem hd (n0_32 hb) hp (by
  rw [d32 ha hb, ← Int32.ofInt_mul, ← Int32.ofInt_sub, show a - a / b * b = a % b by rw [Int.emod_def, Int.mul_comm]]; exact h)
theorem nz_ldiv {a b : Int} (hd : decode M.2.1 pc = .ok (.ldiv, 1)) (ha : 0 ≤ a ∧ a ≤ 9223372036854775807) (hb : 1 ≤ b ∧ b ≤ 9223372036854775807) (hp : pc + 1 = pc') (h : Cn G M pc' L (il (a / b) :: S) Z Q) : Cn G M pc L (il b :: il a :: S) Z Q := cz_ldiv hd (n0_64 hb) hp (by rw [d64 ha hb]; exact h)
theorem nz_lrem {a b : Int} (hd : decode M.2.1 pc = .ok (.lrem, 1)) (ha : 0 ≤ a ∧ a ≤ 9223372036854775807) (hb : 1 ≤ b ∧ b ≤ 9223372036854775807) (hp : pc + 1 = pc') (h : Cn G M pc' L (il (a % b) :: S) Z Q) : Cn G M pc L (il b :: il a :: S) Z Q := cz_lrem hd (n0_64 hb) hp (by
  rw [d64 ha hb, ← Int64.ofInt_mul, ← Int64.ofInt_sub, show a - a / b * b = a % b by rw [Int.emod_def, Int.mul_comm]]; exact h)
theorem lt32 {a b : Int} (ha : -2147483648 ≤ a ∧ a ≤ 2147483647) (hb : -2147483648 ≤ b ∧ b ≤ 2147483647) : Int32.ofInt a < Int32.ofInt b ↔ a < b := by rw [Int32.lt_iff_toInt_lt, t32 ha, t32 hb]
theorem le32 {a b : Int} (ha : -2147483648 ≤ a ∧ a ≤ 2147483647) (hb : -2147483648 ≤ b ∧ b ≤ 2147483647) : Int32.ofInt a ≤ Int32.ofInt b ↔ a ≤ b := by rw [Int32.le_iff_toInt_le, t32 ha, t32 hb]
theorem eq32 {a b : Int} (ha : -2147483648 ≤ a ∧ a ≤ 2147483647) (hb : -2147483648 ≤ b ∧ b ≤ 2147483647) : Int32.ofInt a = Int32.ofInt b ↔ a = b := by rw [← Int32.toInt_inj, t32 ha, t32 hb]
theorem z32 : (0 : Int32) = Int32.ofInt 0 := rfl
theorem eq64 {a b : Int} (ha : -9223372036854775808 ≤ a ∧ a ≤ 9223372036854775807) (hb : -9223372036854775808 ≤ b ∧ b ≤ 9223372036854775807) : Int64.ofInt a = Int64.ofInt b ↔ a = b := by rw [← Int64.toInt_inj, t64 ha, t64 hb]
theorem lt64 {a b : Int} (ha : -9223372036854775808 ≤ a ∧ a ≤ 9223372036854775807) (hb : -9223372036854775808 ≤ b ∧ b ≤ 9223372036854775807) : Int64.ofInt a < Int64.ofInt b ↔ a < b := by rw [Int64.lt_iff_toInt_lt, t64 ha, t64 hb]
theorem nz_lcmp {a b : Int} (hd : decode M.2.1 pc = .ok (.lcmp, 1)) (ha : -9223372036854775808 ≤ a ∧ a ≤ 9223372036854775807) (hb : -9223372036854775808 ≤ b ∧ b ≤ 9223372036854775807) (hp : pc + 1 = pc') (h : Cn G M pc' L (iv (if b < a then 1 else if a = b then 0 else -1) :: S) Z Q) : Cn G M pc L (il b :: il a :: S) Z Q := cz_lcmp hd hp (by
  have e : lg_cmp (Int64.ofInt a) (Int64.ofInt b) = Int32.ofInt (if b < a then 1 else if a = b then 0 else -1) := by
    unfold lg_cmp
    have h1 : (Int64.ofInt a > Int64.ofInt b) ↔ b < a := lt64 hb ha
    have h2 := eq64 ha hb
    by_cases c1 : b < a
    · rw [if_pos (h1.mpr c1), if_pos c1]; rfl
    · rw [if_neg (fun q => c1 (h1.mp q)), if_neg c1]
      by_cases c2 : a = b
      · rw [if_pos (h2.mpr c2), if_pos c2]; rfl
      · rw [if_neg (fun q => c2 (h2.mp q)), if_neg c2]; rfl
  rw [e]; exact h)
theorem nz_if_eq {a off : Int} {tgt : Nat} (hd : decode M.2.1 pc = .ok (.ifCond .eq off, 3)) (ha : -2147483648 ≤ a ∧ a ≤ 2147483647)  (ht : (pc : Int) + off = (tgt : Int)) (hp : pc + 3 = pc') (kt : a = 0 → Cn G M tgt L S Z Q) (kf : a ≠ 0 → Cn G M pc' L S Z Q) : Cn G M pc L (iv a :: S) Z Q := by
  have e := eq32 (b := 0) ha (by omega)
  exact cz_if_eq hd ht hp (fun q => kt (e.mp q)) (fun q => kf (fun z => q (e.mpr z)))
theorem nz_icmp_eq {a b off : Int} {tgt : Nat} (hd : decode M.2.1 pc = .ok (.if_icmp .eq off, 3)) (ha : -2147483648 ≤ a ∧ a ≤ 2147483647) (hb : -2147483648 ≤ b ∧ b ≤ 2147483647) (ht : (pc : Int) + off = (tgt : Int)) (hp : pc + 3 = pc') (kt : a = b → Cn G M tgt L S Z Q) (kf : a ≠ b → Cn G M pc' L S Z Q) : Cn G M pc L (iv b :: iv a :: S) Z Q := by
  have e := eq32 ha hb
  exact cz_icmp_eq hd ht hp (fun q => kt (e.mp q)) (fun q => kf (fun z => q (e.mpr z)))
theorem nz_if_ne {a off : Int} {tgt : Nat} (hd : decode M.2.1 pc = .ok (.ifCond .ne off, 3)) (ha : -2147483648 ≤ a ∧ a ≤ 2147483647)  (ht : (pc : Int) + off = (tgt : Int)) (hp : pc + 3 = pc') (kt : a ≠ 0 → Cn G M tgt L S Z Q) (kf : a = 0 → Cn G M pc' L S Z Q) : Cn G M pc L (iv a :: S) Z Q := by
  have e := eq32 (b := 0) ha (by omega)
  exact cz_if_ne hd ht hp (fun q => kt (fun z => q (e.mpr z))) (fun q => kf (e.mp q))
theorem nz_icmp_ne {a b off : Int} {tgt : Nat} (hd : decode M.2.1 pc = .ok (.if_icmp .ne off, 3)) (ha : -2147483648 ≤ a ∧ a ≤ 2147483647) (hb : -2147483648 ≤ b ∧ b ≤ 2147483647) (ht : (pc : Int) + off = (tgt : Int)) (hp : pc + 3 = pc') (kt : a ≠ b → Cn G M tgt L S Z Q) (kf : a = b → Cn G M pc' L S Z Q) : Cn G M pc L (iv b :: iv a :: S) Z Q := by
  have e := eq32 ha hb
  exact cz_icmp_ne hd ht hp (fun q => kt (fun z => q (e.mpr z))) (fun q => kf (e.mp q))
theorem nz_if_lt {a off : Int} {tgt : Nat} (hd : decode M.2.1 pc = .ok (.ifCond .lt off, 3)) (ha : -2147483648 ≤ a ∧ a ≤ 2147483647)  (ht : (pc : Int) + off = (tgt : Int)) (hp : pc + 3 = pc') (kt : a < 0 → Cn G M tgt L S Z Q) (kf : 0 ≤ a → Cn G M pc' L S Z Q) : Cn G M pc L (iv a :: S) Z Q := by
  have e := lt32 (b := 0) ha (by omega)
  exact cz_if_lt hd ht hp (fun q => kt (e.mp q)) (fun q => kf (by have := mt e.mpr q; omega))
theorem nz_icmp_lt {a b off : Int} {tgt : Nat} (hd : decode M.2.1 pc = .ok (.if_icmp .lt off, 3)) (ha : -2147483648 ≤ a ∧ a ≤ 2147483647) (hb : -2147483648 ≤ b ∧ b ≤ 2147483647) (ht : (pc : Int) + off = (tgt : Int)) (hp : pc + 3 = pc') (kt : a < b → Cn G M tgt L S Z Q) (kf : b ≤ a → Cn G M pc' L S Z Q) : Cn G M pc L (iv b :: iv a :: S) Z Q := by
  have e := lt32 ha hb
  exact cz_icmp_lt hd ht hp (fun q => kt (e.mp q)) (fun q => kf (by have := mt e.mpr q; omega))
theorem nz_if_ge {a off : Int} {tgt : Nat} (hd : decode M.2.1 pc = .ok (.ifCond .ge off, 3)) (ha : -2147483648 ≤ a ∧ a ≤ 2147483647)  (ht : (pc : Int) + off = (tgt : Int)) (hp : pc + 3 = pc') (kt : 0 ≤ a → Cn G M tgt L S Z Q) (kf : a < 0 → Cn G M pc' L S Z Q) : Cn G M pc L (iv a :: S) Z Q := by
  have e := le32 (a := 0) (by omega) ha
  exact cz_if_ge hd ht hp (fun q => kt (e.mp q)) (fun q => kf (by have := mt e.mpr q; omega))
theorem nz_icmp_ge {a b off : Int} {tgt : Nat} (hd : decode M.2.1 pc = .ok (.if_icmp .ge off, 3)) (ha : -2147483648 ≤ a ∧ a ≤ 2147483647) (hb : -2147483648 ≤ b ∧ b ≤ 2147483647) (ht : (pc : Int) + off = (tgt : Int)) (hp : pc + 3 = pc') (kt : b ≤ a → Cn G M tgt L S Z Q) (kf : a < b → Cn G M pc' L S Z Q) : Cn G M pc L (iv b :: iv a :: S) Z Q := by
  have e := le32 hb ha
  exact cz_icmp_ge hd ht hp (fun q => kt (e.mp q)) (fun q => kf (by have := mt e.mpr q; omega))
theorem nz_if_gt {a off : Int} {tgt : Nat} (hd : decode M.2.1 pc = .ok (.ifCond .gt off, 3)) (ha : -2147483648 ≤ a ∧ a ≤ 2147483647)  (ht : (pc : Int) + off = (tgt : Int)) (hp : pc + 3 = pc') (kt : 0 < a → Cn G M tgt L S Z Q) (kf : a ≤ 0 → Cn G M pc' L S Z Q) : Cn G M pc L (iv a :: S) Z Q := by
  have e := lt32 (a := 0) (by omega) ha
  exact cz_if_gt hd ht hp (fun q => kt (e.mp q)) (fun q => kf (by have := mt e.mpr q; omega))
theorem nz_icmp_gt {a b off : Int} {tgt : Nat} (hd : decode M.2.1 pc = .ok (.if_icmp .gt off, 3)) (ha : -2147483648 ≤ a ∧ a ≤ 2147483647) (hb : -2147483648 ≤ b ∧ b ≤ 2147483647) (ht : (pc : Int) + off = (tgt : Int)) (hp : pc + 3 = pc') (kt : b < a → Cn G M tgt L S Z Q) (kf : a ≤ b → Cn G M pc' L S Z Q) : Cn G M pc L (iv b :: iv a :: S) Z Q := by
  have e := lt32 hb ha
  exact cz_icmp_gt hd ht hp (fun q => kt (e.mp q)) (fun q => kf (by have := mt e.mpr q; omega))
theorem nz_if_le {a off : Int} {tgt : Nat} (hd : decode M.2.1 pc = .ok (.ifCond .le off, 3)) (ha : -2147483648 ≤ a ∧ a ≤ 2147483647)  (ht : (pc : Int) + off = (tgt : Int)) (hp : pc + 3 = pc') (kt : a ≤ 0 → Cn G M tgt L S Z Q) (kf : 0 < a → Cn G M pc' L S Z Q) : Cn G M pc L (iv a :: S) Z Q := by
  have e := le32 (b := 0) ha (by omega)
  exact cz_if_le hd ht hp (fun q => kt (e.mp q)) (fun q => kf (by have := mt e.mpr q; omega))
theorem nz_icmp_le {a b off : Int} {tgt : Nat} (hd : decode M.2.1 pc = .ok (.if_icmp .le off, 3)) (ha : -2147483648 ≤ a ∧ a ≤ 2147483647) (hb : -2147483648 ≤ b ∧ b ≤ 2147483647) (ht : (pc : Int) + off = (tgt : Int)) (hp : pc + 3 = pc') (kt : a ≤ b → Cn G M tgt L S Z Q) (kf : b < a → Cn G M pc' L S Z Q) : Cn G M pc L (iv b :: iv a :: S) Z Q := by
  have e := le32 ha hb
  exact cz_icmp_le hd ht hp (fun q => kt (e.mp q)) (fun q => kf (by have := mt e.mpr q; omega))
theorem nz_tabIn {a dflt lo hi off : Int} {offs : Array Int} {len tgt : Nat} (j : Nat) (hd : decode M.2.1 pc = .ok (.tableswitch dflt lo hi offs, len)) (ha : -2147483648 ≤ a ∧ a ≤ 2147483647) (hj : a - lo = (j : Int)) (hh : a ≤ hi) (ho : offs[j]? = some off) (ht : (pc : Int) + off = (tgt : Int)) (h : Cn G M tgt L S Z Q) : Cn G M pc L (iv a :: S) Z Q := by
  refine cz_tabIn hd (by rw [t32 ha]; omega) (by rw [t32 ha]; exact hh) ?_ ht h
  rw [t32 ha, hj]
  exact ho
theorem nz_tabOut {a dflt lo hi : Int} {offs : Array Int} {len tgt : Nat} (hd : decode M.2.1 pc = .ok (.tableswitch dflt lo hi offs, len)) (ha : -2147483648 ≤ a ∧ a ≤ 2147483647) (hh : a < lo ∨ hi < a) (ht : (pc : Int) + dflt = (tgt : Int)) (h : Cn G M tgt L S Z Q) : Cn G M pc L (iv a :: S) Z Q := cz_tabOut hd (by rw [t32 ha]; exact hh) ht h
theorem nz_iinc {i : Nat} {n a : Int} (hd : decode M.2.1 pc = .ok (.iinc i n, 3)) (hi : i < M.2.2.1) (hx : L[i]? = some (some (iv a))) (hl : g_st1 L i (iv (a + n)) = L') (hp : pc + 3 = pc') (h : Cn G M pc' L' S Z Q) : Cn G M pc L S Z Q := cz_iinc (v := Int32.ofInt (a + n)) hd hi hx (by rw [Int32.ofInt_add]) hl hp h
theorem nz_iret {a : Int} {ty : FieldType} (hd : decode M.2.1 pc = .ok (.ireturn, 1)) (hr : M.2.2.2.1 = some ty) (hx : narrow ty (iv a) = iv a) (hq : Q (some (iv a)) Z) : Cn G M pc L [iv a] Z Q := cz_iret hd hr hx rfl ⟨Z, rfl, hq⟩
theorem nz_lret {a : Int} (hd : decode M.2.1 pc = .ok (.lreturn, 1)) (hr : M.2.2.2.1 = some .long) (hq : Q (some (il a)) Z) : Cn G M pc L [il a] Z Q := cz_lret hd hr rfl ⟨Z, rfl, hq⟩
theorem nz_aret {x : Nat} {n : String} (hd : decode M.2.1 pc = .ok (.areturn, 1)) (hr : M.2.2.2.1 = some (.object n)) (hq : Q (some (.ref x)) Z) : Cn G M pc L [.ref x] Z Q := cz_aret hd hr rfl ⟨Z, rfl, hq⟩
theorem nz_vret (hd : decode M.2.1 pc = .ok (.return_, 1)) (hr : M.2.2.2.1 = none) (hq : Q none Z) : Cn G M pc L [] Z Q := cz_vret hd hr rfl ⟨Z, rfl, hq⟩
theorem nz_mono (h : Cn G M pc L S Z Q') (hq : ∀ v W, Q' v W → Q v W) : Cn G M pc L S Z Q := cz_mono h (fun v τ ⟨W, e, q⟩ _ => ⟨W, e, hq v W q⟩)
theorem nz_getf {idx k ci j : Nat} {v : Value} (hd : decode M.2.1 pc = .ok (.getfield idx, 3)) (hg : g_Gf M.1.cls idx ci j) (hk : k < 42) (hs : g_sh k = .inr ci) (hv : g_fv (g_N Z) k (g_fty ci j) j = v) (hp : pc + 3 = pc') (h : Cn G M pc' L (v :: S) Z Q) : Cn G M pc L (.ref k :: S) Z Q := cz_getf hd hg hk hs hv hp h
theorem nz_puti {idx k ci j : Nat} {a : Int} (hd : decode M.2.1 pc = .ok (.putfield idx, 3)) (hg : g_Pf M.1.cls idx ci j) (hty : g_fty ci j = .int) (hk : k < 42) (hs : g_sh k = .inr ci) (hp : pc + 3 = pc') (h : Cn G M pc' L S (zu Z k j a) Q) : Cn G M pc L (iv a :: .ref k :: S) Z Q :=
  cz_puti hd hg hty hk hs hp (cz_eqv (σ' := g_N (zu Z k j a)) rfl (fun b => g_en_zu b _ rfl (fun c hc => by rw [hs] at hc; cases hc; rw [hty]; exact fun q => by cases q)) h)
theorem nz_putl {idx k ci j : Nat} {a : Int} (hd : decode M.2.1 pc = .ok (.putfield idx, 3)) (hg : g_Pf M.1.cls idx ci j) (hty : g_fty ci j = .long) (hk : k < 42) (hs : g_sh k = .inr ci) (hp : pc + 3 = pc') (h : Cn G M pc' L S (zu Z k j a) Q) : Cn G M pc L (il a :: .ref k :: S) Z Q :=
  cz_putl hd hg hty hk hs hp (cz_eqv (σ' := g_N (zu Z k j a)) rfl (fun b => g_en_zl b hs hty) h)
theorem nz_iald {k n : Nat} {a : Int} (j : Nat) (hd : decode M.2.1 pc = .ok (.iaload, 1)) (hk : k < 42) (hs : g_sh k = .inl (0, n)) (hn2 : n ≤ 1000) (hj : a = (j : Int)) (hn : j < n) (hp : pc + 1 = pc') (h : Cn G M pc' L (iv (Z k j) :: S) Z Q) : Cn G M pc L (iv a :: .ref k :: S) Z Q := cz_iald hd hk hs (by rw [t32 (by omega)]; exact hj) hn hp h
theorem nz_bald {k n : Nat} {a : Int} (j : Nat) (hd : decode M.2.1 pc = .ok (.baload, 1)) (hk : k < 42) (hs : g_sh k = .inl (1, n)) (hn2 : n ≤ 1000) (hj : a = (j : Int)) (hn : j < n) (hp : pc + 1 = pc') (h : Cn G M pc' L (iv (Z k j) :: S) Z Q) : Cn G M pc L (iv a :: .ref k :: S) Z Q := cz_bald hd hk hs (by rw [t32 (by omega)]; exact hj) hn hp h
theorem nz_zald {k n : Nat} {a : Int} (j : Nat) (hd : decode M.2.1 pc = .ok (.baload, 1)) (hk : k < 42) (hs : g_sh k = .inl (2, n)) (hn2 : n ≤ 1000) (hj : a = (j : Int)) (hn : j < n) (hp : pc + 1 = pc') (h : Cn G M pc' L (iv (Z k j) :: S) Z Q) : Cn G M pc L (iv a :: .ref k :: S) Z Q := cz_zald hd hk hs (by rw [t32 (by omega)]; exact hj) hn hp h
theorem nz_alen {k n t : Nat} {v : Int} (hd : decode M.2.1 pc = .ok (.arraylength, 1)) (hk : k < 42) (hs : g_sh k = .inl (t, n)) (ht : t < 3) (hv : (n : Int) = v) (hp : pc + 1 = pc') (h : Cn G M pc' L (iv v :: S) Z Q) : Cn G M pc L (.ref k :: S) Z Q := cz_alen hd hk hs ht (by rw [← hv]; rfl) hp h
theorem g_nl {k t n : Nat} (hs : g_sh k = .inl (t, n)) : ∀ (j : Nat) (c : Nat), g_sh k = .inr c → g_fty c j ≠ .long := fun j c hc => by rw [hs] at hc; cases hc
theorem nz_iast {k n : Nat} {a v : Int} (j : Nat) (hd : decode M.2.1 pc = .ok (.iastore, 1)) (hk : k < 42) (hs : g_sh k = .inl (0, n)) (hn2 : n ≤ 1000) (hj : a = (j : Int)) (hn : j < n) (hp : pc + 1 = pc') (h : Cn G M pc' L S (zu Z k j v) Q) : Cn G M pc L (iv v :: iv a :: .ref k :: S) Z Q := cz_iast hd hk hs (by rw [t32 (by omega)]; exact hj) hn hp (cz_eqv (σ' := g_N (zu Z k j v)) rfl (fun b => g_en_zu b _ rfl (g_nl hs j)) h)
theorem nz_bast {k n : Nat} {a v : Int} (j : Nat) (hd : decode M.2.1 pc = .ok (.bastore, 1)) (hk : k < 42) (hs : g_sh k = .inl (1, n)) (hn2 : n ≤ 1000) (hj : a = (j : Int)) (hn : j < n) (hv : narrow .byte (iv v) = iv v) (hp : pc + 1 = pc') (h : Cn G M pc' L S (zu Z k j v) Q) : Cn G M pc L (iv v :: iv a :: .ref k :: S) Z Q := cz_bast hd hk hs (by rw [t32 (by omega)]; exact hj) hn hv hp (cz_eqv (σ' := g_N (zu Z k j v)) rfl (fun b => g_en_zu b _ rfl (g_nl hs j)) h)
theorem nz_zast {k n : Nat} {a v : Int} (j : Nat) (hd : decode M.2.1 pc = .ok (.bastore, 1)) (hk : k < 42) (hs : g_sh k = .inl (2, n)) (hn2 : n ≤ 1000) (hj : a = (j : Int)) (hn : j < n) (hv : narrow .boolean (iv v) = iv v) (hp : pc + 1 = pc') (h : Cn G M pc' L S (zu Z k j v) Q) : Cn G M pc L (iv v :: iv a :: .ref k :: S) Z Q := cz_zast hd hk hs (by rw [t32 (by omega)]; exact hj) hn hv hp (cz_eqv (σ' := g_N (zu Z k j v)) rfl (fun b => g_en_zu b _ rfl (g_nl hs j)) h)
/-- a part of a row over a part of a row -/
def zcp (f g : Nat → Int) (a b n : Nat) : Nat → Int := fun k => if b ≤ k ∧ k < b + n then f (a + (k - b)) else g k
theorem nz_acopy {idx k0 k1 m0 m1 : Nat} {x y z : Int} (a b n : Nat) (hd : decode M.2.1 pc = .ok (.invokestatic idx, 3)) (hw : Cond.methodLink M.1.cls idx arraycopyName ∈ gw) (hk0 : k0 < 42) (hk1 : k1 < 42) (hs0 : g_sh k0 = .inl (0, m0)) (hs1 : g_sh k1 = .inl (0, m1)) (hm : m0 ≤ 1000 ∧ m1 ≤ 1000) (hx : x = (a : Int)) (hy : y = (b : Int)) (hz : z = (n : Int)) (h0 : a + n ≤ m0) (h1 : b + n ≤ m1) (hf : 1 ≤ M.2.2.2.2.1) (hl : (S.map fun v => v.category).sum + 18 ≤ M.2.2.2.2.2) (hp : pc + 3 = pc') (h : Cn G M pc' L S (zr Z k1 (zcp (Z k0) (Z k1) a b n)) Q) : Cn G M pc L (iv z :: iv y :: .ref k1 :: iv x :: .ref k0 :: S) Z Q :=
  cz_acopy hd hw g_ac hk0 hk1 hs0 hs1 (by rw [t32 (by omega)]; exact hx) (by rw [t32 (by omega)]; exact hy) (by rw [t32 (by omega)]; exact hz) h0 h1 rfl hf hl hp (cz_eqv (σ' := g_N (zr Z k1 (zcp (Z k0) (Z k1) a b n))) rfl (fun q => g_en_zr q _ (by funext i; simp only [va_cpy, zcp, g_N]; split <;> rfl) hs1) h)
theorem nz_callS {As S0 : List Value} {n : Nat} {ins : Instr} (hd : decode M.2.1 pc = .ok (ins, 3)) (hL : g_LkS M.1.cls ins n M') (hok : g_ok M') (hn : As.length = n) (hst : As.reverse ++ S = S0) (hlen : (lg_sl As).length ≤ M'.2.2.1) (hcat : (S.map fun v => v.category).sum ≤ 8) (hrm : M'.2.2.2.2.1 + 1 ≤ M.2.2.2.2.1 ∧ 8 + (M'.2.2.1 + 11) + M'.2.2.2.2.2 ≤ M.2.2.2.2.2) (hp : pc + 3 = pc') (hM : Cn G M' 0 (g_ent M'.2.2.1 As) [] Z Q') (h : ∀ v W, Q' v W → Cn G M pc' L (v.toList ++ S) W Q) : Cn G M pc L S0 Z Q := by
  refine cz_callS (nE' := 42) hd hL hok hn hst hlen hcat hrm ⟨Nat.le_refl _, Nat.le_refl _⟩ hp hM (fun v τ hq _ => ?_)
  obtain ⟨W, rfl, hq⟩ := hq
  exact h v W hq
theorem nz_callV {As S0 : List Value} {n k : Nat} {C : String} {ins : Instr} (hd : decode M.2.1 pc = .ok (ins, 3)) (hL : g_LkV M.1.cls ins C n M') (hok : g_ok M') (hrc : g_rc G (g_N Z) k C) (hn : As.length = n) (hst : As.reverse ++ .ref k :: S = S0) (hlen : (lg_sl (.ref k :: As)).length ≤ M'.2.2.1) (hcat : (S.map fun v => v.category).sum ≤ 8) (hrm : M'.2.2.2.2.1 + 1 ≤ M.2.2.2.2.1 ∧ 8 + (M'.2.2.1 + 11) + M'.2.2.2.2.2 ≤ M.2.2.2.2.2) (hp : pc + 3 = pc') (hM : Cn G M' 0 (g_ent M'.2.2.1 (.ref k :: As)) [] Z Q') (h : ∀ v W, Q' v W → Cn G M pc' L (v.toList ++ S) W Q) : Cn G M pc L S0 Z Q := by
  refine cz_callV (nE' := 42) hd hL hok hrc hn hst hlen hcat hrm ⟨Nat.le_refl _, Nat.le_refl _⟩ hp hM (fun v τ hq _ => ?_)
  obtain ⟨W, rfl, hq⟩ := hq
  exact h v W hq
end
theorem g_d {t : List (Nat × Instr × Nat)} {b : ByteArray} (h : ∀ q ∈ t, decode b q.1 = .ok q.2) (k : Nat) {pc : Nat} {i : Instr} {n : Nat} (hk : t[k]? = some (pc, i, n)) : decode b pc = .ok (i, n) := h (pc, i, n) (List.mem_of_getElem? hk)
theorem kn_X10_142 : Cond.constant RX10 142 (Int32.ofInt (-100000)) ∈ gw := gw_in 555 (by decide +kernel) (by decide +kernel)
theorem kn_X10_206 : Cond.constant RX10 206 (Int32.ofInt (999999)) ∈ gw := gw_in 716 (by decide +kernel) (by decide +kernel)
theorem kn_X10_207 : Cond.constantLong RX10 207 (Int64.ofInt (1103515245)) ∈ gw := gw_in 717 (by decide +kernel) (by decide +kernel)
theorem kn_X10_209 : Cond.constantLong RX10 209 (Int64.ofInt (12345)) ∈ gw := gw_in 718 (by decide +kernel) (by decide +kernel)
theorem kn_X10_211 : Cond.constantLong RX10 211 (Int64.ofInt (2147483648)) ∈ gw := gw_in 719 (by decide +kernel) (by decide +kernel)
theorem kn_X10_213 : Cond.constantLong RX10 213 (Int64.ofInt (65536)) ∈ gw := gw_in 720 (by decide +kernel) (by decide +kernel)
theorem kn_X10_215 : Cond.constantLong RX10 215 (Int64.ofInt (31)) ∈ gw := gw_in 721 (by decide +kernel) (by decide +kernel)
theorem kn_X10_236 : Cond.constantLong RX10 236 (Int64.ofInt (1373)) ∈ gw := gw_in 754 (by decide +kernel) (by decide +kernel)
theorem kn_X11_78 : Cond.constantLong RX11 78 (Int64.ofInt (256)) ∈ gw := gw_in 862 (by decide +kernel) (by decide +kernel)
theorem kn_X11_80 : Cond.constantLong RX11 80 (Int64.ofInt (-1)) ∈ gw := gw_in 863 (by decide +kernel) (by decide +kernel)
theorem kn_X11_92 : Cond.constantLong RX11 92 (Int64.ofInt (27412351463812724)) ∈ gw := gw_in 868 (by decide +kernel) (by decide +kernel)
theorem kn_X11_97 : Cond.constantLong RX11 97 (Int64.ofInt (1651076204)) ∈ gw := gw_in 877 (by decide +kernel) (by decide +kernel)
theorem kn_X11_103 : Cond.constantLong RX11 103 (Int64.ofInt (495806934628)) ∈ gw := gw_in 882 (by decide +kernel) (by decide +kernel)
theorem kn_X11_105 : Cond.constantLong RX11 105 (Int64.ofInt (6971762)) ∈ gw := gw_in 883 (by decide +kernel) (by decide +kernel)
theorem kn_X11_146 : Cond.constant RX11 146 (Int32.ofInt (-100000)) ∈ gw := gw_in 939 (by decide +kernel) (by decide +kernel)
theorem kn_X11_169 : Cond.constantLong RX11 169 (Int64.ofInt (10)) ∈ gw := gw_in 1028 (by decide +kernel) (by decide +kernel)
theorem kn_X11_174 : Cond.constant RX11 174 (Int32.ofInt (999999)) ∈ gw := gw_in 1033 (by decide +kernel) (by decide +kernel)
theorem kn_X11_175 : Cond.constantLong RX11 175 (Int64.ofInt (1103515245)) ∈ gw := gw_in 1034 (by decide +kernel) (by decide +kernel)
theorem kn_X11_177 : Cond.constantLong RX11 177 (Int64.ofInt (12345)) ∈ gw := gw_in 1035 (by decide +kernel) (by decide +kernel)
theorem kn_X11_179 : Cond.constantLong RX11 179 (Int64.ofInt (2147483648)) ∈ gw := gw_in 1036 (by decide +kernel) (by decide +kernel)
theorem kn_X11_181 : Cond.constantLong RX11 181 (Int64.ofInt (65536)) ∈ gw := gw_in 1037 (by decide +kernel) (by decide +kernel)
theorem kn_X11_183 : Cond.constantLong RX11 183 (Int64.ofInt (31)) ∈ gw := gw_in 1038 (by decide +kernel) (by decide +kernel)
theorem kn_X11_188 : Cond.constantLong RX11 188 (Int64.ofInt (1373)) ∈ gw := gw_in 1067 (by decide +kernel) (by decide +kernel)
