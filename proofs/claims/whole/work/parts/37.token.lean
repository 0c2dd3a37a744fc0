/-! what is read: runs, tokens -/
def skF (n : Nat) (t : Row) (lo hi : Int) : Nat → Nat → Nat
  | 0, p => p
  | k + 1, p => if p < n ∧ lo ≤ t p ∧ t p ≤ hi then skF n t lo hi k (p + 1) else p
def sk (n : Nat) (t : Row) (lo hi : Int) (p : Nat) : Nat := skF n t lo hi (n - p) p
theorem sk_go {n : Nat} {t : Row} {lo hi : Int} {p : Nat} (h : p < n ∧ lo ≤ t p ∧ t p ≤ hi) : sk n t lo hi p = sk n t lo hi (p + 1) := by
  rw [sk, show n - p = (n - (p + 1)) + 1 by omega, skF, if_pos h]; rfl
theorem sk_no {n : Nat} {t : Row} {lo hi : Int} {p : Nat} (h : ¬ (p < n ∧ lo ≤ t p ∧ t p ≤ hi)) : sk n t lo hi p = p := by
  rw [sk]
  cases e : n - p with
  | zero => rfl
  | succ k => rw [skF, if_neg h]
theorem skF_in {n : Nat} {t : Row} {lo hi : Int} : ∀ (k p : Nat), p ≤ skF n t lo hi k p ∧ (p ≤ n → skF n t lo hi k p ≤ n) := by
  intro k
  induction k with
  | zero => intro p; exact ⟨Nat.le_refl _, fun h => h⟩
  | succ k ih =>
    intro p
    rw [skF]
    split
    · have := ih (p + 1)
      exact ⟨by omega, fun _ => this.2 (by omega)⟩
    · exact ⟨Nat.le_refl _, fun h => h⟩
theorem sk_ge {n : Nat} {t : Row} {lo hi : Int} {p : Nat} : p ≤ sk n t lo hi p := (skF_in _ _).1
theorem sk_le {n : Nat} {t : Row} {lo hi : Int} {p : Nat} (h : p ≤ n) : sk n t lo hi p ≤ n := (skF_in _ _).2 h
theorem skF_all {n : Nat} {t : Row} {lo hi : Int} : ∀ (k p x : Nat), p ≤ x → x < skF n t lo hi k p → x < n ∧ lo ≤ t x ∧ t x ≤ hi := by
  intro k
  induction k with
  | zero => intro p x h1 h2; simp only [skF] at h2; omega
  | succ k ih =>
    intro p x h1 h2
    rw [skF] at h2
    split at h2
    · rename_i q
      by_cases e : x = p
      · subst e; exact q
      · exact ih (p + 1) x (by omega) h2
    · omega
theorem sk_all {n : Nat} {t : Row} {lo hi : Int} {p x : Nat} (h1 : p ≤ x) (h2 : x < sk n t lo hi p) : x < n ∧ lo ≤ t x ∧ t x ≤ hi := skF_all _ _ x h1 h2
theorem sk_gt {n : Nat} {t : Row} {lo hi : Int} {p : Nat} (h : p < n ∧ lo ≤ t p ∧ t p ≤ hi) : p < sk n t lo hi p := by
  rw [sk_go h]; have := sk_ge (n := n) (t := t) (lo := lo) (hi := hi) (p := p + 1); omega
/-- a token from p on: where it begins, where what is after it begins, of which sort, which number -/
def tS (n : Nat) (t : Row) (p : Nat) : Nat := sk n t 32 32 p
def tE (n : Nat) (t : Row) (p : Nat) : Nat := if tS n t p < n then (if 97 ≤ t (tS n t p) ∧ t (tS n t p) ≤ 122 then sk n t 97 122 (tS n t p) else if 48 ≤ t (tS n t p) ∧ t (tS n t p) ≤ 57 then sk n t 48 57 (tS n t p) else tS n t p + 1) else tS n t p
def tK (n : Nat) (t : Row) (p : Nat) : Int := if tS n t p < n then (if 97 ≤ t (tS n t p) ∧ t (tS n t p) ≤ 122 then 1 else if 48 ≤ t (tS n t p) ∧ t (tS n t p) ≤ 57 then (if 2 < sk n t 48 57 (tS n t p) - tS n t p then 4 else 2) else if t (tS n t p) = 59 then 3 else 4) else 0
def tV (n : Nat) (t : Row) (p : Nat) : Int := if tE n t p - tS n t p = 1 then t (tS n t p) - 48 else 10 * (t (tS n t p) - 48) + t (tS n t p + 1) - 48
theorem tS_le {n : Nat} {t : Row} {p : Nat} (h : p ≤ n) : p ≤ tS n t p ∧ tS n t p ≤ n := ⟨sk_ge, sk_le h⟩
theorem tE_le {n : Nat} {t : Row} {p : Nat} (h : p ≤ n) : tS n t p ≤ tE n t p ∧ tE n t p ≤ n := by
  have a := tS_le (t := t) h
  unfold tE
  split
  · split
    · exact ⟨sk_ge, sk_le a.2⟩
    · split
      · exact ⟨sk_ge, sk_le a.2⟩
      · omega
  · omega
/-- the reader's words changed, nothing else -/
def FT (Z W : ZS) : Prop := (∀ a, a ≠ 17 → W a = Z a) ∧ (∀ j, j < 3 ∨ 6 < j → W 17 j = Z 17 j)
theorem FT.rf {Z : ZS} : FT Z Z := ⟨fun _ _ => rfl, fun _ _ => rfl⟩
theorem FT.tr {Z W V : ZS} (h : FT Z W) (g : FT W V) : FT Z V := ⟨fun a ha => (g.1 a ha).trans (h.1 a ha), fun j hj => (g.2 j hj).trans (h.2 j hj)⟩
theorem FT.u {Z W : ZS} {j : Nat} {v : Int} (h : FT Z W) (hj : 3 ≤ j ∧ j ≤ 6) : FT Z (zu W 17 j v) := ⟨fun a ha => by rw [zu_row ha]; exact h.1 a ha, fun i hi => by rw [zu_ne (by omega)]; exact h.2 i hi⟩
/-- the text that lies there -/
def TX (n : Nat) (t : Row) (Z : ZS) : Prop := (n ≤ 150 ∧ ∀ i, i < n → 0 ≤ t i ∧ t i ≤ 127) ∧ Z 17 2 = (n : Int) ∧ ∀ i, i < n → Z 18 i = t i
theorem TX.ft {n : Nat} {t : Row} {Z W : ZS} (h : TX n t Z) (g : FT Z W) : TX n t W := ⟨h.1, by rw [g.2 2 (by omega)]; exact h.2.1, fun i hi => by rw [g.1 18 (by omega)]; exact h.2.2 i hi⟩

set_option maxRecDepth 20000 in
set_option maxHeartbeats 4000000 in
theorem c_byteAt (G : Wd) (Z : ZS) (n : Nat) (t : Row) (hT : TX n t Z) (q : Nat) (hq : q ≤ 1000) : Cn G mX8_byteAt 0 [some (.ref 17), some (iv ((q : Int)))] [] Z (qi (fun r W => (if q < n then t q else -1) = r ∧ Z = W)) := by
  have hn := hT.1.1
  have hL := hT.2.1
  refine cz_iload_n (pc' := 1) (g_d dtbX8_byteAt_0 0 rfl) rfl rfl ?_
  refine nz_if_lt_f (pc' := 4) (g_d dtbX8_byteAt_0 1 rfl) (by omega) (by decide) rfl (by omega) ?_
  refine cz_iload_n (pc' := 5) (g_d dtbX8_byteAt_0 2 rfl) rfl rfl ?_
  refine cz_aload_n (pc' := 6) (g_d dtbX8_byteAt_0 3 rfl) rfl rfl ?_
  refine nz_getf (v := iv ((n : Int))) (pc' := 9) (g_d dtbX8_byteAt_0 4 rfl) gf_X8_22 (by decide) rfl (congrArg iv (hL)) rfl ?_
  refine nz_icmp_ge (tgt := 28) (pc' := 12) (g_d dtbX8_byteAt_0 5 rfl) (by omega) (by omega) rfl rfl (fun h9 => ?_) (fun h9 => ?_)
  · refine nz_iconst (pc' := 29) (g_d dtbX8_byteAt_0 14 rfl) rfl ?_
    refine nz_ri .int (g_d dtbX8_byteAt_0 15 rfl) rfl rfl ?_
    exact ⟨by rw [if_neg (by omega)], rfl⟩
  · refine cz_iload_n (pc' := 13) (g_d dtbX8_byteAt_0 6 rfl) rfl rfl ?_
    refine nz_sipush (pc' := 16) (g_d dtbX8_byteAt_0 7 rfl) (by decide) rfl ?_
    refine nz_icmp_ge_f (pc' := 19) (g_d dtbX8_byteAt_0 8 rfl) (by omega) (by omega) (by decide) rfl (by omega) ?_
    refine cz_aload_n (pc' := 20) (g_d dtbX8_byteAt_0 9 rfl) rfl rfl ?_
    refine nz_getf (v := .ref 18) (pc' := 23) (g_d dtbX8_byteAt_0 10 rfl) gf_X8_9 (by decide) rfl rfl rfl ?_
    refine cz_iload_n (pc' := 24) (g_d dtbX8_byteAt_0 11 rfl) rfl rfl ?_
    refine nz_bald q (pc' := 25) (g_d dtbX8_byteAt_0 12 rfl) (by decide) rfl (by omega) (by rfl) (by omega) rfl ?_
    rw [show Z 18 q = t q from hT.2.2 q (by omega)]
    refine cz_goto (pc' := 29) (g_d dtbX8_byteAt_0 13 rfl) rfl ?_
    refine nz_ri .int (g_d dtbX8_byteAt_0 15 rfl) rfl rfl ?_
    exact ⟨by rw [if_pos (by omega)], rfl⟩

set_option maxRecDepth 20000 in
set_option maxHeartbeats 4000000 in
theorem l_skipRun (G : Wd) (Z : ZS) (n : Nat) (t : Row) (hT : TX n t Z) (lo hi : Int) (hlo : 0 ≤ lo ∧ lo ≤ 200) (hhi : 0 ≤ hi ∧ hi ≤ 200) : ∀ (d : Nat) (x : Nat), n - x = d → (x ≤ n) → Cn G mX8_skipRun 0 [some (.ref 17), some (iv (lo)), some (iv (hi))] [] (zu Z 17 4 (x : Int)) (qv (fun W => zu Z 17 4 (sk n t lo hi x : Int) = W)) := by
  intro d
  induction d using Nat.strongRecOn with
  | ind d ih =>
    intro x hd hx
    have hn := hT.1.1
    have hL := hT.2.1
    refine cz_aload_n (pc' := 1) (g_d dtbX8_skipRun_0 0 rfl) rfl rfl ?_
    refine nz_getf (v := iv ((x : Int))) (pc' := 4) (g_d dtbX8_skipRun_0 1 rfl) gf_X8_26 (by decide) rfl (congrArg iv (zu_eq)) rfl ?_
    refine cz_aload_n (pc' := 5) (g_d dtbX8_skipRun_0 2 rfl) rfl rfl ?_
    refine nz_getf (v := iv ((n : Int))) (pc' := 8) (g_d dtbX8_skipRun_0 3 rfl) gf_X8_22 (by decide) rfl (congrArg iv (by rw [zu_ne (by omega)]; exact hL)) rfl ?_
    refine nz_icmp_ge (tgt := 60) (pc' := 11) (g_d dtbX8_skipRun_0 4 rfl) (by omega) (by omega) rfl rfl (fun h8 => ?_) (fun h8 => ?_)
    · refine nz_rv (g_d dtbX8_skipRun_0 30 rfl) rfl ?_
      rw [sk_no (p := x) (by omega)]
    · refine cz_aload_n (pc' := 12) (g_d dtbX8_skipRun_0 5 rfl) rfl rfl ?_
      refine nz_getf (v := iv ((x : Int))) (pc' := 15) (g_d dtbX8_skipRun_0 6 rfl) gf_X8_26 (by decide) rfl (congrArg iv (zu_eq)) rfl ?_
      refine nz_sipush (pc' := 18) (g_d dtbX8_skipRun_0 7 rfl) (by decide) rfl ?_
      refine nz_icmp_ge_f (pc' := 21) (g_d dtbX8_skipRun_0 8 rfl) (by omega) (by omega) (by decide) rfl (by omega) ?_
      have htx := hT.1.2 x (by omega)
      refine cz_aload_n (pc' := 22) (g_d dtbX8_skipRun_0 9 rfl) rfl rfl ?_
      refine nz_getf (v := .ref 18) (pc' := 25) (g_d dtbX8_skipRun_0 10 rfl) gf_X8_9 (by decide) rfl rfl rfl ?_
      refine cz_aload_n (pc' := 26) (g_d dtbX8_skipRun_0 11 rfl) rfl rfl ?_
      refine nz_getf (v := iv ((x : Int))) (pc' := 29) (g_d dtbX8_skipRun_0 12 rfl) gf_X8_26 (by decide) rfl (congrArg iv (zu_eq)) rfl ?_
      refine nz_bald x (pc' := 30) (g_d dtbX8_skipRun_0 13 rfl) (by decide) rfl (by omega) (by rfl) (by omega) rfl ?_
      rw [show (zu Z 17 4 (x : Int)) 18 x = t x from by rw [zu_row (by decide)]; exact hT.2.2 x (by omega)]
      refine cz_iload_n (pc' := 31) (g_d dtbX8_skipRun_0 14 rfl) rfl rfl ?_
      refine nz_icmp_lt (tgt := 60) (pc' := 34) (g_d dtbX8_skipRun_0 15 rfl) (by omega) (by omega) rfl rfl (fun h31 => ?_) (fun h31 => ?_)
      · refine nz_rv (g_d dtbX8_skipRun_0 30 rfl) rfl ?_
        rw [sk_no (p := x) (by omega)]
      · refine cz_aload_n (pc' := 35) (g_d dtbX8_skipRun_0 16 rfl) rfl rfl ?_
        refine nz_getf (v := .ref 18) (pc' := 38) (g_d dtbX8_skipRun_0 17 rfl) gf_X8_9 (by decide) rfl rfl rfl ?_
        refine cz_aload_n (pc' := 39) (g_d dtbX8_skipRun_0 18 rfl) rfl rfl ?_
        refine nz_getf (v := iv ((x : Int))) (pc' := 42) (g_d dtbX8_skipRun_0 19 rfl) gf_X8_26 (by decide) rfl (congrArg iv (zu_eq)) rfl ?_
        refine nz_bald x (pc' := 43) (g_d dtbX8_skipRun_0 20 rfl) (by decide) rfl (by omega) (by rfl) (by omega) rfl ?_
        rw [show (zu Z 17 4 (x : Int)) 18 x = t x from by rw [zu_row (by decide)]; exact hT.2.2 x (by omega)]
        refine cz_iload_n (pc' := 44) (g_d dtbX8_skipRun_0 21 rfl) rfl rfl ?_
        refine nz_icmp_gt (tgt := 60) (pc' := 47) (g_d dtbX8_skipRun_0 22 rfl) (by omega) (by omega) rfl rfl (fun h44 => ?_) (fun h44 => ?_)
        · refine nz_rv (g_d dtbX8_skipRun_0 30 rfl) rfl ?_
          rw [sk_no (p := x) (by omega)]
        · refine cz_aload_n (pc' := 48) (g_d dtbX8_skipRun_0 23 rfl) rfl rfl ?_
          refine cz_dup (pc' := 49) (g_d dtbX8_skipRun_0 24 rfl) rfl rfl ?_
          refine nz_getf (v := iv ((x : Int))) (pc' := 52) (g_d dtbX8_skipRun_0 25 rfl) gf_X8_26 (by decide) rfl (congrArg iv (zu_eq)) rfl ?_
          refine nz_iconst (pc' := 53) (g_d dtbX8_skipRun_0 26 rfl) rfl ?_
          refine nz_iadd (pc' := 54) (g_d dtbX8_skipRun_0 27 rfl) rfl ?_
          refine nz_puti (pc' := 57) (g_d dtbX8_skipRun_0 28 rfl) pf_X8_26 rfl (by decide) rfl rfl ?_
          refine cz_goto (pc' := 0) (g_d dtbX8_skipRun_0 29 rfl) rfl ?_
          refine nz_st (show zu Z 17 4 ((x + 1 : Nat) : Int) = (zu (zu Z 17 4 (x : Int)) 17 4 (((x : Int)) + 1)) from by funext a b; unfold zu; split <;> (try split) <;> first | rfl | (push_cast; rfl)) ?_
          rw [sk_go (p := x) (by omega)]
          exact ih (n - (x + 1)) (by omega) (x + 1) rfl (by omega)

theorem c_skipRun (G : Wd) (Z : ZS) (n : Nat) (t : Row) (hT : TX n t Z) (lo hi : Int) (hlo : 0 ≤ lo ∧ lo ≤ 200) (hhi : 0 ≤ hi ∧ hi ≤ 200) (x : Nat) (hx : x ≤ n) (h4 : Z 17 4 = (x : Int)) : Cn G mX8_skipRun 0 [some (.ref 17), some (iv lo), some (iv hi)] [] Z (qv (fun W => zu Z 17 4 (sk n t lo hi x : Int) = W)) := by
  have q := l_skipRun G Z n t hT lo hi hlo hhi (n - x) x rfl hx
  rw [show zu Z 17 4 (x : Int) = Z from by funext a b; unfold zu; split <;> (try split) <;> first | rfl | (subst_vars; exact h4.symm)] at q
  exact q
