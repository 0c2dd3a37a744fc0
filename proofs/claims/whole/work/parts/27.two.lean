/-! two who spend -/
def gN (A : AS) (m i j : Nat) : Int := 3 * (i : Int) - rC (gA A) (A.1 5 + ((i : Int) + (j : Int))) (A.1 0) m
def bst (A : AS) (m i j : Nat) : Prop := ∀ o, o < 4 → gN A m o j ≤ gN A m i j
def rs (A : AS) (m p : Nat) : Prop := bst A m (p / 4) (p % 4) ∧ bst A m (p % 4) (p / 4)
def twC (A : AS) (m : Nat) (d : ∀ p, Decidable (rs A m p)) : Nat → Int
  | 0 => 0
  | p + 1 => if rs A m p then twC A m d p + 1 else twC A m d p
def rsD (A : AS) (m p : Nat) : Decidable (rs A m p) := by unfold rs bst; exact inferInstance
def twN (A : AS) (m : Nat) : Nat → Int := twC A m (rsD A m)
theorem twN_s {A : AS} {m p : Nat} (h : rs A m p) : twN A m (p + 1) = twN A m p + 1 := by simp only [twN, twC]; rw [if_pos h]
theorem twN_n {A : AS} {m p : Nat} (h : ¬ rs A m p) : twN A m (p + 1) = twN A m p := by simp only [twN, twC]; rw [if_neg h]
theorem twN_in {A : AS} {m : Nat} : ∀ p : Nat, 0 ≤ twN A m p ∧ twN A m p ≤ (p : Int) := by
  intro p
  induction p with
  | zero => simp [twN, twC]
  | succ p ih =>
    by_cases h : rs A m p
    · rw [twN_s h]; omega
    · rw [twN_n h]; omega
/-- the answer: the first pair that rests with k before it, else how many, else none -/
def twP (A : AS) (m : Nat) (k : Int) (r : Int) : Prop := (∃ p, p < 16 ∧ rs A m p ∧ twN A m p = k ∧ r = (p : Int)) ∨ ((∀ p, p < 16 → ¬ (rs A m p ∧ twN A m p = k)) ∧ r = if k = -1 then twN A m 16 else -5)
theorem twP_u {A : AS} {m : Nat} {k r s : Int} (h : twP A m k r) (g : twP A m k s) : r = s := by
  have mono : ∀ (d p : Nat), twN A m p ≤ twN A m (p + d) := by
    intro d
    induction d with
    | zero => intro p; exact Int.le_refl _
    | succ d ih =>
      intro p
      have := ih p
      rw [← Nat.add_assoc]
      by_cases q : rs A m (p + d)
      · rw [twN_s q]; omega
      · rw [twN_n q]; exact this
  have key : ∀ p q : Nat, p < q → rs A m p → twN A m p = k → twN A m q = k → False := by
    intro p q hpq hp e1 e2
    have := mono (q - (p + 1)) (p + 1)
    rw [show p + 1 + (q - (p + 1)) = q by omega, twN_s hp] at this
    omega
  rcases h with ⟨p, h1, h2, h3, rfl⟩ | ⟨h1, h2⟩
  · rcases g with ⟨q, g1, g2, g3, rfl⟩ | ⟨g1, g2⟩
    · rcases Nat.lt_trichotomy p q with c | c | c
      · exact (key p q c h2 h3 g3).elim
      · rw [c]
      · exact (key q p c g2 g3 h3).elim
    · exact absurd ⟨h2, h3⟩ (g1 p h1)
  · rcases g with ⟨q, g1, g2, g3, rfl⟩ | ⟨g1, g2⟩
    · exact absurd ⟨g2, g3⟩ (h1 q g1)
    · rw [h2, g2]
/-- what is laid by what is spent more -/
def CE (A : AS) (m : Nat) (W : ZS) (n : Nat) : Prop := ∀ x, x < n → W 33 x = rC (gA A) (A.1 5 + (x : Int)) (A.1 0) m

set_option maxRecDepth 20000 in
set_option maxHeartbeats 4000000 in
theorem l_extra (G : Wd) (Z : ZS) (A : AS) (B : Int) (hC : CS Z A) (hA : AO B A) (m : Nat) (hm : m ≤ 28) : ∀ (d : Nat) (e : Nat) (W : ZS), 7 - e = d → (e ≤ 7) → (Sc Z W) → (FM Z W) → (LD W m (gA A)) → (CE A m W e) → Cn G mX10_layChargesByExtra 14 [some (.ref 0), some (iv ((m : Int))), some (iv ((e : Int)))] [] W (qv (fun V => Sc Z V ∧ FM Z V ∧ CE A m V 7)) := by
  intro d
  induction d using Nat.strongRecOn with
  | ind d ih =>
    intro e W hd he hs_W hm_W hl_W hE
    have hB := hC.1
    have hb0 := hA.1
    have hO := hA.2.1
    have h6 : 0 ≤ A.1 6 ∧ A.1 6 ≤ 7 := hO.2.1
    have h28 : 0 ≤ A.1 28 ∧ A.1 28 ≤ 6 := hO.2.2.2.1
    have h59 : 0 ≤ A.1 59 ∧ A.1 59 ≤ 8 := hO.2.2.2.2.2.1
    have hf := hO.1
    unfold FO at hf
    have hct := hA.2.2.2.2.2.2
    refine cz_iload_n (pc' := 15) (g_d dtbX10_layChargesByExtra_0 8 rfl) rfl rfl ?_
    refine cz_aload_n (pc' := 16) (g_d dtbX10_layChargesByExtra_0 9 rfl) rfl rfl ?_
    refine nz_getf (v := .ref 33) (pc' := 19) (g_d dtbX10_layChargesByExtra_0 10 rfl) gf_X10_45 (by decide) rfl rfl rfl ?_
    refine nz_alen (v := 7) (pc' := 20) (g_d dtbX10_layChargesByExtra_0 11 rfl) (by decide) rfl (by decide) rfl rfl ?_
    refine nz_icmp_ge (tgt := 69) (pc' := 23) (g_d dtbX10_layChargesByExtra_0 12 rfl) (by omega) (by omega) rfl rfl (fun h20 => ?_) (fun h20 => ?_)
    · refine nz_rv (g_d dtbX10_layChargesByExtra_0 37 rfl) rfl ?_
      exact ⟨hs_W, hm_W, fun x hx => hE x (by omega)⟩
    · refine cz_aload_n (pc' := 24) (g_d dtbX10_layChargesByExtra_0 13 rfl) rfl rfl ?_
      refine nz_getf (v := .ref 24) (pc' := 27) (g_d dtbX10_layChargesByExtra_0 14 rfl) gf_X10_36 (by decide) rfl rfl rfl ?_
      refine cz_aload_n (pc' := 28) (g_d dtbX10_layChargesByExtra_0 15 rfl) rfl rfl ?_
      refine nz_getf (v := .ref 1) (pc' := 31) (g_d dtbX10_layChargesByExtra_0 16 rfl) gf_X10_10 (by decide) rfl rfl rfl ?_
      refine nz_getf (v := .ref 2) (pc' := 34) (g_d dtbX10_layChargesByExtra_0 17 rfl) gf_X10_99 (by decide) rfl rfl rfl ?_
      refine nz_iconst (pc' := 35) (g_d dtbX10_layChargesByExtra_0 18 rfl) rfl ?_
      refine nz_iald 0 (pc' := 36) (g_d dtbX10_layChargesByExtra_0 19 rfl) (by decide) rfl (by omega) (by rfl) (by omega) rfl ?_
      rw [show W 2 0 = A.1 0 from br1_fig (hC.br hs_W) (by decide)]
      refine cz_aload_n (pc' := 37) (g_d dtbX10_layChargesByExtra_0 20 rfl) rfl rfl ?_
      refine nz_getf (v := .ref 1) (pc' := 40) (g_d dtbX10_layChargesByExtra_0 21 rfl) gf_X10_10 (by decide) rfl rfl rfl ?_
      refine nz_getf (v := .ref 2) (pc' := 43) (g_d dtbX10_layChargesByExtra_0 22 rfl) gf_X10_99 (by decide) rfl rfl rfl ?_
      refine nz_iconst (pc' := 44) (g_d dtbX10_layChargesByExtra_0 23 rfl) rfl ?_
      refine nz_iald 5 (pc' := 45) (g_d dtbX10_layChargesByExtra_0 24 rfl) (by decide) rfl (by omega) (by rfl) (by omega) rfl ?_
      rw [show W 2 5 = A.1 5 from br1_fig (hC.br hs_W) (by decide)]
      refine cz_iload_n (pc' := 46) (g_d dtbX10_layChargesByExtra_0 25 rfl) rfl rfl ?_
      refine nz_iadd (pc' := 47) (g_d dtbX10_layChargesByExtra_0 26 rfl) rfl ?_
      refine nz_cVv (M' := mX4_run) (k := 24) (As := [iv (A.1 0), iv ((A.1 5) + ((e : Int)))]) (S := []) (L := [some (.ref 0), some (iv ((m : Int))), some (iv ((e : Int)))]) (pc' := 50) (g_d dtbX10_layChargesByExtra_0 27 rfl) lk_X10_199 okX4_run (by decide) rfl rfl rfl rfl (Nat.le_of_ble_eq_true rfl) (Nat.le_of_ble_eq_true rfl) (by decide) rfl (c_run G W m (A.1 5 + (e : Int)) (A.1 0) hl_W.1 (by omega) (fun i hi => by rw [hl_W.2 i hi]; have := gA_in hA i; omega) (by omega) (by omega)) ?_
      rintro V eV
      have hs_V : Sc Z V := Sc.tr hs_W (eV ▸ zrun_sc)
      have hm_V : FM Z V := FM.tr hm_W (eV ▸ zrun_fm)
      have hl_V : LD V m (gA A) := eV ▸ zrun_ld hl_W
      have q2 := run_sh (sp := A.1 5 + (e : Int)) (a := A.1 0) hl_W
      rw [eV] at q2
      refine cz_aload_n (pc' := 51) (g_d dtbX10_layChargesByExtra_0 28 rfl) rfl rfl ?_
      refine nz_getf (v := .ref 33) (pc' := 54) (g_d dtbX10_layChargesByExtra_0 29 rfl) gf_X10_45 (by decide) rfl rfl rfl ?_
      refine cz_iload_n (pc' := 55) (g_d dtbX10_layChargesByExtra_0 30 rfl) rfl rfl ?_
      refine cz_aload_n (pc' := 56) (g_d dtbX10_layChargesByExtra_0 31 rfl) rfl rfl ?_
      refine nz_getf (v := .ref 24) (pc' := 59) (g_d dtbX10_layChargesByExtra_0 32 rfl) gf_X10_36 (by decide) rfl rfl rfl ?_
      refine nz_getf (v := iv (rC (gA A) (A.1 5 + (e : Int)) (A.1 0) m)) (pc' := 62) (g_d dtbX10_layChargesByExtra_0 33 rfl) gf_X10_149 (by decide) rfl (congrArg iv (q2.2.1)) rfl ?_
      refine nz_iast e (pc' := 63) (g_d dtbX10_layChargesByExtra_0 34 rfl) (by decide) rfl (by omega) (by rfl) (by omega) rfl ?_
      refine nz_iinc (L' := [some (.ref 0), some (iv ((m : Int))), some (iv (((e : Int)) + 1))]) (pc' := 66) (g_d dtbX10_layChargesByExtra_0 35 rfl) (by decide) rfl rfl rfl ?_
      refine cz_goto (pc' := 14) (g_d dtbX10_layChargesByExtra_0 36 rfl) rfl ?_
      refine ih (7 - (e + 1)) (by omega) (e + 1) _ rfl (by omega) (Sc.tr hs_V ⟨fun a ha => zu_row (by omega), by rw [zu_row (by omega)]⟩) (FM.u hm_V (by decide)) ⟨by rw [zu_row (by omega)]; exact hl_V.1, fun i hi => by rw [zu_row (by omega)]; exact hl_V.2 i hi⟩ (fun x hx => ?_)
      by_cases q : x = e
      · rw [q, zu_eq]
      · rw [zu_ne (Or.inr q), ← eV, zrun, z5_row (by omega)]; exact hE x (by omega)

set_option maxRecDepth 20000 in
set_option maxHeartbeats 4000000 in
theorem c_extra (G : Wd) (Z : ZS) (A : AS) (B : Int) (hC : CS Z A) (hA : AO B A) (m : Nat) (hm : m ≤ 28) : Cn G mX10_layChargesByExtra 0 [some (.ref 0), some (iv ((m : Int))), none] [] Z (qv (fun V => Sc Z V ∧ FM Z V ∧ CE A m V 7)) := by
  have hB := hC.1
  have hb0 := hA.1
  have hO := hA.2.1
  have h6 : 0 ≤ A.1 6 ∧ A.1 6 ≤ 7 := hO.2.1
  have h28 : 0 ≤ A.1 28 ∧ A.1 28 ≤ 6 := hO.2.2.2.1
  have h59 : 0 ≤ A.1 59 ∧ A.1 59 ≤ 8 := hO.2.2.2.2.2.1
  have hf := hO.1
  unfold FO at hf
  have hct := hA.2.2.2.2.2.2
  refine cz_aload_n (pc' := 1) (g_d dtbX10_layChargesByExtra_0 0 rfl) rfl rfl ?_
  refine nz_getf (v := .ref 24) (pc' := 4) (g_d dtbX10_layChargesByExtra_0 1 rfl) gf_X10_36 (by decide) rfl rfl rfl ?_
  refine cz_aload_n (pc' := 5) (g_d dtbX10_layChargesByExtra_0 2 rfl) rfl rfl ?_
  refine nz_getf (v := .ref 1) (pc' := 8) (g_d dtbX10_layChargesByExtra_0 3 rfl) gf_X10_10 (by decide) rfl rfl rfl ?_
  refine cz_iload_n (pc' := 9) (g_d dtbX10_layChargesByExtra_0 4 rfl) rfl rfl ?_
  refine nz_cVv (M' := mX4_lay) (k := 24) (As := [.ref 1, iv ((m : Int))]) (S := []) (L := [some (.ref 0), some (iv ((m : Int))), none]) (pc' := 12) (g_d dtbX10_layChargesByExtra_0 5 rfl) lk_X10_161 okX4_lay (by decide) rfl rfl rfl rfl (Nat.le_of_ble_eq_true rfl) (Nat.le_of_ble_eq_true rfl) (by decide) rfl (c_lay G Z m A.1 B hB hO (by omega) (by omega)) ?_
  rintro V1 e1
  have hs_V1 : Sc Z V1 := e1 ▸ zly_sc
  have hm_V1 : FM Z V1 := e1 ▸ zly_fm
  have hl_V1 : LD V1 m (gA A) := e1 ▸ zly_ld
  refine nz_iconst (pc' := 13) (g_d dtbX10_layChargesByExtra_0 6 rfl) rfl ?_
  refine cz_istore_n (L' := [some (.ref 0), some (iv ((m : Int))), some (iv 0)]) (pc' := 14) (g_d dtbX10_layChargesByExtra_0 7 rfl) (by decide) rfl rfl ?_
  exact l_extra G Z A B hC hA m hm (7 - 0) 0 V1 rfl (by omega) hs_V1 hm_V1 hl_V1 (fun x hx => absurd hx (Nat.not_lt_zero x))

set_option maxRecDepth 20000 in
set_option maxHeartbeats 4000000 in
theorem c_gain (G : Wd) (W : ZS) (A : AS) (m : Nat) (hm : m ≤ 28) (hE : CE A m W 7) (i j : Nat) (hi : i < 4) (hj : j < 4) : Cn G mX10_gainOf 0 [some (.ref 0), some (iv ((i : Int))), some (iv ((j : Int))), none] [] W (qi (fun r V => gN A m i j = r ∧ W = V)) := by
  refine cz_iload_n (pc' := 1) (g_d dtbX10_gainOf_0 0 rfl) rfl rfl ?_
  refine cz_iload_n (pc' := 2) (g_d dtbX10_gainOf_0 1 rfl) rfl rfl ?_
  refine nz_iadd (pc' := 3) (g_d dtbX10_gainOf_0 2 rfl) rfl ?_
  refine cz_istore_n (L' := [some (.ref 0), some (iv ((i : Int))), some (iv ((j : Int))), some (iv (((i : Int)) + ((j : Int))))]) (pc' := 4) (g_d dtbX10_gainOf_0 3 rfl) (by decide) rfl rfl ?_
  refine cz_iload_n (pc' := 5) (g_d dtbX10_gainOf_0 4 rfl) rfl rfl ?_
  refine nz_iconst (pc' := 6) (g_d dtbX10_gainOf_0 5 rfl) rfl ?_
  refine cz_aload_n (pc' := 7) (g_d dtbX10_gainOf_0 6 rfl) rfl rfl ?_
  refine nz_getf (v := .ref 33) (pc' := 10) (g_d dtbX10_gainOf_0 7 rfl) gf_X10_45 (by decide) rfl rfl rfl ?_
  refine nz_alen (v := 7) (pc' := 11) (g_d dtbX10_gainOf_0 8 rfl) (by decide) rfl (by decide) rfl rfl ?_
  refine nz_iconst (pc' := 12) (g_d dtbX10_gainOf_0 9 rfl) rfl ?_
  refine nz_isub (pc' := 13) (g_d dtbX10_gainOf_0 10 rfl) rfl ?_
  refine nz_cSi (M' := mX10_within) (As := [iv (((i : Int)) + ((j : Int))), iv 0, iv (7 - 1)]) (S := []) (L := [some (.ref 0), some (iv ((i : Int))), some (iv ((j : Int))), some (iv (((i : Int)) + ((j : Int))))]) (pc' := 16) (g_d dtbX10_gainOf_0 11 rfl) lk_X10_53 okX10_within rfl rfl (Nat.le_of_ble_eq_true rfl) (Nat.le_of_ble_eq_true rfl) (by decide) rfl (c_within G W (((i : Int)) + ((j : Int))) 0 (7 - 1) (by omega) (by omega) (by omega)) ?_
  rintro _ _ ⟨rfl, ⟨rfl, hw13⟩ | ⟨rfl, hw13⟩⟩
  · refine nz_if_eq_f (pc' := 19) (g_d dtbX10_gainOf_0 12 rfl) (by omega) (by decide) rfl (by omega) ?_
    refine nz_iconst (pc' := 20) (g_d dtbX10_gainOf_0 13 rfl) rfl ?_
    refine cz_iload_n (pc' := 21) (g_d dtbX10_gainOf_0 14 rfl) rfl rfl ?_
    refine nz_imul (pc' := 22) (g_d dtbX10_gainOf_0 15 rfl) rfl ?_
    refine cz_aload_n (pc' := 23) (g_d dtbX10_gainOf_0 16 rfl) rfl rfl ?_
    refine nz_getf (v := .ref 33) (pc' := 26) (g_d dtbX10_gainOf_0 17 rfl) gf_X10_45 (by decide) rfl rfl rfl ?_
    refine cz_iload_n (pc' := 27) (g_d dtbX10_gainOf_0 18 rfl) rfl rfl ?_
    refine nz_iald (i + j) (pc' := 28) (g_d dtbX10_gainOf_0 19 rfl) (by decide) rfl (by omega) (by push_cast; rfl) (by omega) rfl ?_
    rw [show W 33 (i + j) = rC (gA A) (A.1 5 + ((i : Int) + (j : Int))) (A.1 0) m from by rw [hE (i + j) (by omega)]; push_cast; rfl]
    refine nz_isub (pc' := 29) (g_d dtbX10_gainOf_0 20 rfl) rfl ?_
    refine cz_goto (pc' := 33) (g_d dtbX10_gainOf_0 21 rfl) rfl ?_
    refine nz_ri .int (g_d dtbX10_gainOf_0 23 rfl) rfl rfl ?_
    exact ⟨rfl, rfl⟩
  · refine nz_if_eq_t (tgt := 32) (g_d dtbX10_gainOf_0 12 rfl) (by omega) rfl (by omega) ?_
    refine nz_iconst (pc' := 33) (g_d dtbX10_gainOf_0 22 rfl) rfl ?_
    refine nz_ri .int (g_d dtbX10_gainOf_0 23 rfl) rfl rfl ?_
    exfalso
    omega

theorem gN_in {A : AS} {m i j : Nat} (hm : m ≤ 28) (hi : i < 4) : -28 ≤ gN A m i j ∧ gN A m i j ≤ 9 := by
  have := rC_in (g := gA A) (sp := A.1 5 + ((i : Int) + (j : Int))) (a := A.1 0) m
  unfold gN
  omega

set_option maxRecDepth 20000 in
set_option maxHeartbeats 4000000 in
theorem l_best (G : Wd) (W : ZS) (A : AS) (m : Nat) (hm : m ≤ 28) (hE : CE A m W 7) (i j : Nat) (hi : i < 4) (hj : j < 4) : ∀ (d : Nat) (o : Nat), 4 - o = d → (o ≤ 4) → (∀ x, x < o → gN A m x j ≤ gN A m i j) → Cn G mX10_isBestAgainst 10 [some (.ref 0), some (iv ((i : Int))), some (iv ((j : Int))), some (iv (gN A m i j)), some (iv ((o : Int)))] [] W (qi (fun r V => W = V ∧ ((r = 1 ∧ bst A m i j) ∨ (r = 0 ∧ ¬ bst A m i j)))) := by
  intro d
  induction d using Nat.strongRecOn with
  | ind d ih =>
    intro o hd ho hb
    have g0 := gN_in (A := A) (m := m) (i := i) (j := j) hm hi
    refine cz_iload (pc' := 12) (g_d dtbX10_isBestAgainst_0 7 rfl) rfl rfl ?_
    refine nz_iconst (pc' := 13) (g_d dtbX10_isBestAgainst_0 8 rfl) rfl ?_
    refine nz_icmp_ge (tgt := 35) (pc' := 16) (g_d dtbX10_isBestAgainst_0 9 rfl) (by omega) (by omega) rfl rfl (fun h13 => ?_) (fun h13 => ?_)
    · refine nz_iconst (pc' := 36) (g_d dtbX10_isBestAgainst_0 20 rfl) rfl ?_
      refine nz_ri .boolean (g_d dtbX10_isBestAgainst_0 21 rfl) rfl rfl ?_
      exact ⟨rfl, Or.inl ⟨rfl, fun x hx => hb x (by omega)⟩⟩
    · have g1 := gN_in (A := A) (m := m) (i := o) (j := j) hm (by omega)
      refine cz_aload_n (pc' := 17) (g_d dtbX10_isBestAgainst_0 10 rfl) rfl rfl ?_
      refine cz_iload (pc' := 19) (g_d dtbX10_isBestAgainst_0 11 rfl) rfl rfl ?_
      refine cz_iload_n (pc' := 20) (g_d dtbX10_isBestAgainst_0 12 rfl) rfl rfl ?_
      refine nz_cVi (M' := mX10_gainOf) (k := 0) (As := [iv ((o : Int)), iv ((j : Int))]) (S := []) (L := [some (.ref 0), some (iv ((i : Int))), some (iv ((j : Int))), some (iv (gN A m i j)), some (iv ((o : Int)))]) (pc' := 23) (g_d dtbX10_isBestAgainst_0 13 rfl) lk_X10_274 okX10_gainOf (by decide) rfl rfl rfl rfl (Nat.le_of_ble_eq_true rfl) (Nat.le_of_ble_eq_true rfl) (by decide) rfl (c_gain G W A m hm hE o j (by omega) hj) ?_
      rintro _ _ ⟨rfl, rfl⟩
      refine cz_iload_n (pc' := 24) (g_d dtbX10_isBestAgainst_0 14 rfl) rfl rfl ?_
      refine nz_icmp_le (tgt := 29) (pc' := 27) (g_d dtbX10_isBestAgainst_0 15 rfl) (by omega) (by omega) rfl rfl (fun h24 => ?_) (fun h24 => ?_)
      · refine nz_iinc (L' := [some (.ref 0), some (iv ((i : Int))), some (iv ((j : Int))), some (iv (gN A m i j)), some (iv (((o : Int)) + 1))]) (pc' := 32) (g_d dtbX10_isBestAgainst_0 18 rfl) (by decide) rfl rfl rfl ?_
        refine cz_goto (pc' := 10) (g_d dtbX10_isBestAgainst_0 19 rfl) rfl ?_
        refine ih (4 - (o + 1)) (by omega) (o + 1) rfl (by omega) (fun x hx => ?_)
        rcases (show x < o ∨ x = o by omega) with q | rfl
        · exact hb x q
        · omega
      · refine nz_iconst (pc' := 28) (g_d dtbX10_isBestAgainst_0 16 rfl) rfl ?_
        refine nz_ri .boolean (g_d dtbX10_isBestAgainst_0 17 rfl) rfl rfl ?_
        exact ⟨rfl, Or.inr ⟨rfl, fun q => by have := q o (by omega); omega⟩⟩

set_option maxRecDepth 20000 in
set_option maxHeartbeats 4000000 in
theorem c_best (G : Wd) (W : ZS) (A : AS) (m : Nat) (hm : m ≤ 28) (hE : CE A m W 7) (i j : Nat) (hi : i < 4) (hj : j < 4) : Cn G mX10_isBestAgainst 0 [some (.ref 0), some (iv ((i : Int))), some (iv ((j : Int))), none, none] [] W (qi (fun r V => W = V ∧ ((r = 1 ∧ bst A m i j) ∨ (r = 0 ∧ ¬ bst A m i j)))) := by
  refine cz_aload_n (pc' := 1) (g_d dtbX10_isBestAgainst_0 0 rfl) rfl rfl ?_
  refine cz_iload_n (pc' := 2) (g_d dtbX10_isBestAgainst_0 1 rfl) rfl rfl ?_
  refine cz_iload_n (pc' := 3) (g_d dtbX10_isBestAgainst_0 2 rfl) rfl rfl ?_
  refine nz_cVi (M' := mX10_gainOf) (k := 0) (As := [iv ((i : Int)), iv ((j : Int))]) (S := []) (L := [some (.ref 0), some (iv ((i : Int))), some (iv ((j : Int))), none, none]) (pc' := 6) (g_d dtbX10_isBestAgainst_0 3 rfl) lk_X10_274 okX10_gainOf (by decide) rfl rfl rfl rfl (Nat.le_of_ble_eq_true rfl) (Nat.le_of_ble_eq_true rfl) (by decide) rfl (c_gain G W A m hm hE i j (by omega) hj) ?_
  rintro _ _ ⟨rfl, rfl⟩
  refine cz_istore_n (L' := [some (.ref 0), some (iv ((i : Int))), some (iv ((j : Int))), some (iv (gN A m i j)), none]) (pc' := 7) (g_d dtbX10_isBestAgainst_0 4 rfl) (by decide) rfl rfl ?_
  refine nz_iconst (pc' := 8) (g_d dtbX10_isBestAgainst_0 5 rfl) rfl ?_
  refine cz_istore (L' := [some (.ref 0), some (iv ((i : Int))), some (iv ((j : Int))), some (iv (gN A m i j)), some (iv 0)]) (pc' := 10) (g_d dtbX10_isBestAgainst_0 6 rfl) (by decide) rfl rfl ?_
  exact l_best G W A m hm hE i j hi hj (4 - 0) 0 rfl (by omega) (fun x hx => absurd hx (Nat.not_lt_zero x))

set_option maxRecDepth 20000 in
set_option maxHeartbeats 4000000 in
theorem l_two (G : Wd) (W : ZS) (A : AS) (m : Nat) (hm : m ≤ 28) (hE : CE A m W 7) (k : Int) (hk : -1 ≤ k ∧ k ≤ 2147483647) : ∀ (d : Nat) (p : Nat), 16 - p = d → (p ≤ 16) → (∀ x, x < p → ¬ (rs A m x ∧ twN A m x = k)) → Cn G mX10_two 32 [some (.ref 0), some (iv ((m : Int))), some (iv (k)), some (iv (twN A m p)), some (iv ((p : Int))), none, none] [] W (qi (fun r V => W = V ∧ twP A m k r)) := by
  intro d
  induction d using Nat.strongRecOn with
  | ind d ih =>
    intro p hd hp hno
    have htw := twN_in (A := A) (m := m) p
    refine cz_iload (pc' := 34) (g_d dtbX10_two_0 19 rfl) rfl rfl ?_
    refine nz_bipush (pc' := 36) (g_d dtbX10_two_0 20 rfl) (by decide) rfl ?_
    refine nz_icmp_ge (tgt := 90) (pc' := 39) (g_d dtbX10_two_0 21 rfl) (by omega) (by omega) rfl rfl (fun h36 => ?_) (fun h36 => ?_)
    · refine cz_iload_n (pc' := 91) (g_d dtbX10_two_0 48 rfl) rfl rfl ?_
      refine nz_iconst (pc' := 92) (g_d dtbX10_two_0 49 rfl) rfl ?_
      refine nz_icmp_ne (tgt := 99) (pc' := 95) (g_d dtbX10_two_0 50 rfl) (by omega) (by omega) rfl rfl (fun h92 => ?_) (fun h92 => ?_)
      · refine nz_bipush (pc' := 101) (g_d dtbX10_two_0 53 rfl) (by decide) rfl ?_
        refine nz_ri .int (g_d dtbX10_two_0 54 rfl) rfl rfl ?_
        have hp : p = 16 := by omega
        subst hp
        exact ⟨rfl, Or.inr ⟨hno, by rw [if_neg (by omega)]⟩⟩
      · refine cz_iload_n (pc' := 96) (g_d dtbX10_two_0 51 rfl) rfl rfl ?_
        refine cz_goto (pc' := 101) (g_d dtbX10_two_0 52 rfl) rfl ?_
        refine nz_ri .int (g_d dtbX10_two_0 54 rfl) rfl rfl ?_
        have hp : p = 16 := by omega
        subst hp
        exact ⟨rfl, Or.inr ⟨hno, by rw [if_pos (by omega)]⟩⟩
    · refine cz_iload (pc' := 41) (g_d dtbX10_two_0 22 rfl) rfl rfl ?_
      refine nz_iconst (pc' := 42) (g_d dtbX10_two_0 23 rfl) rfl ?_
      refine nz_idiv (pc' := 43) (g_d dtbX10_two_0 24 rfl) (by omega) (by omega) rfl ?_
      refine cz_istore (L' := [some (.ref 0), some (iv ((m : Int))), some (iv (k)), some (iv (twN A m p)), some (iv ((p : Int))), some (iv (((p : Int)) / 4)), none]) (pc' := 45) (g_d dtbX10_two_0 25 rfl) (by decide) rfl rfl ?_
      refine cz_iload (pc' := 47) (g_d dtbX10_two_0 26 rfl) rfl rfl ?_
      refine nz_iconst (pc' := 48) (g_d dtbX10_two_0 27 rfl) rfl ?_
      refine nz_irem (pc' := 49) (g_d dtbX10_two_0 28 rfl) (by omega) (by omega) rfl ?_
      refine cz_istore (L' := [some (.ref 0), some (iv ((m : Int))), some (iv (k)), some (iv (twN A m p)), some (iv ((p : Int))), some (iv (((p : Int)) / 4)), some (iv (((p : Int)) % 4))]) (pc' := 51) (g_d dtbX10_two_0 29 rfl) (by decide) rfl rfl ?_
      rw [show (p : Int) / 4 = ((p / 4 : Nat) : Int) by omega, show (p : Int) % 4 = ((p % 4 : Nat) : Int) by omega]
      refine cz_aload_n (pc' := 52) (g_d dtbX10_two_0 30 rfl) rfl rfl ?_
      refine cz_iload (pc' := 54) (g_d dtbX10_two_0 31 rfl) rfl rfl ?_
      refine cz_iload (pc' := 56) (g_d dtbX10_two_0 32 rfl) rfl rfl ?_
      refine nz_cVi (M' := mX10_isBestAgainst) (k := 0) (As := [iv (((p / 4 : Nat) : Int)), iv (((p % 4 : Nat) : Int))]) (S := []) (L := [some (.ref 0), some (iv ((m : Int))), some (iv (k)), some (iv (twN A m p)), some (iv ((p : Int))), some (iv (((p / 4 : Nat) : Int))), some (iv (((p % 4 : Nat) : Int)))]) (pc' := 59) (g_d dtbX10_two_0 33 rfl) lk_X10_195 okX10_isBestAgainst (by decide) rfl rfl rfl rfl (Nat.le_of_ble_eq_true rfl) (Nat.le_of_ble_eq_true rfl) (by decide) rfl (c_best G W A m hm hE (p / 4) (p % 4) (by omega) (by omega)) ?_
      rintro _ _ ⟨rfl, ⟨rfl, hr56⟩ | ⟨rfl, hr56⟩⟩
      · refine nz_if_eq_f (pc' := 62) (g_d dtbX10_two_0 34 rfl) (by omega) (by decide) rfl (by omega) ?_
        refine cz_aload_n (pc' := 63) (g_d dtbX10_two_0 35 rfl) rfl rfl ?_
        refine cz_iload (pc' := 65) (g_d dtbX10_two_0 36 rfl) rfl rfl ?_
        refine cz_iload (pc' := 67) (g_d dtbX10_two_0 37 rfl) rfl rfl ?_
        refine nz_cVi (M' := mX10_isBestAgainst) (k := 0) (As := [iv (((p % 4 : Nat) : Int)), iv (((p / 4 : Nat) : Int))]) (S := []) (L := [some (.ref 0), some (iv ((m : Int))), some (iv (k)), some (iv (twN A m p)), some (iv ((p : Int))), some (iv (((p / 4 : Nat) : Int))), some (iv (((p % 4 : Nat) : Int)))]) (pc' := 70) (g_d dtbX10_two_0 38 rfl) lk_X10_195 okX10_isBestAgainst (by decide) rfl rfl rfl rfl (Nat.le_of_ble_eq_true rfl) (Nat.le_of_ble_eq_true rfl) (by decide) rfl (c_best G W A m hm hE (p % 4) (p / 4) (by omega) (by omega)) ?_
        rintro _ _ ⟨rfl, ⟨rfl, hr67⟩ | ⟨rfl, hr67⟩⟩
        · refine nz_if_eq_f (pc' := 73) (g_d dtbX10_two_0 39 rfl) (by omega) (by decide) rfl (by omega) ?_
          refine cz_iload_n (pc' := 74) (g_d dtbX10_two_0 40 rfl) rfl rfl ?_
          refine cz_iload_n (pc' := 75) (g_d dtbX10_two_0 41 rfl) rfl rfl ?_
          refine nz_icmp_ne (tgt := 81) (pc' := 78) (g_d dtbX10_two_0 42 rfl) (by omega) (by omega) rfl rfl (fun h75 => ?_) (fun h75 => ?_)
          · refine nz_iinc (L' := [some (.ref 0), some (iv ((m : Int))), some (iv (k)), some (iv ((twN A m p) + 1)), some (iv ((p : Int))), some (iv (((p / 4 : Nat) : Int))), some (iv (((p % 4 : Nat) : Int)))]) (pc' := 84) (g_d dtbX10_two_0 45 rfl) (by decide) rfl rfl rfl ?_
            refine nz_iinc (L' := [some (.ref 0), some (iv ((m : Int))), some (iv (k)), some (iv ((twN A m p) + 1)), some (iv (((p : Int)) + 1)), some (iv (((p / 4 : Nat) : Int))), some (iv (((p % 4 : Nat) : Int)))]) (pc' := 87) (g_d dtbX10_two_0 46 rfl) (by decide) rfl rfl rfl ?_
            refine cz_goto (pc' := 32) (g_d dtbX10_two_0 47 rfl) rfl ?_
            refine cz_le [some (.ref 0), some (iv ((m : Int))), some (iv (k)), some (iv ((twN A m p) + 1)), some (iv (((p : Int)) + 1)), none, none] ⟨rfl, rfl, rfl, rfl, rfl, trivial⟩ ?_
            have hrs : rs A m p := ⟨hr56, hr67⟩
            have q := ih (16 - (p + 1)) (by omega) (p + 1) rfl (by omega) (fun x hx => ?_)
            · rw [twN_s hrs] at q; exact q
            · rcases (show x < p ∨ x = p by omega) with c | rfl
              · exact hno x c
              · exact fun z => h75 z.2
          · refine cz_iload (pc' := 80) (g_d dtbX10_two_0 43 rfl) rfl rfl ?_
            refine nz_ri .int (g_d dtbX10_two_0 44 rfl) rfl rfl ?_
            exact ⟨rfl, Or.inl ⟨p, by omega, ⟨hr56, hr67⟩, h75, rfl⟩⟩
        · refine nz_if_eq_t (tgt := 84) (g_d dtbX10_two_0 39 rfl) (by omega) rfl (by omega) ?_
          refine nz_iinc (L' := [some (.ref 0), some (iv ((m : Int))), some (iv (k)), some (iv (twN A m p)), some (iv (((p : Int)) + 1)), some (iv (((p / 4 : Nat) : Int))), some (iv (((p % 4 : Nat) : Int)))]) (pc' := 87) (g_d dtbX10_two_0 46 rfl) (by decide) rfl rfl rfl ?_
          refine cz_goto (pc' := 32) (g_d dtbX10_two_0 47 rfl) rfl ?_
          refine cz_le [some (.ref 0), some (iv ((m : Int))), some (iv (k)), some (iv (twN A m p)), some (iv (((p : Int)) + 1)), none, none] ⟨rfl, rfl, rfl, rfl, rfl, trivial⟩ ?_
          have hrs : ¬ rs A m p := fun z => by first | exact hr56 z.1 | exact hr67 z.2
          have q := ih (16 - (p + 1)) (by omega) (p + 1) rfl (by omega) (fun x hx => ?_)
          · rw [twN_n hrs] at q; exact q
          · rcases (show x < p ∨ x = p by omega) with c | rfl
            · exact hno x c
            · exact fun z => hrs z.1
      · refine nz_if_eq_t (tgt := 84) (g_d dtbX10_two_0 34 rfl) (by omega) rfl (by omega) ?_
        refine nz_iinc (L' := [some (.ref 0), some (iv ((m : Int))), some (iv (k)), some (iv (twN A m p)), some (iv (((p : Int)) + 1)), some (iv (((p / 4 : Nat) : Int))), some (iv (((p % 4 : Nat) : Int)))]) (pc' := 87) (g_d dtbX10_two_0 46 rfl) (by decide) rfl rfl rfl ?_
        refine cz_goto (pc' := 32) (g_d dtbX10_two_0 47 rfl) rfl ?_
        refine cz_le [some (.ref 0), some (iv ((m : Int))), some (iv (k)), some (iv (twN A m p)), some (iv (((p : Int)) + 1)), none, none] ⟨rfl, rfl, rfl, rfl, rfl, trivial⟩ ?_
        have hrs : ¬ rs A m p := fun z => by first | exact hr56 z.1 | exact hr67 z.2
        have q := ih (16 - (p + 1)) (by omega) (p + 1) rfl (by omega) (fun x hx => ?_)
        · rw [twN_n hrs] at q; exact q
        · rcases (show x < p ∨ x = p by omega) with c | rfl
          · exact hno x c
          · exact fun z => hrs z.1

set_option maxRecDepth 20000 in
set_option maxHeartbeats 4000000 in
theorem a_two (G : Wd) (Z : ZS) (A : AS) (B : Int) (hC : CS Z A) (hA : AO B A) (m k : Int) (hm : -2147483648 ≤ m ∧ m ≤ 2147483647) (hk : -2147483648 ≤ k ∧ k ≤ 2147483647) : Cn G mX10_two 0 [some (.ref 0), some (iv (m)), some (iv (k)), none, none, none, none] [] Z (qi (fun r W => (((1 ≤ m ∧ m ≤ 28) ∧ -1 ≤ k) ∧ twP A m.toNat k r ∧ CS W A ∧ FM Z W) ∨ (¬ ((1 ≤ m ∧ m ≤ 28) ∧ -1 ≤ k) ∧ r = -10 ∧ CS W (aBad A) ∧ FM Z W))) := by
  have hB := hC.1
  have hb0 := hA.1
  have hO := hA.2.1
  have h6 : 0 ≤ A.1 6 ∧ A.1 6 ≤ 7 := hO.2.1
  have h28 : 0 ≤ A.1 28 ∧ A.1 28 ≤ 6 := hO.2.2.2.1
  have h59 : 0 ≤ A.1 59 ∧ A.1 59 ≤ 8 := hO.2.2.2.2.2.1
  have hf := hO.1
  unfold FO at hf
  have hct := hA.2.2.2.2.2.2
  refine cz_iload_n (pc' := 1) (g_d dtbX10_two_0 0 rfl) rfl rfl ?_
  refine nz_iconst (pc' := 2) (g_d dtbX10_two_0 1 rfl) rfl ?_
  refine nz_bipush (pc' := 4) (g_d dtbX10_two_0 2 rfl) (by decide) rfl ?_
  refine nz_cSi (M' := mX10_within) (As := [iv (m), iv 1, iv 28]) (S := []) (L := [some (.ref 0), some (iv (m)), some (iv (k)), none, none, none, none]) (pc' := 7) (g_d dtbX10_two_0 3 rfl) lk_X10_53 okX10_within rfl rfl (Nat.le_of_ble_eq_true rfl) (Nat.le_of_ble_eq_true rfl) (by decide) rfl (c_within G Z m 1 28 (by omega) (by omega) (by omega)) ?_
  rintro _ _ ⟨rfl, ⟨rfl, hw4⟩ | ⟨rfl, hw4⟩⟩
  · refine nz_if_eq_f (pc' := 10) (g_d dtbX10_two_0 4 rfl) (by omega) (by decide) rfl (by omega) ?_
    refine cz_iload_n (pc' := 11) (g_d dtbX10_two_0 5 rfl) rfl rfl ?_
    refine nz_iconst (pc' := 12) (g_d dtbX10_two_0 6 rfl) rfl ?_
    refine nz_icmp_ge (tgt := 22) (pc' := 15) (g_d dtbX10_two_0 7 rfl) (by omega) (by omega) rfl rfl (fun h12 => ?_) (fun h12 => ?_)
    · obtain ⟨N, rfl⟩ : ∃ N : Nat, m = (N : Int) := ⟨m.toNat, by omega⟩
      refine cz_aload_n (pc' := 23) (g_d dtbX10_two_0 12 rfl) rfl rfl ?_
      refine cz_iload_n (pc' := 24) (g_d dtbX10_two_0 13 rfl) rfl rfl ?_
      refine nz_cVv (M' := mX10_layChargesByExtra) (k := 0) (As := [iv ((N : Int))]) (S := []) (L := [some (.ref 0), some (iv ((N : Int))), some (iv (k)), none, none, none, none]) (pc' := 27) (g_d dtbX10_two_0 14 rfl) lk_X10_192 okX10_layChargesByExtra (by decide) rfl rfl rfl rfl (Nat.le_of_ble_eq_true rfl) (Nat.le_of_ble_eq_true rfl) (by decide) rfl (c_extra G Z A B hC hA N (by omega)) ?_
      rintro V1 ⟨hs_V1, hm_V1, hE⟩
      refine nz_iconst (pc' := 28) (g_d dtbX10_two_0 15 rfl) rfl ?_
      refine cz_istore_n (L' := [some (.ref 0), some (iv ((N : Int))), some (iv (k)), some (iv 0), none, none, none]) (pc' := 29) (g_d dtbX10_two_0 16 rfl) (by decide) rfl rfl ?_
      refine nz_iconst (pc' := 30) (g_d dtbX10_two_0 17 rfl) rfl ?_
      refine cz_istore (L' := [some (.ref 0), some (iv ((N : Int))), some (iv (k)), some (iv 0), some (iv 0), none, none]) (pc' := 32) (g_d dtbX10_two_0 18 rfl) (by decide) rfl rfl ?_
      refine nz_wi (l_two G V1 A N (by omega) hE k (by omega) (16 - 0) 0 rfl (by omega) (fun x hx => absurd hx (Nat.not_lt_zero x))) (fun r V h => ?_)
      obtain ⟨rfl, h⟩ := h
      rw [Int.toNat_natCast]
      exact Or.inl ⟨by omega, h, hC.sc hs_V1, hm_V1⟩
    · refine cz_aload_n (pc' := 16) (g_d dtbX10_two_0 8 rfl) rfl rfl ?_
      refine nz_bipush (pc' := 18) (g_d dtbX10_two_0 9 rfl) (by decide) rfl ?_
      refine nz_cVi (M' := mX10_refuseBad) (k := 0) (As := [iv (-10)]) (S := []) (L := [some (.ref 0), some (iv (m)), some (iv (k)), none, none, none, none]) (pc' := 21) (g_d dtbX10_two_0 10 rfl) lk_X10_57 okX10_refuseBad (by decide) rfl rfl rfl rfl (Nat.le_of_ble_eq_true rfl) (Nat.le_of_ble_eq_true rfl) (by decide) rfl (c_refuseBad G Z (-10)) ?_
      rintro _ _ ⟨rfl, rfl⟩
      refine nz_ri .int (g_d dtbX10_two_0 11 rfl) rfl rfl ?_
      exact Or.inr ⟨by omega, rfl, cs_bad hC, (FM.u FM.rf (by decide))⟩
  · refine nz_if_eq_t (tgt := 15) (g_d dtbX10_two_0 4 rfl) (by omega) rfl (by omega) ?_
    refine cz_aload_n (pc' := 16) (g_d dtbX10_two_0 8 rfl) rfl rfl ?_
    refine nz_bipush (pc' := 18) (g_d dtbX10_two_0 9 rfl) (by decide) rfl ?_
    refine nz_cVi (M' := mX10_refuseBad) (k := 0) (As := [iv (-10)]) (S := []) (L := [some (.ref 0), some (iv (m)), some (iv (k)), none, none, none, none]) (pc' := 21) (g_d dtbX10_two_0 10 rfl) lk_X10_57 okX10_refuseBad (by decide) rfl rfl rfl rfl (Nat.le_of_ble_eq_true rfl) (Nat.le_of_ble_eq_true rfl) (by decide) rfl (c_refuseBad G Z (-10)) ?_
    rintro _ _ ⟨rfl, rfl⟩
    refine nz_ri .int (g_d dtbX10_two_0 11 rfl) rfl rfl ?_
    exact Or.inr ⟨by omega, rfl, cs_bad hC, (FM.u FM.rf (by decide))⟩
