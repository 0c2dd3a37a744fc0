/-! boilers, years, two -/
def cmS (t : Int) : Nat → Int
  | 0 => 1
  | i + 1 => if 10 % ((i : Int) + 2) = 0 ∧ t % ((i : Int) + 2) = 0 then (i : Int) + 2 else cmS t i
def cT (t : Int) : Int := if t % 10 = 0 then 10 else if t % 5 = 0 then 5 else if t % 2 = 0 then 2 else 1
theorem cmS_9 (t : Int) : cmS t 9 = cT t := by
  have s : ∀ i : Nat, ¬ (10 : Int) % ((i : Int) + 2) = 0 → cmS t (i + 1) = cmS t i := fun i h => by simp only [cmS]; rw [if_neg (fun q => h q.1)]
  have y : ∀ i : Nat, (10 : Int) % ((i : Int) + 2) = 0 → cmS t (i + 1) = if t % ((i : Int) + 2) = 0 then (i : Int) + 2 else cmS t i := fun i h => by
    simp only [cmS]
    by_cases q : t % ((i : Int) + 2) = 0
    · rw [if_pos ⟨h, q⟩, if_pos q]
    · rw [if_neg (fun z => q z.2), if_neg q]
  rw [y 8 (by decide), s 7 (by decide), s 6 (by decide), s 5 (by decide), s 4 (by decide), y 3 (by decide), s 2 (by decide), s 1 (by decide), y 0 (by decide)]
  unfold cT
  rfl
theorem cmS_in (t : Int) : ∀ i : Nat, 1 ≤ cmS t i ∧ cmS t i ≤ (i : Int) + 1 := by
  intro i
  induction i with
  | zero => simp [cmS]
  | succ i ih => simp only [cmS]; split <;> omega
theorem cT_in (t : Int) : 1 ≤ cT t ∧ cT t ≤ 10 := by
  unfold cT
  (repeat' split) <;> omega
theorem mulb {c x m : Int} (hc : 0 ≤ c ∧ c ≤ 10) (hx : 0 ≤ x ∧ x ≤ m) : 0 ≤ c * x ∧ c * x ≤ c * m := ⟨Int.mul_nonneg hc.1 hx.1, Int.mul_le_mul_of_nonneg_left hx.2 hc.1⟩
def tB (A : AS) (b c : Int) (m : Nat) : Int := c * rC (gA A) (A.1 5) (A.1 0 - b) m + (10 - c) * rC (gA A) (A.1 5) (A.1 0) m
def xBoiler (A : AS) (b m c : Int) : Int × AS := if (0 ≤ b ∧ b ≤ 999) ∧ (0 ≤ m ∧ m ≤ 99) ∧ (0 ≤ c ∧ c ≤ 10) then (1, sQ A (tB A b c m.toNat / cT (tB A b c m.toNat)) (10 / cT (tB A b c m.toNat))) else (-2, aBad A)
theorem tB_in {A : AS} {b c : Int} {m : Nat} (hc : 0 ≤ c ∧ c ≤ 10) (hm : m ≤ 99) : 0 ≤ tB A b c m ∧ tB A b c m ≤ 990 := by
  have h1 := rC_in (g := gA A) (sp := A.1 5) (a := A.1 0 - b) m
  have h2 := rC_in (g := gA A) (sp := A.1 5) (a := A.1 0) m
  have a1 := mulb (m := 99) hc (show 0 ≤ rC (gA A) (A.1 5) (A.1 0 - b) m ∧ rC (gA A) (A.1 5) (A.1 0 - b) m ≤ 99 by omega)
  have a2 := mulb (c := 10 - c) (m := 99) (by omega) (show 0 ≤ rC (gA A) (A.1 5) (A.1 0) m ∧ rC (gA A) (A.1 5) (A.1 0) m ≤ 99 by omega)
  unfold tB
  omega
theorem cs_q {Z : ZS} {A : AS} {u l : Int} (h : CS Z A) : CS (zu (zu Z 0 8 u) 0 9 l) (sQ A u l) := by
  obtain ⟨h1, h2, h3, h4, h5, h6⟩ := h
  have e : ∀ a, a ≠ 0 → (zu (zu Z 0 8 u) 0 9 l) a = Z a := fun a ha => by rw [zu_row ha, zu_row ha]
  refine ⟨h1.eq (fun a q1 q2 => e a (by omega)), ⟨by rw [e 16 (by omega)]; exact h2.1, fun q => (h2.2 q).eq (fun a q1 q2 => e a (by omega))⟩, ⟨by rw [e 16 (by omega)]; exact h3.1, fun q => (h3.2 q).eq (fun a q1 q2 => e a (by omega))⟩, ⟨by rw [e 17 (by omega)]; exact h4.1, fun i hi => by rw [e 18 (by omega)]; exact h4.2 i hi⟩, ⟨by rw [zu_ne (by omega), zu_eq]; rfl, by rw [zu_eq]; rfl⟩, ⟨by rw [zu_ne (by omega), zu_ne (by omega)]; exact h6.1, by rw [zu_ne (by omega), zu_ne (by omega)]; exact h6.2.1, by rw [zu_ne (by omega), zu_ne (by omega)]; exact h6.2.2⟩⟩

set_option maxRecDepth 20000 in
set_option maxHeartbeats 4000000 in
theorem l_tenths (G : Wd) (Z : ZS) (t : Int) (ht : 0 ≤ t ∧ t ≤ 990) : ∀ (d : Nat) (i : Nat), 9 - i = d → i ≤ 9 → Cn G mX10_setTenths 4 [some (.ref 0), some (iv (t)), some (iv (cmS t i)), some (iv ((i : Int) + 2))] [] Z (qv (fun W => zu (zu Z 0 8 (t / cT t)) 0 9 (10 / cT t) = W)) := by
  intro d
  induction d using Nat.strongRecOn with
  | ind d ih =>
    intro i hd hi
    have hc := cmS_in t i
    refine cz_iload_n (pc' := 5) (g_d dtbX10_setTenths_0 4 rfl) rfl rfl ?_
    refine nz_bipush (pc' := 7) (g_d dtbX10_setTenths_0 5 rfl) (by decide) rfl ?_
    refine nz_icmp_gt (tgt := 31) (pc' := 10) (g_d dtbX10_setTenths_0 6 rfl) (by omega) (by omega) rfl rfl (fun h7 => ?_) (fun h7 => ?_)
    · refine cz_aload_n (pc' := 32) (g_d dtbX10_setTenths_0 19 rfl) rfl rfl ?_
      refine cz_iload_n (pc' := 33) (g_d dtbX10_setTenths_0 20 rfl) rfl rfl ?_
      refine cz_iload_n (pc' := 34) (g_d dtbX10_setTenths_0 21 rfl) rfl rfl ?_
      refine nz_idiv (pc' := 35) (g_d dtbX10_setTenths_0 22 rfl) (by omega) (by omega) rfl ?_
      refine nz_i2l (pc' := 36) (g_d dtbX10_setTenths_0 23 rfl) (by have := Int.ediv_nonneg ht.1 (show (0 : Int) ≤ cmS t i by omega); have := Int.ediv_le_self (cmS t i) ht.1; omega) rfl ?_
      refine nz_putl (pc' := 39) (g_d dtbX10_setTenths_0 24 rfl) pf_X10_220 rfl (by decide) rfl rfl ?_
      refine cz_aload_n (pc' := 40) (g_d dtbX10_setTenths_0 25 rfl) rfl rfl ?_
      refine nz_bipush (pc' := 42) (g_d dtbX10_setTenths_0 26 rfl) (by decide) rfl ?_
      refine cz_iload_n (pc' := 43) (g_d dtbX10_setTenths_0 27 rfl) rfl rfl ?_
      refine nz_idiv (pc' := 44) (g_d dtbX10_setTenths_0 28 rfl) (by omega) (by omega) rfl ?_
      refine nz_i2l (pc' := 45) (g_d dtbX10_setTenths_0 29 rfl) (by have := Int.ediv_nonneg (show (0 : Int) ≤ 10 by omega) (show (0 : Int) ≤ cmS t i by omega); have := Int.ediv_le_self (cmS t i) (show (0 : Int) ≤ 10 by omega); omega) rfl ?_
      refine nz_putl (pc' := 48) (g_d dtbX10_setTenths_0 30 rfl) pf_X10_49 rfl (by decide) rfl rfl ?_
      refine nz_rv (g_d dtbX10_setTenths_0 31 rfl) rfl ?_
      rw [show i = 9 by omega, cmS_9]
    · refine nz_bipush (pc' := 12) (g_d dtbX10_setTenths_0 7 rfl) (by decide) rfl ?_
      refine cz_iload_n (pc' := 13) (g_d dtbX10_setTenths_0 8 rfl) rfl rfl ?_
      refine nz_irem (pc' := 14) (g_d dtbX10_setTenths_0 9 rfl) (by omega) (by omega) rfl ?_
      refine nz_if_ne (tgt := 25) (pc' := 17) (g_d dtbX10_setTenths_0 10 rfl) (by have := Int.emod_nonneg 10 (show ((i : Int) + 2) ≠ 0 by omega); have := Int.emod_lt_of_pos 10 (show (0 : Int) < (i : Int) + 2 by omega); omega) rfl rfl (fun h14 => ?_) (fun h14 => ?_)
      · refine nz_iinc (L' := [some (.ref 0), some (iv (t)), some (iv (cmS t i)), some (iv (((i : Int) + 2) + 1))]) (pc' := 28) (g_d dtbX10_setTenths_0 17 rfl) (by decide) rfl rfl rfl ?_
        refine cz_goto (pc' := 4) (g_d dtbX10_setTenths_0 18 rfl) rfl ?_
        have em : cmS t (i + 1) = cmS t i := by simp only [cmS]; rw [if_neg (by omega)]
        have q := ih (9 - (i + 1)) (by omega) (i + 1) rfl (by omega)
        rw [em] at q
        have e3 : ((i + 1 : Nat) : Int) + 2 = (i : Int) + 2 + 1 := by push_cast; omega
        rw [e3] at q
        exact q
      · refine cz_iload_n (pc' := 18) (g_d dtbX10_setTenths_0 11 rfl) rfl rfl ?_
        refine cz_iload_n (pc' := 19) (g_d dtbX10_setTenths_0 12 rfl) rfl rfl ?_
        refine nz_irem (pc' := 20) (g_d dtbX10_setTenths_0 13 rfl) (by omega) (by omega) rfl ?_
        refine nz_if_ne (tgt := 25) (pc' := 23) (g_d dtbX10_setTenths_0 14 rfl) (by have := Int.emod_nonneg t (show ((i : Int) + 2) ≠ 0 by omega); have := Int.emod_lt_of_pos t (show (0 : Int) < (i : Int) + 2 by omega); omega) rfl rfl (fun h20 => ?_) (fun h20 => ?_)
        · refine nz_iinc (L' := [some (.ref 0), some (iv (t)), some (iv (cmS t i)), some (iv (((i : Int) + 2) + 1))]) (pc' := 28) (g_d dtbX10_setTenths_0 17 rfl) (by decide) rfl rfl rfl ?_
          refine cz_goto (pc' := 4) (g_d dtbX10_setTenths_0 18 rfl) rfl ?_
          have em : cmS t (i + 1) = cmS t i := by simp only [cmS]; rw [if_neg (by omega)]
          have q := ih (9 - (i + 1)) (by omega) (i + 1) rfl (by omega)
          rw [em] at q
          have e3 : ((i + 1 : Nat) : Int) + 2 = (i : Int) + 2 + 1 := by push_cast; omega
          rw [e3] at q
          exact q
        · refine cz_iload_n (pc' := 24) (g_d dtbX10_setTenths_0 15 rfl) rfl rfl ?_
          refine cz_istore_n (L' := [some (.ref 0), some (iv (t)), some (iv ((i : Int) + 2)), some (iv ((i : Int) + 2))]) (pc' := 25) (g_d dtbX10_setTenths_0 16 rfl) (by decide) rfl rfl ?_
          refine nz_iinc (L' := [some (.ref 0), some (iv (t)), some (iv ((i : Int) + 2)), some (iv (((i : Int) + 2) + 1))]) (pc' := 28) (g_d dtbX10_setTenths_0 17 rfl) (by decide) rfl rfl rfl ?_
          refine cz_goto (pc' := 4) (g_d dtbX10_setTenths_0 18 rfl) rfl ?_
          have em : cmS t (i + 1) = (i : Int) + 2 := by simp only [cmS]; rw [if_pos (by omega)]
          have q := ih (9 - (i + 1)) (by omega) (i + 1) rfl (by omega)
          rw [em] at q
          have e3 : ((i + 1 : Nat) : Int) + 2 = (i : Int) + 2 + 1 := by push_cast; omega
          rw [e3] at q
          exact q

set_option maxRecDepth 20000 in
set_option maxHeartbeats 4000000 in
theorem c_setTenths (G : Wd) (Z : ZS) (t : Int) (ht : 0 ≤ t ∧ t ≤ 990) : Cn G mX10_setTenths 0 [some (.ref 0), some (iv (t)), none, none] [] Z (qv (fun W => zu (zu Z 0 8 (t / cT t)) 0 9 (10 / cT t) = W)) := by
  refine nz_iconst (pc' := 1) (g_d dtbX10_setTenths_0 0 rfl) rfl ?_
  refine cz_istore_n (L' := [some (.ref 0), some (iv (t)), some (iv 1), none]) (pc' := 2) (g_d dtbX10_setTenths_0 1 rfl) (by decide) rfl rfl ?_
  refine nz_iconst (pc' := 3) (g_d dtbX10_setTenths_0 2 rfl) rfl ?_
  refine cz_istore_n (L' := [some (.ref 0), some (iv (t)), some (iv 1), some (iv 2)]) (pc' := 4) (g_d dtbX10_setTenths_0 3 rfl) (by decide) rfl rfl ?_
  exact l_tenths G Z t ht (9 - 0) 0 rfl (by omega)

set_option maxRecDepth 20000 in
set_option maxHeartbeats 4000000 in
theorem a_boiler (G : Wd) (Z : ZS) (A : AS) (B : Int) (hC : CS Z A) (hA : AO B A) (b m c : Int) (hb : -2147483648 ≤ b ∧ b ≤ 2147483647) (hm : -2147483648 ≤ m ∧ m ≤ 2147483647) (hc : -2147483648 ≤ c ∧ c ≤ 2147483647) : Cn G mX10_boiler 0 [some (.ref 0), some (iv (b)), some (iv (m)), some (iv (c)), none, none] [] Z (qi (fun r W => (xBoiler A b m c).1 = r ∧ CS W (xBoiler A b m c).2 ∧ FM Z W)) := by
  have hB := hC.1
  have hb0 := hA.1
  have hO := hA.2.1
  have h6 : 0 ≤ A.1 6 ∧ A.1 6 ≤ 7 := hO.2.1
  have h28 : 0 ≤ A.1 28 ∧ A.1 28 ≤ 6 := hO.2.2.2.1
  have h59 : 0 ≤ A.1 59 ∧ A.1 59 ≤ 8 := hO.2.2.2.2.2.1
  have hf := hO.1
  unfold FO at hf
  have hct := hA.2.2.2.2.2.2
  refine cz_iload_n (pc' := 1) (g_d dtbX10_boiler_0 0 rfl) rfl rfl ?_
  refine nz_iconst (pc' := 2) (g_d dtbX10_boiler_0 1 rfl) rfl ?_
  refine nz_sipush (pc' := 5) (g_d dtbX10_boiler_0 2 rfl) (by decide) rfl ?_
  refine nz_cSi (M' := mX10_within) (As := [iv (b), iv 0, iv 999]) (S := []) (L := [some (.ref 0), some (iv (b)), some (iv (m)), some (iv (c)), none, none]) (pc' := 8) (g_d dtbX10_boiler_0 3 rfl) lk_X10_53 okX10_within rfl rfl (Nat.le_of_ble_eq_true rfl) (Nat.le_of_ble_eq_true rfl) (by decide) rfl (c_within G Z b 0 999 (by omega) (by omega) (by omega)) ?_
  rintro _ _ ⟨rfl, ⟨rfl, hw5⟩ | ⟨rfl, hw5⟩⟩
  · refine nz_if_eq_f (pc' := 11) (g_d dtbX10_boiler_0 4 rfl) (by omega) (by decide) rfl (by omega) ?_
    refine cz_iload_n (pc' := 12) (g_d dtbX10_boiler_0 5 rfl) rfl rfl ?_
    refine nz_iconst (pc' := 13) (g_d dtbX10_boiler_0 6 rfl) rfl ?_
    refine nz_bipush (pc' := 15) (g_d dtbX10_boiler_0 7 rfl) (by decide) rfl ?_
    refine nz_cSi (M' := mX10_within) (As := [iv (m), iv 0, iv 99]) (S := []) (L := [some (.ref 0), some (iv (b)), some (iv (m)), some (iv (c)), none, none]) (pc' := 18) (g_d dtbX10_boiler_0 8 rfl) lk_X10_53 okX10_within rfl rfl (Nat.le_of_ble_eq_true rfl) (Nat.le_of_ble_eq_true rfl) (by decide) rfl (c_within G Z m 0 99 (by omega) (by omega) (by omega)) ?_
    rintro _ _ ⟨rfl, ⟨rfl, hw15⟩ | ⟨rfl, hw15⟩⟩
    · refine nz_if_eq_f (pc' := 21) (g_d dtbX10_boiler_0 9 rfl) (by omega) (by decide) rfl (by omega) ?_
      refine cz_iload_n (pc' := 22) (g_d dtbX10_boiler_0 10 rfl) rfl rfl ?_
      refine nz_iconst (pc' := 23) (g_d dtbX10_boiler_0 11 rfl) rfl ?_
      refine nz_bipush (pc' := 25) (g_d dtbX10_boiler_0 12 rfl) (by decide) rfl ?_
      refine nz_cSi (M' := mX10_within) (As := [iv (c), iv 0, iv 10]) (S := []) (L := [some (.ref 0), some (iv (b)), some (iv (m)), some (iv (c)), none, none]) (pc' := 28) (g_d dtbX10_boiler_0 13 rfl) lk_X10_53 okX10_within rfl rfl (Nat.le_of_ble_eq_true rfl) (Nat.le_of_ble_eq_true rfl) (by decide) rfl (c_within G Z c 0 10 (by omega) (by omega) (by omega)) ?_
      rintro _ _ ⟨rfl, ⟨rfl, hw25⟩ | ⟨rfl, hw25⟩⟩
      · refine nz_if_ne_t (tgt := 38) (g_d dtbX10_boiler_0 14 rfl) (by omega) rfl (by omega) ?_
        obtain ⟨N, rfl⟩ : ∃ N : Nat, m = (N : Int) := ⟨m.toNat, by omega⟩
        refine cz_aload_n (pc' := 39) (g_d dtbX10_boiler_0 19 rfl) rfl rfl ?_
        refine cz_iload_n (pc' := 40) (g_d dtbX10_boiler_0 20 rfl) rfl rfl ?_
        refine nz_cVv (M' := mX10_foresee) (k := 0) (As := [iv ((N : Int))]) (S := []) (L := [some (.ref 0), some (iv (b)), some (iv ((N : Int))), some (iv (c)), none, none]) (pc' := 43) (g_d dtbX10_boiler_0 21 rfl) lk_X10_143 okX10_foresee (by decide) rfl rfl rfl rfl (Nat.le_of_ble_eq_true rfl) (Nat.le_of_ble_eq_true rfl) (by decide) rfl (c_foresee G Z A B hC hA N (by omega)) ?_
        rintro V1 ⟨⟨v3, v4, v5, v6, v7⟩, hs_V1, hm_V1, hl_V1⟩
        refine cz_aload_n (pc' := 44) (g_d dtbX10_boiler_0 22 rfl) rfl rfl ?_
        refine nz_getf (v := .ref 24) (pc' := 47) (g_d dtbX10_boiler_0 23 rfl) gf_X10_36 (by decide) rfl rfl rfl ?_
        refine nz_getf (v := iv (rC (gA A) (A.1 5) (A.1 0) N)) (pc' := 50) (g_d dtbX10_boiler_0 24 rfl) gf_X10_149 (by decide) rfl (congrArg iv (v4)) rfl ?_
        refine cz_istore (L' := [some (.ref 0), some (iv (b)), some (iv ((N : Int))), some (iv (c)), some (iv (rC (gA A) (A.1 5) (A.1 0) N)), none]) (pc' := 52) (g_d dtbX10_boiler_0 25 rfl) (by decide) rfl rfl ?_
        refine cz_aload_n (pc' := 53) (g_d dtbX10_boiler_0 26 rfl) rfl rfl ?_
        refine nz_getf (v := .ref 24) (pc' := 56) (g_d dtbX10_boiler_0 27 rfl) gf_X10_36 (by decide) rfl rfl rfl ?_
        refine cz_aload_n (pc' := 57) (g_d dtbX10_boiler_0 28 rfl) rfl rfl ?_
        refine nz_getf (v := .ref 1) (pc' := 60) (g_d dtbX10_boiler_0 29 rfl) gf_X10_10 (by decide) rfl rfl rfl ?_
        refine nz_getf (v := .ref 2) (pc' := 63) (g_d dtbX10_boiler_0 30 rfl) gf_X10_99 (by decide) rfl rfl rfl ?_
        refine nz_iconst (pc' := 64) (g_d dtbX10_boiler_0 31 rfl) rfl ?_
        refine nz_iald 0 (pc' := 65) (g_d dtbX10_boiler_0 32 rfl) (by decide) rfl (by omega) (by rfl) (by omega) rfl ?_
        rw [show V1 2 0 = A.1 0 from br1_fig (hC.br (hs_V1)) (by decide)]
        refine cz_iload_n (pc' := 66) (g_d dtbX10_boiler_0 33 rfl) rfl rfl ?_
        refine nz_isub (pc' := 67) (g_d dtbX10_boiler_0 34 rfl) rfl ?_
        refine cz_aload_n (pc' := 68) (g_d dtbX10_boiler_0 35 rfl) rfl rfl ?_
        refine nz_getf (v := .ref 1) (pc' := 71) (g_d dtbX10_boiler_0 36 rfl) gf_X10_10 (by decide) rfl rfl rfl ?_
        refine nz_getf (v := .ref 2) (pc' := 74) (g_d dtbX10_boiler_0 37 rfl) gf_X10_99 (by decide) rfl rfl rfl ?_
        refine nz_iconst (pc' := 75) (g_d dtbX10_boiler_0 38 rfl) rfl ?_
        refine nz_iald 5 (pc' := 76) (g_d dtbX10_boiler_0 39 rfl) (by decide) rfl (by omega) (by rfl) (by omega) rfl ?_
        rw [show V1 2 5 = A.1 5 from br1_fig (hC.br (hs_V1)) (by decide)]
        refine nz_cVv (M' := mX4_run) (k := 24) (As := [iv ((A.1 0) - b), iv (A.1 5)]) (S := []) (L := [some (.ref 0), some (iv (b)), some (iv ((N : Int))), some (iv (c)), some (iv (rC (gA A) (A.1 5) (A.1 0) N)), none]) (pc' := 79) (g_d dtbX10_boiler_0 40 rfl) lk_X10_199 okX4_run (by decide) rfl rfl rfl rfl (Nat.le_of_ble_eq_true rfl) (Nat.le_of_ble_eq_true rfl) (by decide) rfl (c_run G V1 N (A.1 5) ((A.1 0) - b) hl_V1.1 (by omega) (fun i hi => by rw [hl_V1.2 i hi]; have := gA_in hA i; omega) (by omega) (by omega)) ?_
        rintro V2 eV2
        have hs_V2 : Sc Z V2 := Sc.tr hs_V1 (eV2 ▸ zrun_sc)
        have hm_V2 : FM Z V2 := FM.tr hm_V1 (eV2 ▸ zrun_fm)
        have hl_V2 : LD V2 N (gA A) := eV2 ▸ zrun_ld hl_V1
        have q2 := run_sh (sp := A.1 5) (a := A.1 0 - b) hl_V1
        rw [eV2] at q2
        refine cz_aload_n (pc' := 80) (g_d dtbX10_boiler_0 41 rfl) rfl rfl ?_
        refine nz_getf (v := .ref 24) (pc' := 83) (g_d dtbX10_boiler_0 42 rfl) gf_X10_36 (by decide) rfl rfl rfl ?_
        refine nz_getf (v := iv (rC (gA A) (A.1 5) (A.1 0 - b) N)) (pc' := 86) (g_d dtbX10_boiler_0 43 rfl) gf_X10_149 (by decide) rfl (congrArg iv (q2.2.1)) rfl ?_
        refine cz_istore (L' := [some (.ref 0), some (iv (b)), some (iv ((N : Int))), some (iv (c)), some (iv (rC (gA A) (A.1 5) (A.1 0) N)), some (iv (rC (gA A) (A.1 5) (A.1 0 - b) N))]) (pc' := 88) (g_d dtbX10_boiler_0 44 rfl) (by decide) rfl rfl ?_
        refine cz_aload_n (pc' := 89) (g_d dtbX10_boiler_0 45 rfl) rfl rfl ?_
        refine cz_iload_n (pc' := 90) (g_d dtbX10_boiler_0 46 rfl) rfl rfl ?_
        refine cz_iload (pc' := 92) (g_d dtbX10_boiler_0 47 rfl) rfl rfl ?_
        refine nz_imul (pc' := 93) (g_d dtbX10_boiler_0 48 rfl) rfl ?_
        refine nz_bipush (pc' := 95) (g_d dtbX10_boiler_0 49 rfl) (by decide) rfl ?_
        refine cz_iload_n (pc' := 96) (g_d dtbX10_boiler_0 50 rfl) rfl rfl ?_
        refine nz_isub (pc' := 97) (g_d dtbX10_boiler_0 51 rfl) rfl ?_
        refine cz_iload (pc' := 99) (g_d dtbX10_boiler_0 52 rfl) rfl rfl ?_
        refine nz_imul (pc' := 100) (g_d dtbX10_boiler_0 53 rfl) rfl ?_
        refine nz_iadd (pc' := 101) (g_d dtbX10_boiler_0 54 rfl) rfl ?_
        rw [show c * rC (gA A) (A.1 5) (A.1 0 - b) N + (10 - c) * rC (gA A) (A.1 5) (A.1 0) N = tB A b c N from rfl]
        refine nz_cVv (M' := mX10_setTenths) (k := 0) (As := [iv (tB A b c N)]) (S := []) (L := [some (.ref 0), some (iv (b)), some (iv ((N : Int))), some (iv (c)), some (iv (rC (gA A) (A.1 5) (A.1 0) N)), some (iv (rC (gA A) (A.1 5) (A.1 0 - b) N))]) (pc' := 104) (g_d dtbX10_boiler_0 55 rfl) lk_X10_203 okX10_setTenths (by decide) rfl rfl rfl rfl (Nat.le_of_ble_eq_true rfl) (Nat.le_of_ble_eq_true rfl) (by decide) rfl (c_setTenths G V2 (tB A b c N) (tB_in (by omega) (by omega))) ?_
        rintro _ rfl
        refine nz_iconst (pc' := 105) (g_d dtbX10_boiler_0 56 rfl) rfl ?_
        refine nz_ri .int (g_d dtbX10_boiler_0 57 rfl) rfl rfl ?_
        rw [show xBoiler A b (N : Int) c = (1, sQ A (tB A b c N / cT (tB A b c N)) (10 / cT (tB A b c N))) from by unfold xBoiler; rw [if_pos (by omega), Int.toNat_natCast]]
        exact ⟨rfl, cs_q (hC.sc hs_V2), FM.u (FM.u hm_V2 (by decide)) (by decide)⟩
      · refine nz_if_ne_f (pc' := 31) (g_d dtbX10_boiler_0 14 rfl) (by omega) (by decide) rfl (by omega) ?_
        refine cz_aload_n (pc' := 32) (g_d dtbX10_boiler_0 15 rfl) rfl rfl ?_
        refine nz_bipush (pc' := 34) (g_d dtbX10_boiler_0 16 rfl) (by decide) rfl ?_
        refine nz_cVi (M' := mX10_refuseBad) (k := 0) (As := [iv (-2)]) (S := []) (L := [some (.ref 0), some (iv (b)), some (iv (m)), some (iv (c)), none, none]) (pc' := 37) (g_d dtbX10_boiler_0 17 rfl) lk_X10_57 okX10_refuseBad (by decide) rfl rfl rfl rfl (Nat.le_of_ble_eq_true rfl) (Nat.le_of_ble_eq_true rfl) (by decide) rfl (c_refuseBad G Z (-2)) ?_
        rintro _ _ ⟨rfl, rfl⟩
        refine nz_ri .int (g_d dtbX10_boiler_0 18 rfl) rfl rfl ?_
        rw [show xBoiler A b m c = (-2, aBad A) from if_neg (by omega)]
        exact ⟨rfl, cs_bad hC, (FM.u FM.rf (by decide))⟩
    · refine nz_if_eq_t (tgt := 31) (g_d dtbX10_boiler_0 9 rfl) (by omega) rfl (by omega) ?_
      refine cz_aload_n (pc' := 32) (g_d dtbX10_boiler_0 15 rfl) rfl rfl ?_
      refine nz_bipush (pc' := 34) (g_d dtbX10_boiler_0 16 rfl) (by decide) rfl ?_
      refine nz_cVi (M' := mX10_refuseBad) (k := 0) (As := [iv (-2)]) (S := []) (L := [some (.ref 0), some (iv (b)), some (iv (m)), some (iv (c)), none, none]) (pc' := 37) (g_d dtbX10_boiler_0 17 rfl) lk_X10_57 okX10_refuseBad (by decide) rfl rfl rfl rfl (Nat.le_of_ble_eq_true rfl) (Nat.le_of_ble_eq_true rfl) (by decide) rfl (c_refuseBad G Z (-2)) ?_
      rintro _ _ ⟨rfl, rfl⟩
      refine nz_ri .int (g_d dtbX10_boiler_0 18 rfl) rfl rfl ?_
      rw [show xBoiler A b m c = (-2, aBad A) from if_neg (by omega)]
      exact ⟨rfl, cs_bad hC, (FM.u FM.rf (by decide))⟩
  · refine nz_if_eq_t (tgt := 31) (g_d dtbX10_boiler_0 4 rfl) (by omega) rfl (by omega) ?_
    refine cz_aload_n (pc' := 32) (g_d dtbX10_boiler_0 15 rfl) rfl rfl ?_
    refine nz_bipush (pc' := 34) (g_d dtbX10_boiler_0 16 rfl) (by decide) rfl ?_
    refine nz_cVi (M' := mX10_refuseBad) (k := 0) (As := [iv (-2)]) (S := []) (L := [some (.ref 0), some (iv (b)), some (iv (m)), some (iv (c)), none, none]) (pc' := 37) (g_d dtbX10_boiler_0 17 rfl) lk_X10_57 okX10_refuseBad (by decide) rfl rfl rfl rfl (Nat.le_of_ble_eq_true rfl) (Nat.le_of_ble_eq_true rfl) (by decide) rfl (c_refuseBad G Z (-2)) ?_
    rintro _ _ ⟨rfl, rfl⟩
    refine nz_ri .int (g_d dtbX10_boiler_0 18 rfl) rfl rfl ?_
    rw [show xBoiler A b m c = (-2, aBad A) from if_neg (by omega)]
    exact ⟨rfl, cs_bad hC, (FM.u FM.rf (by decide))⟩

def ySd (s : Int) : Nat → Int
  | 0 => s
  | i + 1 => (ySd s i * 1103515245 + 12345) % 2147483648
def ySp (s : Int) : Row := fun i => ySd s (i + 1) / 65536 % 31
def xYears (A : AS) (s n : Int) : Int × AS := if (0 ≤ s ∧ s ≤ 999999) ∧ (0 ≤ n ∧ n ≤ 60) then (rL (fun i => gA A i + ySp s i) 0 (A.1 0) n.toNat, A) else (-100000, aBad A)
theorem ySd_in {s : Int} (hs : 0 ≤ s ∧ s ≤ 999999) : ∀ i, 0 ≤ ySd s i ∧ ySd s i ≤ 2147483647 := by
  intro i
  cases i with
  | zero => simp only [ySd]; omega
  | succ i => simp only [ySd]; omega
def gY (A : AS) (s : Int) (j : Nat) : Row := fun i => if i < j then gA A i + ySp s i else gA A i
theorem gY_in {B : Int} {A : AS} (h : AO B A) (s : Int) (j i : Nat) : -1000 ≤ gY A s j i ∧ gY A s j i ≤ 7030 := by
  have h1 := gA_in h i
  have h2 : 0 ≤ ySp s i ∧ ySp s i ≤ 30 := by unfold ySp; omega
  unfold gY
  split <;> omega
theorem ld_y {W : ZS} {A : AS} {s : Int} {j n : Nat} (h : LD W n (gY A s j)) (hj : j < n) : LD (zu W 32 j (W 32 j + ySp s j)) n (gY A s (j + 1)) := by
  refine ⟨by rw [zu_ne (by omega)]; exact h.1, fun i hi => ?_⟩
  by_cases e : i = j
  · subst e
    rw [zu_eq, h.2 i hi]
    simp [gY]
  · rw [zu_ne (Or.inr e), h.2 i hi]
    unfold gY
    by_cases q : i < j
    · rw [if_pos q, if_pos (by omega)]
    · rw [if_neg q, if_neg (by omega)]

set_option maxRecDepth 20000 in
set_option maxHeartbeats 4000000 in
theorem l_years (G : Wd) (Z : ZS) (A : AS) (B : Int) (hC : CS Z A) (hA : AO B A) (s : Int) (N : Nat) (hs : 0 ≤ s ∧ s ≤ 999999) (hN : N ≤ 60) : ∀ (d : Nat) (j : Nat) (W : ZS), N - j = d → j ≤ N → Sc Z W → FM Z W → LD W N (gY A s j) → Cn G mX10_years 45 [some (.ref 0), some (iv (s)), some (iv ((N : Int))), some (il (ySd s j)), none, some (iv ((j : Int)))] [] W (qi (fun r V => rL (fun i => gA A i + ySp s i) 0 (A.1 0) N = r ∧ CS V A ∧ FM Z V)) := by
  intro d
  induction d using Nat.strongRecOn with
  | ind d ih =>
    intro j W hd hj hs_W hm_W hl_W
    have hB := hC.1
    have hb0 := hA.1
    have hO := hA.2.1
    have h6 : 0 ≤ A.1 6 ∧ A.1 6 ≤ 7 := hO.2.1
    have h28 : 0 ≤ A.1 28 ∧ A.1 28 ≤ 6 := hO.2.2.2.1
    have h59 : 0 ≤ A.1 59 ∧ A.1 59 ≤ 8 := hO.2.2.2.2.2.1
    have hf := hO.1
    unfold FO at hf
    have hct := hA.2.2.2.2.2.2
    refine cz_iload (pc' := 47) (g_d dtbX10_years_0 25 rfl) rfl rfl ?_
    refine cz_iload_n (pc' := 48) (g_d dtbX10_years_0 26 rfl) rfl rfl ?_
    refine nz_icmp_ge (tgt := 90) (pc' := 51) (g_d dtbX10_years_0 27 rfl) (by omega) (by omega) rfl rfl (fun h48 => ?_) (fun h48 => ?_)
    · refine cz_aload_n (pc' := 91) (g_d dtbX10_years_0 48 rfl) rfl rfl ?_
      refine nz_getf (v := .ref 24) (pc' := 94) (g_d dtbX10_years_0 49 rfl) gf_X10_36 (by decide) rfl rfl rfl ?_
      refine cz_aload_n (pc' := 95) (g_d dtbX10_years_0 50 rfl) rfl rfl ?_
      refine nz_getf (v := .ref 1) (pc' := 98) (g_d dtbX10_years_0 51 rfl) gf_X10_10 (by decide) rfl rfl rfl ?_
      refine nz_getf (v := .ref 2) (pc' := 101) (g_d dtbX10_years_0 52 rfl) gf_X10_99 (by decide) rfl rfl rfl ?_
      refine nz_iconst (pc' := 102) (g_d dtbX10_years_0 53 rfl) rfl ?_
      refine nz_iald 0 (pc' := 103) (g_d dtbX10_years_0 54 rfl) (by decide) rfl (by omega) (by rfl) (by omega) rfl ?_
      rw [show W 2 0 = A.1 0 from br1_fig (hC.br hs_W) (by decide)]
      refine nz_iconst (pc' := 104) (g_d dtbX10_years_0 55 rfl) rfl ?_
      refine nz_cVv (M' := mX4_run) (k := 24) (As := [iv (A.1 0), iv 0]) (S := []) (L := [some (.ref 0), some (iv (s)), some (iv ((N : Int))), some (il (ySd s j)), none, some (iv ((j : Int)))]) (pc' := 107) (g_d dtbX10_years_0 56 rfl) lk_X10_199 okX4_run (by decide) rfl rfl rfl rfl (Nat.le_of_ble_eq_true rfl) (Nat.le_of_ble_eq_true rfl) (by decide) rfl (c_run G W N 0 (A.1 0) hl_W.1 (by omega) (fun i hi => by rw [hl_W.2 i hi]; have h1 := gY_in hA s j i; omega) (by omega) (by omega)) ?_
      rintro V eV
      have hjn : j = N := by omega
      subst hjn
      have q2 := run_sh (sp := 0) (a := A.1 0) hl_W
      rw [eV] at q2
      refine cz_aload_n (pc' := 108) (g_d dtbX10_years_0 57 rfl) rfl rfl ?_
      refine nz_getf (v := .ref 24) (pc' := 111) (g_d dtbX10_years_0 58 rfl) gf_X10_36 (by decide) rfl rfl rfl ?_
      refine nz_getf (v := iv (rL (gY A s j) 0 (A.1 0) j)) (pc' := 114) (g_d dtbX10_years_0 59 rfl) gf_X10_146 (by decide) rfl (congrArg iv (q2.1)) rfl ?_
      refine nz_ri .int (g_d dtbX10_years_1 0 rfl) rfl rfl ?_
      have em : rL (gY A s j) 0 (A.1 0) j = rL (fun i => gA A i + ySp s i) 0 (A.1 0) j := rL_ext (m := j) (fun i hi => by unfold gY; rw [if_pos hi]) j (Nat.le_refl _)
      rw [em]
      refine ⟨rfl, (hC.sc hs_W).sc (eV ▸ zrun_sc), FM.tr hm_W (eV ▸ zrun_fm)⟩
    · have hy := ySd_in hs j
      have hy1 := ySd_in hs (j + 1)
      refine cz_lload_n (pc' := 52) (g_d dtbX10_years_0 28 rfl) rfl rfl ?_
      refine nz_ldc2 (pc' := 55) (v := 1103515245) (g_d dtbX10_years_0 29 rfl) kn_X10_207 rfl ?_
      refine nz_lmul (pc' := 56) (g_d dtbX10_years_0 30 rfl) rfl ?_
      refine nz_ldc2 (pc' := 59) (v := 12345) (g_d dtbX10_years_0 31 rfl) kn_X10_209 rfl ?_
      refine nz_ladd (pc' := 60) (g_d dtbX10_years_0 32 rfl) rfl ?_
      refine nz_ldc2 (pc' := 63) (v := 2147483648) (g_d dtbX10_years_0 33 rfl) kn_X10_211 rfl ?_
      refine nz_lrem (pc' := 64) (g_d dtbX10_years_0 34 rfl) (by omega) (by omega) rfl ?_
      refine cz_lstore_n (L' := [some (.ref 0), some (iv (s)), some (iv ((N : Int))), some (il ((((ySd s j) * 1103515245) + 12345) % 2147483648)), none, some (iv ((j : Int)))]) (pc' := 65) (g_d dtbX10_years_0 35 rfl) (by decide) rfl rfl ?_
      rw [show (ySd s j * 1103515245 + 12345) % 2147483648 = ySd s (j + 1) from rfl]
      refine cz_aload_n (pc' := 66) (g_d dtbX10_years_0 36 rfl) rfl rfl ?_
      refine nz_getf (v := .ref 24) (pc' := 69) (g_d dtbX10_years_0 37 rfl) gf_X10_36 (by decide) rfl rfl rfl ?_
      refine cz_iload (pc' := 71) (g_d dtbX10_years_0 38 rfl) rfl rfl ?_
      refine cz_lload_n (pc' := 72) (g_d dtbX10_years_0 39 rfl) rfl rfl ?_
      refine nz_ldc2 (pc' := 75) (v := 65536) (g_d dtbX10_years_0 40 rfl) kn_X10_213 rfl ?_
      refine nz_ldiv (pc' := 76) (g_d dtbX10_years_0 41 rfl) (by omega) (by omega) rfl ?_
      refine nz_ldc2 (pc' := 79) (v := 31) (g_d dtbX10_years_0 42 rfl) kn_X10_215 rfl ?_
      refine nz_lrem (pc' := 80) (g_d dtbX10_years_0 43 rfl) (by omega) (by omega) rfl ?_
      refine nz_l2i (pc' := 81) (g_d dtbX10_years_0 44 rfl) (by omega) rfl ?_
      rw [show ySd s (j + 1) / 65536 % 31 = ySp s j from rfl]
      refine nz_cVv (M' := mX4_drawMore) (k := 24) (As := [iv ((j : Int)), iv (ySp s j)]) (S := []) (L := [some (.ref 0), some (iv (s)), some (iv ((N : Int))), some (il (ySd s (j + 1))), none, some (iv ((j : Int)))]) (pc' := 84) (g_d dtbX10_years_0 45 rfl) lk_X10_217 okX4_drawMore (by decide) rfl rfl rfl rfl (Nat.le_of_ble_eq_true rfl) (Nat.le_of_ble_eq_true rfl) (by decide) rfl (c_drawMore G W N j (ySp s j) hl_W.1 (by omega) (by omega)) ?_
      rintro _ rfl
      refine nz_iinc (L' := [some (.ref 0), some (iv (s)), some (iv ((N : Int))), some (il (ySd s (j + 1))), none, some (iv (((j : Int)) + 1))]) (pc' := 87) (g_d dtbX10_years_0 46 rfl) (by decide) rfl rfl rfl ?_
      refine cz_goto (pc' := 45) (g_d dtbX10_years_0 47 rfl) rfl ?_
      refine ih (N - (j + 1)) (by omega) (j + 1) (zu W 32 j (W 32 j + ySp s j)) rfl (by omega) (Sc.tr hs_W ⟨fun a ha => zu_row (by omega), by rw [zu_row (by omega)]⟩) (FM.u hm_W (by decide)) (ld_y hl_W (by omega))

set_option maxRecDepth 20000 in
set_option maxHeartbeats 4000000 in
theorem a_years (G : Wd) (Z : ZS) (A : AS) (B : Int) (hC : CS Z A) (hA : AO B A) (s n : Int) (hs : -2147483648 ≤ s ∧ s ≤ 2147483647) (hn : -2147483648 ≤ n ∧ n ≤ 2147483647) : Cn G mX10_years 0 [some (.ref 0), some (iv (s)), some (iv (n)), none, none, none] [] Z (qi (fun r W => (xYears A s n).1 = r ∧ CS W (xYears A s n).2 ∧ FM Z W)) := by
  have hB := hC.1
  have hb0 := hA.1
  have hO := hA.2.1
  have h6 : 0 ≤ A.1 6 ∧ A.1 6 ≤ 7 := hO.2.1
  have h28 : 0 ≤ A.1 28 ∧ A.1 28 ≤ 6 := hO.2.2.2.1
  have h59 : 0 ≤ A.1 59 ∧ A.1 59 ≤ 8 := hO.2.2.2.2.2.1
  have hf := hO.1
  unfold FO at hf
  have hct := hA.2.2.2.2.2.2
  refine cz_iload_n (pc' := 1) (g_d dtbX10_years_0 0 rfl) rfl rfl ?_
  refine nz_iconst (pc' := 2) (g_d dtbX10_years_0 1 rfl) rfl ?_
  refine nz_ldc (pc' := 4) (v := 999999) (g_d dtbX10_years_0 2 rfl) kn_X10_206 rfl ?_
  refine nz_cSi (M' := mX10_within) (As := [iv (s), iv 0, iv 999999]) (S := []) (L := [some (.ref 0), some (iv (s)), some (iv (n)), none, none, none]) (pc' := 7) (g_d dtbX10_years_0 3 rfl) lk_X10_53 okX10_within rfl rfl (Nat.le_of_ble_eq_true rfl) (Nat.le_of_ble_eq_true rfl) (by decide) rfl (c_within G Z s 0 999999 (by omega) (by omega) (by omega)) ?_
  rintro _ _ ⟨rfl, ⟨rfl, hw4⟩ | ⟨rfl, hw4⟩⟩
  · refine nz_if_eq_f (pc' := 10) (g_d dtbX10_years_0 4 rfl) (by omega) (by decide) rfl (by omega) ?_
    refine cz_iload_n (pc' := 11) (g_d dtbX10_years_0 5 rfl) rfl rfl ?_
    refine nz_iconst (pc' := 12) (g_d dtbX10_years_0 6 rfl) rfl ?_
    refine nz_bipush (pc' := 14) (g_d dtbX10_years_0 7 rfl) (by decide) rfl ?_
    refine nz_cSi (M' := mX10_within) (As := [iv (n), iv 0, iv 60]) (S := []) (L := [some (.ref 0), some (iv (s)), some (iv (n)), none, none, none]) (pc' := 17) (g_d dtbX10_years_0 8 rfl) lk_X10_53 okX10_within rfl rfl (Nat.le_of_ble_eq_true rfl) (Nat.le_of_ble_eq_true rfl) (by decide) rfl (c_within G Z n 0 60 (by omega) (by omega) (by omega)) ?_
    rintro _ _ ⟨rfl, ⟨rfl, hw14⟩ | ⟨rfl, hw14⟩⟩
    · refine nz_if_ne_t (tgt := 27) (g_d dtbX10_years_0 9 rfl) (by omega) rfl (by omega) ?_
      obtain ⟨N, rfl⟩ : ∃ N : Nat, n = (N : Int) := ⟨n.toNat, by omega⟩
      refine cz_aload_n (pc' := 28) (g_d dtbX10_years_0 14 rfl) rfl rfl ?_
      refine nz_getf (v := .ref 24) (pc' := 31) (g_d dtbX10_years_0 15 rfl) gf_X10_36 (by decide) rfl rfl rfl ?_
      refine cz_aload_n (pc' := 32) (g_d dtbX10_years_0 16 rfl) rfl rfl ?_
      refine nz_getf (v := .ref 1) (pc' := 35) (g_d dtbX10_years_0 17 rfl) gf_X10_10 (by decide) rfl rfl rfl ?_
      refine cz_iload_n (pc' := 36) (g_d dtbX10_years_0 18 rfl) rfl rfl ?_
      refine nz_cVv (M' := mX4_lay) (k := 24) (As := [.ref 1, iv ((N : Int))]) (S := []) (L := [some (.ref 0), some (iv (s)), some (iv ((N : Int))), none, none, none]) (pc' := 39) (g_d dtbX10_years_0 19 rfl) lk_X10_161 okX4_lay (by decide) rfl rfl rfl rfl (Nat.le_of_ble_eq_true rfl) (Nat.le_of_ble_eq_true rfl) (by decide) rfl (c_lay G Z N A.1 B hB hO (by omega) (by omega)) ?_
      rintro V1 e1
      have hs_V1 : Sc Z V1 := e1 ▸ zly_sc
      have hm_V1 : FM Z V1 := e1 ▸ zly_fm
      have hl_V1 : LD V1 N (gA A) := e1 ▸ zly_ld
      refine cz_iload_n (pc' := 40) (g_d dtbX10_years_0 20 rfl) rfl rfl ?_
      refine nz_i2l (pc' := 41) (g_d dtbX10_years_0 21 rfl) (by omega) rfl ?_
      refine cz_lstore_n (L' := [some (.ref 0), some (iv (s)), some (iv ((N : Int))), some (il (s)), none, none]) (pc' := 42) (g_d dtbX10_years_0 22 rfl) (by decide) rfl rfl ?_
      refine nz_iconst (pc' := 43) (g_d dtbX10_years_0 23 rfl) rfl ?_
      refine cz_istore (L' := [some (.ref 0), some (iv (s)), some (iv ((N : Int))), some (il (s)), none, some (iv 0)]) (pc' := 45) (g_d dtbX10_years_0 24 rfl) (by decide) rfl rfl ?_
      rw [show xYears A s (N : Int) = (rL (fun i => gA A i + ySp s i) 0 (A.1 0) N, A) from by unfold xYears; rw [if_pos (by omega), Int.toNat_natCast]]
      exact l_years G Z A B hC hA s N (by omega) (by omega) (N - 0) 0 V1 rfl (Nat.zero_le _) hs_V1 hm_V1 (hl_V1.ext (fun i hi => by simp [gY]))
    · refine nz_if_ne_f (pc' := 20) (g_d dtbX10_years_0 9 rfl) (by omega) (by decide) rfl (by omega) ?_
      refine cz_aload_n (pc' := 21) (g_d dtbX10_years_0 10 rfl) rfl rfl ?_
      refine nz_ldc (pc' := 23) (v := -100000) (g_d dtbX10_years_0 11 rfl) kn_X10_142 rfl ?_
      refine nz_cVi (M' := mX10_refuseBad) (k := 0) (As := [iv (-100000)]) (S := []) (L := [some (.ref 0), some (iv (s)), some (iv (n)), none, none, none]) (pc' := 26) (g_d dtbX10_years_0 12 rfl) lk_X10_57 okX10_refuseBad (by decide) rfl rfl rfl rfl (Nat.le_of_ble_eq_true rfl) (Nat.le_of_ble_eq_true rfl) (by decide) rfl (c_refuseBad G Z (-100000)) ?_
      rintro _ _ ⟨rfl, rfl⟩
      refine nz_ri .int (g_d dtbX10_years_0 13 rfl) rfl rfl ?_
      rw [show xYears A s n = (-100000, aBad A) from if_neg (by omega)]
      exact ⟨rfl, cs_bad hC, (FM.u FM.rf (by decide))⟩
  · refine nz_if_eq_t (tgt := 20) (g_d dtbX10_years_0 4 rfl) (by omega) rfl (by omega) ?_
    refine cz_aload_n (pc' := 21) (g_d dtbX10_years_0 10 rfl) rfl rfl ?_
    refine nz_ldc (pc' := 23) (v := -100000) (g_d dtbX10_years_0 11 rfl) kn_X10_142 rfl ?_
    refine nz_cVi (M' := mX10_refuseBad) (k := 0) (As := [iv (-100000)]) (S := []) (L := [some (.ref 0), some (iv (s)), some (iv (n)), none, none, none]) (pc' := 26) (g_d dtbX10_years_0 12 rfl) lk_X10_57 okX10_refuseBad (by decide) rfl rfl rfl rfl (Nat.le_of_ble_eq_true rfl) (Nat.le_of_ble_eq_true rfl) (by decide) rfl (c_refuseBad G Z (-100000)) ?_
    rintro _ _ ⟨rfl, rfl⟩
    refine nz_ri .int (g_d dtbX10_years_0 13 rfl) rfl rfl ?_
    rw [show xYears A s n = (-100000, aBad A) from if_neg (by omega)]
    exact ⟨rfl, cs_bad hC, (FM.u FM.rf (by decide))⟩
