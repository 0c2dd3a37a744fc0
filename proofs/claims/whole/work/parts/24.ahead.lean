/-! what is there, days ahead -/
def bN (A : AS) : Nat := (A.1 6).toNat
def gA (A : AS) : Row := drA A.1 (A.1 6).toNat
def xThen (A : AS) (m w : Int) : Int × AS := if (0 ≤ m ∧ m ≤ 99) ∧ (0 ≤ w ∧ w ≤ 1) then (if w = 0 then rL (gA A) (A.1 5) (A.1 0) m.toNat else rC (gA A) (A.1 5) (A.1 0) m.toNat, A) else (-100000, aBad A)
def xLow (A : AS) (m w : Int) : Int × AS := if (1 ≤ m ∧ m ≤ 99) ∧ (0 ≤ w ∧ w ≤ 1) then (if w = 0 then rM (gA A) (A.1 5) (A.1 0) m.toNat else rI (gA A) (A.1 5) (A.1 0) m.toNat, A) else (-100000, aBad A)
def xBelow (A : AS) : Int × AS := (rBl (gA A) (A.1 5) (A.1 0) 99, A)
def xMost (A : AS) (m : Int) : Int × AS := if 1 ≤ m ∧ m ≤ 99 then (if mS (gA A) (A.1 0) m.toNat < 0 then -1 else mS (gA A) (A.1 0) m.toNat, A) else (-2, aBad A)
def xNeed (A : AS) (m : Int) : Int × AS := if 1 ≤ m ∧ m ≤ 99 then (if 999 < lM (gA A) (A.1 5) (A.1 0) m.toNat then -1 else lM (gA A) (A.1 5) (A.1 0) m.toNat, A) else (-2, aBad A)
/-- only the first places of a row count -/
theorem rL_ext {g h : Row} {sp a : Int} {m : Nat} (e : ∀ i, i < m → g i = h i) : ∀ i, i ≤ m → rL g sp a i = rL h sp a i := by
  intro i
  induction i with
  | zero => intro _; rfl
  | succ i ih => intro hi; simp only [rL]; rw [ih (by omega), e i (by omega)]
theorem rC_ext {g h : Row} {sp a : Int} {m : Nat} (e : ∀ i, i < m → g i = h i) : ∀ i, i ≤ m → rC g sp a i = rC h sp a i := by
  intro i
  induction i with
  | zero => intro _; rfl
  | succ i ih => intro hi; simp only [rC]; rw [ih (by omega), e i (by omega), rL_ext e i (by omega)]
theorem rBl_ext {g h : Row} {sp a : Int} {m : Nat} (e : ∀ i, i < m → g i = h i) : ∀ i, i ≤ m → rBl g sp a i = rBl h sp a i := by
  intro i
  induction i with
  | zero => intro _; rfl
  | succ i ih => intro hi; simp only [rBl]; rw [ih (by omega), e i (by omega), rL_ext e i (by omega)]
theorem rM_ext {g h : Row} {sp a : Int} {m : Nat} (e : ∀ i, i < m → g i = h i) : ∀ i, i ≤ m → rM g sp a i = rM h sp a i := by
  intro i
  induction i with
  | zero => intro _; rfl
  | succ i ih => intro hi; simp only [rM]; rw [ih (by omega), rL_ext e (i + 1) hi]
theorem rI_ext {g h : Row} {sp a : Int} {m : Nat} (e : ∀ i, i < m → g i = h i) : ∀ i, i ≤ m → rI g sp a i = rI h sp a i := by
  intro i
  induction i with
  | zero => intro _; rfl
  | succ i ih => intro hi; simp only [rI]; rw [ih (by omega), rL_ext e (i + 1) hi, rM_ext e i (by omega)]
theorem sS_ext {g h : Row} {a : Int} {m : Nat} (e : ∀ i, i < m → g i = h i) : ∀ i, i ≤ m → sS g a i = sS h a i := by
  intro i
  induction i with
  | zero => intro _; rfl
  | succ i ih => intro hi; simp only [sS]; rw [ih (by omega), e i (by omega)]
theorem mS_ext {g h : Row} {a : Int} {m : Nat} (e : ∀ i, i < m → g i = h i) : ∀ i, i ≤ m → mS g a i = mS h a i := by
  intro i
  induction i with
  | zero => intro _; rfl
  | succ i ih => intro hi; simp only [mS]; rw [ih (by omega), e i (by omega), sS_ext e i (by omega)]
theorem sP_ext {g h : Row} {sp a : Int} {m : Nat} (e : ∀ i, i < m → g i = h i) : ∀ i, i ≤ m → sP g sp a i = sP h sp a i := by
  intro i
  induction i with
  | zero => intro _; rfl
  | succ i ih => intro hi; simp only [sP]; rw [ih (by omega), e i (by omega)]
theorem lM_ext {g h : Row} {sp a : Int} {m : Nat} (e : ∀ i, i < m → g i = h i) : ∀ i, i ≤ m → lM g sp a i = lM h sp a i := by
  intro i
  induction i with
  | zero => intro _; rfl
  | succ i ih => intro hi; simp only [lM]; rw [ih (by omega), e i (by omega), sP_ext e i (by omega)]
/-- laid: m days, g on each -/
def LD (W : ZS) (m : Nat) (g : Row) : Prop := W 24 2 = (m : Int) ∧ ∀ i, i < m → W 32 i = g i
theorem zly_ld {Z : ZS} {f : Row} {m n : Nat} : LD (zly Z f m n) m (drA f n) := ⟨by simp [zly, zr, zu], fun i hi => by simp [zly, zr, hi]⟩
theorem zly_sc {Z : ZS} {f : Row} {m n : Nat} : Sc Z (zly Z f m n) := ⟨fun a ha => by rw [zly, zr_ne (by omega), zu_row (by omega)], by rw [zly, zr_ne (by omega), zu_row (by omega)]⟩
theorem zly_fm {Z : ZS} {f : Row} {m n : Nat} : FM Z (zly Z f m n) := fun a ha => by rw [zly, zr_ne (by omega), zu_row (by omega)]
theorem zrun_sc {Z : ZS} {sp a : Int} {m : Nat} : Sc Z (zrun Z sp a m) := ⟨fun b hb => z5_row (by omega), by rw [zrun, z5_row (by omega)]⟩
theorem zrun_fm {Z : ZS} {sp a : Int} {m : Nat} : FM Z (zrun Z sp a m) := fun b hb => z5_row (by omega)
theorem zrun_ld {Z : ZS} {sp a : Int} {m n : Nat} {g : Row} (h : LD Z n g) : LD (zrun Z sp a m) n g := ⟨by simp [zrun, z5]; exact h.1, fun i hi => by rw [zrun, z5_row (by omega)]; exact h.2 i hi⟩
theorem CS.br {Z W : ZS} {A : AS} (h : CS Z A) (s : Sc Z W) : BR W 1 A.1 := (h.sc s).1
theorem gA_in {B : Int} {A : AS} (h : AO B A) (i : Nat) : -1000 ≤ gA A i ∧ gA A i ≤ 7000 := by
  have h6 := h.2.1.2.1
  have := drA_in h.2.1 i (A.1 6).toNat (by omega) (by omega)
  unfold gA
  omega

/-- what a run over what is laid shows -/
theorem run_sh {Z : ZS} {sp a : Int} {m : Nat} {g : Row} (h : LD Z m g) : zrun Z sp a m 24 3 = rL g sp a m ∧ zrun Z sp a m 24 4 = rC g sp a m ∧ zrun Z sp a m 24 5 = rM g sp a m ∧ zrun Z sp a m 24 6 = rI g sp a m ∧ zrun Z sp a m 24 7 = rBl g sp a m := by
  have e : ∀ i, i < m → Z 32 i = g i := h.2
  refine ⟨rL_ext e m (Nat.le_refl _), rC_ext e m (Nat.le_refl _), rM_ext e m (Nat.le_refl _), rI_ext e m (Nat.le_refl _), rBl_ext e m (Nat.le_refl _)⟩

set_option maxRecDepth 20000 in
set_option maxHeartbeats 4000000 in
theorem c_foresee (G : Wd) (Z : ZS) (A : AS) (B : Int) (hC : CS Z A) (hA : AO B A) (m : Nat) (hm : m ≤ 99) : Cn G mX10_foresee 0 [some (.ref 0), some (iv ((m : Int)))] [] Z (qv (fun W => (W 24 3 = rL (gA A) (A.1 5) (A.1 0) m ∧ W 24 4 = rC (gA A) (A.1 5) (A.1 0) m ∧ W 24 5 = rM (gA A) (A.1 5) (A.1 0) m ∧ W 24 6 = rI (gA A) (A.1 5) (A.1 0) m ∧ W 24 7 = rBl (gA A) (A.1 5) (A.1 0) m) ∧ Sc Z W ∧ FM Z W ∧ LD W m (gA A))) := by
  have hB := hC.1
  have hb0 := hA.1
  have hO := hA.2.1
  have h6 : 0 ≤ A.1 6 ∧ A.1 6 ≤ 7 := hO.2.1
  have h28 : 0 ≤ A.1 28 ∧ A.1 28 ≤ 6 := hO.2.2.2.1
  have h59 : 0 ≤ A.1 59 ∧ A.1 59 ≤ 8 := hO.2.2.2.2.2.1
  have hf := hO.1
  unfold FO at hf
  have hct := hA.2.2.2.2.2.2
  refine cz_aload_n (pc' := 1) (g_d dtbX10_foresee_0 0 rfl) rfl rfl ?_
  refine nz_getf (v := .ref 24) (pc' := 4) (g_d dtbX10_foresee_0 1 rfl) gf_X10_36 (by decide) rfl rfl rfl ?_
  refine cz_aload_n (pc' := 5) (g_d dtbX10_foresee_0 2 rfl) rfl rfl ?_
  refine nz_getf (v := .ref 1) (pc' := 8) (g_d dtbX10_foresee_0 3 rfl) gf_X10_10 (by decide) rfl rfl rfl ?_
  refine cz_iload_n (pc' := 9) (g_d dtbX10_foresee_0 4 rfl) rfl rfl ?_
  refine nz_cVv (M' := mX4_lay) (k := 24) (As := [.ref 1, iv ((m : Int))]) (S := []) (L := [some (.ref 0), some (iv ((m : Int)))]) (pc' := 12) (g_d dtbX10_foresee_0 5 rfl) lk_X10_161 okX4_lay (by decide) rfl rfl rfl rfl (Nat.le_of_ble_eq_true rfl) (Nat.le_of_ble_eq_true rfl) (by decide) rfl (c_lay G Z m A.1 B hB hO (by omega) (by omega)) ?_
  rintro V1 e1
  have hs_V1 : Sc Z V1 := e1 ▸ zly_sc
  have hm_V1 : FM Z V1 := e1 ▸ zly_fm
  have hl_V1 : LD V1 m (gA A) := e1 ▸ zly_ld
  refine cz_aload_n (pc' := 13) (g_d dtbX10_foresee_0 6 rfl) rfl rfl ?_
  refine nz_getf (v := .ref 24) (pc' := 16) (g_d dtbX10_foresee_0 7 rfl) gf_X10_36 (by decide) rfl rfl rfl ?_
  refine cz_aload_n (pc' := 17) (g_d dtbX10_foresee_0 8 rfl) rfl rfl ?_
  refine nz_getf (v := .ref 1) (pc' := 20) (g_d dtbX10_foresee_0 9 rfl) gf_X10_10 (by decide) rfl rfl rfl ?_
  refine nz_getf (v := .ref 2) (pc' := 23) (g_d dtbX10_foresee_0 10 rfl) gf_X10_99 (by decide) rfl rfl rfl ?_
  refine nz_iconst (pc' := 24) (g_d dtbX10_foresee_0 11 rfl) rfl ?_
  refine nz_iald 0 (pc' := 25) (g_d dtbX10_foresee_0 12 rfl) (by decide) rfl (by omega) (by rfl) (by omega) rfl ?_
  rw [show V1 2 0 = A.1 0 from br1_fig (hC.br (hs_V1)) (by decide)]
  refine cz_aload_n (pc' := 26) (g_d dtbX10_foresee_0 13 rfl) rfl rfl ?_
  refine nz_getf (v := .ref 1) (pc' := 29) (g_d dtbX10_foresee_0 14 rfl) gf_X10_10 (by decide) rfl rfl rfl ?_
  refine nz_getf (v := .ref 2) (pc' := 32) (g_d dtbX10_foresee_0 15 rfl) gf_X10_99 (by decide) rfl rfl rfl ?_
  refine nz_iconst (pc' := 33) (g_d dtbX10_foresee_0 16 rfl) rfl ?_
  refine nz_iald 5 (pc' := 34) (g_d dtbX10_foresee_0 17 rfl) (by decide) rfl (by omega) (by rfl) (by omega) rfl ?_
  rw [show V1 2 5 = A.1 5 from br1_fig (hC.br (hs_V1)) (by decide)]
  refine nz_cVv (M' := mX4_run) (k := 24) (As := [iv (A.1 0), iv (A.1 5)]) (S := []) (L := [some (.ref 0), some (iv ((m : Int)))]) (pc' := 37) (g_d dtbX10_foresee_0 18 rfl) lk_X10_199 okX4_run (by decide) rfl rfl rfl rfl (Nat.le_of_ble_eq_true rfl) (Nat.le_of_ble_eq_true rfl) (by decide) rfl (c_run G V1 m (A.1 5) (A.1 0) hl_V1.1 (by omega) (fun i hi => by rw [hl_V1.2 i hi]; have := gA_in hA i; omega) (by omega) (by omega)) ?_
  rintro V2 eV2
  have hs_V2 : Sc Z V2 := Sc.tr hs_V1 (eV2 ▸ zrun_sc)
  have hm_V2 : FM Z V2 := FM.tr hm_V1 (eV2 ▸ zrun_fm)
  have hl_V2 : LD V2 m (gA A) := eV2 ▸ zrun_ld hl_V1
  refine nz_rv (g_d dtbX10_foresee_0 19 rfl) rfl ?_
  have q := run_sh (sp := A.1 5) (a := A.1 0) hl_V1
  rw [eV2] at q
  exact ⟨q, hs_V2, hm_V2, hl_V2⟩

set_option maxRecDepth 20000 in
set_option maxHeartbeats 4000000 in
theorem a_then (G : Wd) (Z : ZS) (A : AS) (B : Int) (hC : CS Z A) (hA : AO B A) (m w : Int) (hm : -2147483648 ≤ m ∧ m ≤ 2147483647) (hw : -2147483648 ≤ w ∧ w ≤ 2147483647) : Cn G mX10_then 0 [some (.ref 0), some (iv (m)), some (iv (w))] [] Z (qi (fun r W => (xThen A m w).1 = r ∧ CS W (xThen A m w).2 ∧ FM Z W)) := by
  have hB := hC.1
  have hb0 := hA.1
  have hO := hA.2.1
  have h6 : 0 ≤ A.1 6 ∧ A.1 6 ≤ 7 := hO.2.1
  have h28 : 0 ≤ A.1 28 ∧ A.1 28 ≤ 6 := hO.2.2.2.1
  have h59 : 0 ≤ A.1 59 ∧ A.1 59 ≤ 8 := hO.2.2.2.2.2.1
  have hf := hO.1
  unfold FO at hf
  have hct := hA.2.2.2.2.2.2
  refine cz_iload_n (pc' := 1) (g_d dtbX10_then_0 0 rfl) rfl rfl ?_
  refine nz_iconst (pc' := 2) (g_d dtbX10_then_0 1 rfl) rfl ?_
  refine nz_bipush (pc' := 4) (g_d dtbX10_then_0 2 rfl) (by decide) rfl ?_
  refine nz_cSi (M' := mX10_within) (As := [iv (m), iv 0, iv 99]) (S := []) (L := [some (.ref 0), some (iv (m)), some (iv (w))]) (pc' := 7) (g_d dtbX10_then_0 3 rfl) lk_X10_53 okX10_within rfl rfl (Nat.le_of_ble_eq_true rfl) (Nat.le_of_ble_eq_true rfl) (by decide) rfl (c_within G Z m 0 99 (by omega) (by omega) (by omega)) ?_
  rintro _ _ ⟨rfl, ⟨rfl, hw4⟩ | ⟨rfl, hw4⟩⟩
  · refine nz_if_eq_f (pc' := 10) (g_d dtbX10_then_0 4 rfl) (by omega) (by decide) rfl (by omega) ?_
    refine cz_iload_n (pc' := 11) (g_d dtbX10_then_0 5 rfl) rfl rfl ?_
    refine nz_iconst (pc' := 12) (g_d dtbX10_then_0 6 rfl) rfl ?_
    refine nz_iconst (pc' := 13) (g_d dtbX10_then_0 7 rfl) rfl ?_
    refine nz_cSi (M' := mX10_within) (As := [iv (w), iv 0, iv 1]) (S := []) (L := [some (.ref 0), some (iv (m)), some (iv (w))]) (pc' := 16) (g_d dtbX10_then_0 8 rfl) lk_X10_53 okX10_within rfl rfl (Nat.le_of_ble_eq_true rfl) (Nat.le_of_ble_eq_true rfl) (by decide) rfl (c_within G Z w 0 1 (by omega) (by omega) (by omega)) ?_
    rintro _ _ ⟨rfl, ⟨rfl, hw13⟩ | ⟨rfl, hw13⟩⟩
    · refine nz_if_ne_t (tgt := 26) (g_d dtbX10_then_0 9 rfl) (by omega) rfl (by omega) ?_
      obtain ⟨N, rfl⟩ : ∃ N : Nat, m = (N : Int) := ⟨m.toNat, by omega⟩
      refine cz_aload_n (pc' := 27) (g_d dtbX10_then_0 14 rfl) rfl rfl ?_
      refine cz_iload_n (pc' := 28) (g_d dtbX10_then_0 15 rfl) rfl rfl ?_
      refine nz_cVv (M' := mX10_foresee) (k := 0) (As := [iv ((N : Int))]) (S := []) (L := [some (.ref 0), some (iv ((N : Int))), some (iv (w))]) (pc' := 31) (g_d dtbX10_then_0 16 rfl) lk_X10_143 okX10_foresee (by decide) rfl rfl rfl rfl (Nat.le_of_ble_eq_true rfl) (Nat.le_of_ble_eq_true rfl) (by decide) rfl (c_foresee G Z A B hC hA N (by omega)) ?_
      rintro V1 ⟨⟨v3, v4, v5, v6, v7⟩, hs_V1, hm_V1, hl_V1⟩
      refine cz_iload_n (pc' := 32) (g_d dtbX10_then_0 17 rfl) rfl rfl ?_
      refine nz_if_ne (tgt := 45) (pc' := 35) (g_d dtbX10_then_0 18 rfl) (by omega) rfl rfl (fun h32 => ?_) (fun h32 => ?_)
      · refine cz_aload_n (pc' := 46) (g_d dtbX10_then_0 23 rfl) rfl rfl ?_
        refine nz_getf (v := .ref 24) (pc' := 49) (g_d dtbX10_then_0 24 rfl) gf_X10_36 (by decide) rfl rfl rfl ?_
        refine nz_getf (v := iv (rC (gA A) (A.1 5) (A.1 0) N)) (pc' := 52) (g_d dtbX10_then_0 25 rfl) gf_X10_149 (by decide) rfl (congrArg iv (v4)) rfl ?_
        refine nz_ri .int (g_d dtbX10_then_0 26 rfl) rfl rfl ?_
        rw [show xThen A (N : Int) w = (rC (gA A) (A.1 5) (A.1 0) N, A) from by unfold xThen; rw [if_pos (by omega), if_neg (by omega), Int.toNat_natCast]]
        exact ⟨rfl, hC.sc hs_V1, hm_V1⟩
      · refine cz_aload_n (pc' := 36) (g_d dtbX10_then_0 19 rfl) rfl rfl ?_
        refine nz_getf (v := .ref 24) (pc' := 39) (g_d dtbX10_then_0 20 rfl) gf_X10_36 (by decide) rfl rfl rfl ?_
        refine nz_getf (v := iv (rL (gA A) (A.1 5) (A.1 0) N)) (pc' := 42) (g_d dtbX10_then_0 21 rfl) gf_X10_146 (by decide) rfl (congrArg iv (v3)) rfl ?_
        refine cz_goto (pc' := 52) (g_d dtbX10_then_0 22 rfl) rfl ?_
        refine nz_ri .int (g_d dtbX10_then_0 26 rfl) rfl rfl ?_
        rw [show xThen A (N : Int) w = (rL (gA A) (A.1 5) (A.1 0) N, A) from by unfold xThen; rw [if_pos (by omega), if_pos (by omega), Int.toNat_natCast]]
        exact ⟨rfl, hC.sc hs_V1, hm_V1⟩
    · refine nz_if_ne_f (pc' := 19) (g_d dtbX10_then_0 9 rfl) (by omega) (by decide) rfl (by omega) ?_
      refine cz_aload_n (pc' := 20) (g_d dtbX10_then_0 10 rfl) rfl rfl ?_
      refine nz_ldc (pc' := 22) (v := -100000) (g_d dtbX10_then_0 11 rfl) kn_X10_142 rfl ?_
      refine nz_cVi (M' := mX10_refuseBad) (k := 0) (As := [iv (-100000)]) (S := []) (L := [some (.ref 0), some (iv (m)), some (iv (w))]) (pc' := 25) (g_d dtbX10_then_0 12 rfl) lk_X10_57 okX10_refuseBad (by decide) rfl rfl rfl rfl (Nat.le_of_ble_eq_true rfl) (Nat.le_of_ble_eq_true rfl) (by decide) rfl (c_refuseBad G Z (-100000)) ?_
      rintro _ _ ⟨rfl, rfl⟩
      refine nz_ri .int (g_d dtbX10_then_0 13 rfl) rfl rfl ?_
      rw [show xThen A m w = (-100000, aBad A) from if_neg (by omega)]
      exact ⟨rfl, cs_bad hC, (FM.u FM.rf (by decide))⟩
  · refine nz_if_eq_t (tgt := 19) (g_d dtbX10_then_0 4 rfl) (by omega) rfl (by omega) ?_
    refine cz_aload_n (pc' := 20) (g_d dtbX10_then_0 10 rfl) rfl rfl ?_
    refine nz_ldc (pc' := 22) (v := -100000) (g_d dtbX10_then_0 11 rfl) kn_X10_142 rfl ?_
    refine nz_cVi (M' := mX10_refuseBad) (k := 0) (As := [iv (-100000)]) (S := []) (L := [some (.ref 0), some (iv (m)), some (iv (w))]) (pc' := 25) (g_d dtbX10_then_0 12 rfl) lk_X10_57 okX10_refuseBad (by decide) rfl rfl rfl rfl (Nat.le_of_ble_eq_true rfl) (Nat.le_of_ble_eq_true rfl) (by decide) rfl (c_refuseBad G Z (-100000)) ?_
    rintro _ _ ⟨rfl, rfl⟩
    refine nz_ri .int (g_d dtbX10_then_0 13 rfl) rfl rfl ?_
    rw [show xThen A m w = (-100000, aBad A) from if_neg (by omega)]
    exact ⟨rfl, cs_bad hC, (FM.u FM.rf (by decide))⟩

set_option maxRecDepth 20000 in
set_option maxHeartbeats 4000000 in
theorem a_low (G : Wd) (Z : ZS) (A : AS) (B : Int) (hC : CS Z A) (hA : AO B A) (m w : Int) (hm : -2147483648 ≤ m ∧ m ≤ 2147483647) (hw : -2147483648 ≤ w ∧ w ≤ 2147483647) : Cn G mX10_low 0 [some (.ref 0), some (iv (m)), some (iv (w))] [] Z (qi (fun r W => (xLow A m w).1 = r ∧ CS W (xLow A m w).2 ∧ FM Z W)) := by
  have hB := hC.1
  have hb0 := hA.1
  have hO := hA.2.1
  have h6 : 0 ≤ A.1 6 ∧ A.1 6 ≤ 7 := hO.2.1
  have h28 : 0 ≤ A.1 28 ∧ A.1 28 ≤ 6 := hO.2.2.2.1
  have h59 : 0 ≤ A.1 59 ∧ A.1 59 ≤ 8 := hO.2.2.2.2.2.1
  have hf := hO.1
  unfold FO at hf
  have hct := hA.2.2.2.2.2.2
  refine cz_iload_n (pc' := 1) (g_d dtbX10_low_0 0 rfl) rfl rfl ?_
  refine nz_iconst (pc' := 2) (g_d dtbX10_low_0 1 rfl) rfl ?_
  refine nz_bipush (pc' := 4) (g_d dtbX10_low_0 2 rfl) (by decide) rfl ?_
  refine nz_cSi (M' := mX10_within) (As := [iv (m), iv 1, iv 99]) (S := []) (L := [some (.ref 0), some (iv (m)), some (iv (w))]) (pc' := 7) (g_d dtbX10_low_0 3 rfl) lk_X10_53 okX10_within rfl rfl (Nat.le_of_ble_eq_true rfl) (Nat.le_of_ble_eq_true rfl) (by decide) rfl (c_within G Z m 1 99 (by omega) (by omega) (by omega)) ?_
  rintro _ _ ⟨rfl, ⟨rfl, hw4⟩ | ⟨rfl, hw4⟩⟩
  · refine nz_if_eq_f (pc' := 10) (g_d dtbX10_low_0 4 rfl) (by omega) (by decide) rfl (by omega) ?_
    refine cz_iload_n (pc' := 11) (g_d dtbX10_low_0 5 rfl) rfl rfl ?_
    refine nz_iconst (pc' := 12) (g_d dtbX10_low_0 6 rfl) rfl ?_
    refine nz_iconst (pc' := 13) (g_d dtbX10_low_0 7 rfl) rfl ?_
    refine nz_cSi (M' := mX10_within) (As := [iv (w), iv 0, iv 1]) (S := []) (L := [some (.ref 0), some (iv (m)), some (iv (w))]) (pc' := 16) (g_d dtbX10_low_0 8 rfl) lk_X10_53 okX10_within rfl rfl (Nat.le_of_ble_eq_true rfl) (Nat.le_of_ble_eq_true rfl) (by decide) rfl (c_within G Z w 0 1 (by omega) (by omega) (by omega)) ?_
    rintro _ _ ⟨rfl, ⟨rfl, hw13⟩ | ⟨rfl, hw13⟩⟩
    · refine nz_if_ne_t (tgt := 26) (g_d dtbX10_low_0 9 rfl) (by omega) rfl (by omega) ?_
      obtain ⟨N, rfl⟩ : ∃ N : Nat, m = (N : Int) := ⟨m.toNat, by omega⟩
      refine cz_aload_n (pc' := 27) (g_d dtbX10_low_0 14 rfl) rfl rfl ?_
      refine cz_iload_n (pc' := 28) (g_d dtbX10_low_0 15 rfl) rfl rfl ?_
      refine nz_cVv (M' := mX10_foresee) (k := 0) (As := [iv ((N : Int))]) (S := []) (L := [some (.ref 0), some (iv ((N : Int))), some (iv (w))]) (pc' := 31) (g_d dtbX10_low_0 16 rfl) lk_X10_143 okX10_foresee (by decide) rfl rfl rfl rfl (Nat.le_of_ble_eq_true rfl) (Nat.le_of_ble_eq_true rfl) (by decide) rfl (c_foresee G Z A B hC hA N (by omega)) ?_
      rintro V1 ⟨⟨v3, v4, v5, v6, v7⟩, hs_V1, hm_V1, hl_V1⟩
      refine cz_iload_n (pc' := 32) (g_d dtbX10_low_0 17 rfl) rfl rfl ?_
      refine nz_if_ne (tgt := 45) (pc' := 35) (g_d dtbX10_low_0 18 rfl) (by omega) rfl rfl (fun h32 => ?_) (fun h32 => ?_)
      · refine cz_aload_n (pc' := 46) (g_d dtbX10_low_0 23 rfl) rfl rfl ?_
        refine nz_getf (v := .ref 24) (pc' := 49) (g_d dtbX10_low_0 24 rfl) gf_X10_36 (by decide) rfl rfl rfl ?_
        refine nz_getf (v := iv (rI (gA A) (A.1 5) (A.1 0) N)) (pc' := 52) (g_d dtbX10_low_0 25 rfl) gf_X10_155 (by decide) rfl (congrArg iv (v6)) rfl ?_
        refine nz_ri .int (g_d dtbX10_low_0 26 rfl) rfl rfl ?_
        rw [show xLow A (N : Int) w = (rI (gA A) (A.1 5) (A.1 0) N, A) from by unfold xLow; rw [if_pos (by omega), if_neg (by omega), Int.toNat_natCast]]
        exact ⟨rfl, hC.sc hs_V1, hm_V1⟩
      · refine cz_aload_n (pc' := 36) (g_d dtbX10_low_0 19 rfl) rfl rfl ?_
        refine nz_getf (v := .ref 24) (pc' := 39) (g_d dtbX10_low_0 20 rfl) gf_X10_36 (by decide) rfl rfl rfl ?_
        refine nz_getf (v := iv (rM (gA A) (A.1 5) (A.1 0) N)) (pc' := 42) (g_d dtbX10_low_0 21 rfl) gf_X10_152 (by decide) rfl (congrArg iv (v5)) rfl ?_
        refine cz_goto (pc' := 52) (g_d dtbX10_low_0 22 rfl) rfl ?_
        refine nz_ri .int (g_d dtbX10_low_0 26 rfl) rfl rfl ?_
        rw [show xLow A (N : Int) w = (rM (gA A) (A.1 5) (A.1 0) N, A) from by unfold xLow; rw [if_pos (by omega), if_pos (by omega), Int.toNat_natCast]]
        exact ⟨rfl, hC.sc hs_V1, hm_V1⟩
    · refine nz_if_ne_f (pc' := 19) (g_d dtbX10_low_0 9 rfl) (by omega) (by decide) rfl (by omega) ?_
      refine cz_aload_n (pc' := 20) (g_d dtbX10_low_0 10 rfl) rfl rfl ?_
      refine nz_ldc (pc' := 22) (v := -100000) (g_d dtbX10_low_0 11 rfl) kn_X10_142 rfl ?_
      refine nz_cVi (M' := mX10_refuseBad) (k := 0) (As := [iv (-100000)]) (S := []) (L := [some (.ref 0), some (iv (m)), some (iv (w))]) (pc' := 25) (g_d dtbX10_low_0 12 rfl) lk_X10_57 okX10_refuseBad (by decide) rfl rfl rfl rfl (Nat.le_of_ble_eq_true rfl) (Nat.le_of_ble_eq_true rfl) (by decide) rfl (c_refuseBad G Z (-100000)) ?_
      rintro _ _ ⟨rfl, rfl⟩
      refine nz_ri .int (g_d dtbX10_low_0 13 rfl) rfl rfl ?_
      rw [show xLow A m w = (-100000, aBad A) from if_neg (by omega)]
      exact ⟨rfl, cs_bad hC, (FM.u FM.rf (by decide))⟩
  · refine nz_if_eq_t (tgt := 19) (g_d dtbX10_low_0 4 rfl) (by omega) rfl (by omega) ?_
    refine cz_aload_n (pc' := 20) (g_d dtbX10_low_0 10 rfl) rfl rfl ?_
    refine nz_ldc (pc' := 22) (v := -100000) (g_d dtbX10_low_0 11 rfl) kn_X10_142 rfl ?_
    refine nz_cVi (M' := mX10_refuseBad) (k := 0) (As := [iv (-100000)]) (S := []) (L := [some (.ref 0), some (iv (m)), some (iv (w))]) (pc' := 25) (g_d dtbX10_low_0 12 rfl) lk_X10_57 okX10_refuseBad (by decide) rfl rfl rfl rfl (Nat.le_of_ble_eq_true rfl) (Nat.le_of_ble_eq_true rfl) (by decide) rfl (c_refuseBad G Z (-100000)) ?_
    rintro _ _ ⟨rfl, rfl⟩
    refine nz_ri .int (g_d dtbX10_low_0 13 rfl) rfl rfl ?_
    rw [show xLow A m w = (-100000, aBad A) from if_neg (by omega)]
    exact ⟨rfl, cs_bad hC, (FM.u FM.rf (by decide))⟩

set_option maxRecDepth 20000 in
set_option maxHeartbeats 4000000 in
theorem a_below (G : Wd) (Z : ZS) (A : AS) (B : Int) (hC : CS Z A) (hA : AO B A) : Cn G mX10_below 0 [some (.ref 0)] [] Z (qi (fun r W => (xBelow A).1 = r ∧ CS W (xBelow A).2 ∧ FM Z W)) := by
  have hB := hC.1
  have hb0 := hA.1
  have hO := hA.2.1
  have h6 : 0 ≤ A.1 6 ∧ A.1 6 ≤ 7 := hO.2.1
  have h28 : 0 ≤ A.1 28 ∧ A.1 28 ≤ 6 := hO.2.2.2.1
  have h59 : 0 ≤ A.1 59 ∧ A.1 59 ≤ 8 := hO.2.2.2.2.2.1
  have hf := hO.1
  unfold FO at hf
  have hct := hA.2.2.2.2.2.2
  refine cz_aload_n (pc' := 1) (g_d dtbX10_below_0 0 rfl) rfl rfl ?_
  refine nz_bipush (pc' := 3) (g_d dtbX10_below_0 1 rfl) (by decide) rfl ?_
  refine nz_cVv (M' := mX10_foresee) (k := 0) (As := [iv 99]) (S := []) (L := [some (.ref 0)]) (pc' := 6) (g_d dtbX10_below_0 2 rfl) lk_X10_143 okX10_foresee (by decide) rfl rfl rfl rfl (Nat.le_of_ble_eq_true rfl) (Nat.le_of_ble_eq_true rfl) (by decide) rfl (c_foresee G Z A B hC hA 99 (by omega)) ?_
  rintro V1 ⟨⟨v3, v4, v5, v6, v7⟩, hs_V1, hm_V1, hl_V1⟩
  refine cz_aload_n (pc' := 7) (g_d dtbX10_below_0 3 rfl) rfl rfl ?_
  refine nz_getf (v := .ref 24) (pc' := 10) (g_d dtbX10_below_0 4 rfl) gf_X10_36 (by decide) rfl rfl rfl ?_
  refine nz_getf (v := iv (rBl (gA A) (A.1 5) (A.1 0) 99)) (pc' := 13) (g_d dtbX10_below_0 5 rfl) gf_X10_158 (by decide) rfl (congrArg iv (v7)) rfl ?_
  refine nz_ri .int (g_d dtbX10_below_0 6 rfl) rfl rfl ?_
  exact ⟨rfl, hC.sc hs_V1, hm_V1⟩

set_option maxRecDepth 20000 in
set_option maxHeartbeats 4000000 in
theorem a_most (G : Wd) (Z : ZS) (A : AS) (B : Int) (hC : CS Z A) (hA : AO B A) (m : Int) (hm : -2147483648 ≤ m ∧ m ≤ 2147483647) : Cn G mX10_most 0 [some (.ref 0), some (iv (m)), none] [] Z (qi (fun r W => (xMost A m).1 = r ∧ CS W (xMost A m).2 ∧ FM Z W)) := by
  have hB := hC.1
  have hb0 := hA.1
  have hO := hA.2.1
  have h6 : 0 ≤ A.1 6 ∧ A.1 6 ≤ 7 := hO.2.1
  have h28 : 0 ≤ A.1 28 ∧ A.1 28 ≤ 6 := hO.2.2.2.1
  have h59 : 0 ≤ A.1 59 ∧ A.1 59 ≤ 8 := hO.2.2.2.2.2.1
  have hf := hO.1
  unfold FO at hf
  have hct := hA.2.2.2.2.2.2
  refine cz_iload_n (pc' := 1) (g_d dtbX10_most_0 0 rfl) rfl rfl ?_
  refine nz_iconst (pc' := 2) (g_d dtbX10_most_0 1 rfl) rfl ?_
  refine nz_bipush (pc' := 4) (g_d dtbX10_most_0 2 rfl) (by decide) rfl ?_
  refine nz_cSi (M' := mX10_within) (As := [iv (m), iv 1, iv 99]) (S := []) (L := [some (.ref 0), some (iv (m)), none]) (pc' := 7) (g_d dtbX10_most_0 3 rfl) lk_X10_53 okX10_within rfl rfl (Nat.le_of_ble_eq_true rfl) (Nat.le_of_ble_eq_true rfl) (by decide) rfl (c_within G Z m 1 99 (by omega) (by omega) (by omega)) ?_
  rintro _ _ ⟨rfl, ⟨rfl, hw4⟩ | ⟨rfl, hw4⟩⟩
  · refine nz_if_ne_t (tgt := 17) (g_d dtbX10_most_0 4 rfl) (by omega) rfl (by omega) ?_
    obtain ⟨N, rfl⟩ : ∃ N : Nat, m = (N : Int) := ⟨m.toNat, by omega⟩
    refine cz_aload_n (pc' := 18) (g_d dtbX10_most_0 9 rfl) rfl rfl ?_
    refine nz_getf (v := .ref 24) (pc' := 21) (g_d dtbX10_most_0 10 rfl) gf_X10_36 (by decide) rfl rfl rfl ?_
    refine cz_aload_n (pc' := 22) (g_d dtbX10_most_0 11 rfl) rfl rfl ?_
    refine nz_getf (v := .ref 1) (pc' := 25) (g_d dtbX10_most_0 12 rfl) gf_X10_10 (by decide) rfl rfl rfl ?_
    refine cz_iload_n (pc' := 26) (g_d dtbX10_most_0 13 rfl) rfl rfl ?_
    refine nz_cVv (M' := mX4_lay) (k := 24) (As := [.ref 1, iv ((N : Int))]) (S := []) (L := [some (.ref 0), some (iv ((N : Int))), none]) (pc' := 29) (g_d dtbX10_most_0 14 rfl) lk_X10_161 okX4_lay (by decide) rfl rfl rfl rfl (Nat.le_of_ble_eq_true rfl) (Nat.le_of_ble_eq_true rfl) (by decide) rfl (c_lay G Z N A.1 B hB hO (by omega) (by omega)) ?_
    rintro V1 e1
    have hs_V1 : Sc Z V1 := e1 ▸ zly_sc
    have hm_V1 : FM Z V1 := e1 ▸ zly_fm
    have hl_V1 : LD V1 N (gA A) := e1 ▸ zly_ld
    refine cz_aload_n (pc' := 30) (g_d dtbX10_most_0 15 rfl) rfl rfl ?_
    refine nz_getf (v := .ref 24) (pc' := 33) (g_d dtbX10_most_0 16 rfl) gf_X10_36 (by decide) rfl rfl rfl ?_
    refine cz_aload_n (pc' := 34) (g_d dtbX10_most_0 17 rfl) rfl rfl ?_
    refine nz_getf (v := .ref 1) (pc' := 37) (g_d dtbX10_most_0 18 rfl) gf_X10_10 (by decide) rfl rfl rfl ?_
    refine nz_getf (v := .ref 2) (pc' := 40) (g_d dtbX10_most_0 19 rfl) gf_X10_99 (by decide) rfl rfl rfl ?_
    refine nz_iconst (pc' := 41) (g_d dtbX10_most_0 20 rfl) rfl ?_
    refine nz_iald 0 (pc' := 42) (g_d dtbX10_most_0 21 rfl) (by decide) rfl (by omega) (by rfl) (by omega) rfl ?_
    rw [show V1 2 0 = A.1 0 from br1_fig (hC.br (hs_V1)) (by decide)]
    refine nz_cVi (M' := mX4_mostSpending) (k := 24) (As := [iv (A.1 0)]) (S := []) (L := [some (.ref 0), some (iv ((N : Int))), none]) (pc' := 45) (g_d dtbX10_most_0 22 rfl) lk_X10_165 okX4_mostSpending (by decide) rfl rfl rfl rfl (Nat.le_of_ble_eq_true rfl) (Nat.le_of_ble_eq_true rfl) (by decide) rfl (c_mostSpending G V1 N (A.1 0) hl_V1.1 (by omega) (fun i hi => by rw [hl_V1.2 i hi]; have := gA_in hA i; omega) (by omega)) ?_
    rintro _ _ ⟨rfl, rfl⟩
    rw [mS_ext hl_V1.2 N (Nat.le_refl _)]
    have hMS := mS_in (g := gA A) (a := A.1 0) (m := N) (fun i hi => by have := gA_in hA i; omega) (by omega) (by omega) N (Nat.le_refl _)
    refine cz_istore_n (L' := [some (.ref 0), some (iv ((N : Int))), some (iv (mS (gA A) (A.1 0) N))]) (pc' := 46) (g_d dtbX10_most_0 23 rfl) (by decide) rfl rfl ?_
    refine cz_iload_n (pc' := 47) (g_d dtbX10_most_0 24 rfl) rfl rfl ?_
    refine nz_if_ge (tgt := 54) (pc' := 50) (g_d dtbX10_most_0 25 rfl) (by omega) rfl rfl (fun h47 => ?_) (fun h47 => ?_)
    · refine cz_iload_n (pc' := 55) (g_d dtbX10_most_0 28 rfl) rfl rfl ?_
      refine nz_ri .int (g_d dtbX10_most_0 29 rfl) rfl rfl ?_
      rw [show xMost A (N : Int) = (mS (gA A) (A.1 0) N, A) from by unfold xMost; rw [if_pos (by omega), Int.toNat_natCast, if_neg (by omega)]]
      exact ⟨rfl, hC.sc hs_V1, hm_V1⟩
    · refine nz_iconst (pc' := 51) (g_d dtbX10_most_0 26 rfl) rfl ?_
      refine cz_goto (pc' := 55) (g_d dtbX10_most_0 27 rfl) rfl ?_
      refine nz_ri .int (g_d dtbX10_most_0 29 rfl) rfl rfl ?_
      rw [show xMost A (N : Int) = (-1, A) from by unfold xMost; rw [if_pos (by omega), Int.toNat_natCast, if_pos (by omega)]]
      exact ⟨rfl, hC.sc hs_V1, hm_V1⟩
  · refine nz_if_ne_f (pc' := 10) (g_d dtbX10_most_0 4 rfl) (by omega) (by decide) rfl (by omega) ?_
    refine cz_aload_n (pc' := 11) (g_d dtbX10_most_0 5 rfl) rfl rfl ?_
    refine nz_bipush (pc' := 13) (g_d dtbX10_most_0 6 rfl) (by decide) rfl ?_
    refine nz_cVi (M' := mX10_refuseBad) (k := 0) (As := [iv (-2)]) (S := []) (L := [some (.ref 0), some (iv (m)), none]) (pc' := 16) (g_d dtbX10_most_0 7 rfl) lk_X10_57 okX10_refuseBad (by decide) rfl rfl rfl rfl (Nat.le_of_ble_eq_true rfl) (Nat.le_of_ble_eq_true rfl) (by decide) rfl (c_refuseBad G Z (-2)) ?_
    rintro _ _ ⟨rfl, rfl⟩
    refine nz_ri .int (g_d dtbX10_most_0 8 rfl) rfl rfl ?_
    rw [show xMost A m = (-2, aBad A) from if_neg (by omega)]
    exact ⟨rfl, cs_bad hC, (FM.u FM.rf (by decide))⟩

set_option maxRecDepth 20000 in
set_option maxHeartbeats 4000000 in
theorem a_need (G : Wd) (Z : ZS) (A : AS) (B : Int) (hC : CS Z A) (hA : AO B A) (m : Int) (hm : -2147483648 ≤ m ∧ m ≤ 2147483647) : Cn G mX10_need 0 [some (.ref 0), some (iv (m)), none] [] Z (qi (fun r W => (xNeed A m).1 = r ∧ CS W (xNeed A m).2 ∧ FM Z W)) := by
  have hB := hC.1
  have hb0 := hA.1
  have hO := hA.2.1
  have h6 : 0 ≤ A.1 6 ∧ A.1 6 ≤ 7 := hO.2.1
  have h28 : 0 ≤ A.1 28 ∧ A.1 28 ≤ 6 := hO.2.2.2.1
  have h59 : 0 ≤ A.1 59 ∧ A.1 59 ≤ 8 := hO.2.2.2.2.2.1
  have hf := hO.1
  unfold FO at hf
  have hct := hA.2.2.2.2.2.2
  refine cz_iload_n (pc' := 1) (g_d dtbX10_need_0 0 rfl) rfl rfl ?_
  refine nz_iconst (pc' := 2) (g_d dtbX10_need_0 1 rfl) rfl ?_
  refine nz_bipush (pc' := 4) (g_d dtbX10_need_0 2 rfl) (by decide) rfl ?_
  refine nz_cSi (M' := mX10_within) (As := [iv (m), iv 1, iv 99]) (S := []) (L := [some (.ref 0), some (iv (m)), none]) (pc' := 7) (g_d dtbX10_need_0 3 rfl) lk_X10_53 okX10_within rfl rfl (Nat.le_of_ble_eq_true rfl) (Nat.le_of_ble_eq_true rfl) (by decide) rfl (c_within G Z m 1 99 (by omega) (by omega) (by omega)) ?_
  rintro _ _ ⟨rfl, ⟨rfl, hw4⟩ | ⟨rfl, hw4⟩⟩
  · refine nz_if_ne_t (tgt := 17) (g_d dtbX10_need_0 4 rfl) (by omega) rfl (by omega) ?_
    obtain ⟨N, rfl⟩ : ∃ N : Nat, m = (N : Int) := ⟨m.toNat, by omega⟩
    refine cz_aload_n (pc' := 18) (g_d dtbX10_need_0 9 rfl) rfl rfl ?_
    refine nz_getf (v := .ref 24) (pc' := 21) (g_d dtbX10_need_0 10 rfl) gf_X10_36 (by decide) rfl rfl rfl ?_
    refine cz_aload_n (pc' := 22) (g_d dtbX10_need_0 11 rfl) rfl rfl ?_
    refine nz_getf (v := .ref 1) (pc' := 25) (g_d dtbX10_need_0 12 rfl) gf_X10_10 (by decide) rfl rfl rfl ?_
    refine cz_iload_n (pc' := 26) (g_d dtbX10_need_0 13 rfl) rfl rfl ?_
    refine nz_cVv (M' := mX4_lay) (k := 24) (As := [.ref 1, iv ((N : Int))]) (S := []) (L := [some (.ref 0), some (iv ((N : Int))), none]) (pc' := 29) (g_d dtbX10_need_0 14 rfl) lk_X10_161 okX4_lay (by decide) rfl rfl rfl rfl (Nat.le_of_ble_eq_true rfl) (Nat.le_of_ble_eq_true rfl) (by decide) rfl (c_lay G Z N A.1 B hB hO (by omega) (by omega)) ?_
    rintro V1 e1
    have hs_V1 : Sc Z V1 := e1 ▸ zly_sc
    have hm_V1 : FM Z V1 := e1 ▸ zly_fm
    have hl_V1 : LD V1 N (gA A) := e1 ▸ zly_ld
    refine cz_aload_n (pc' := 30) (g_d dtbX10_need_0 15 rfl) rfl rfl ?_
    refine nz_getf (v := .ref 24) (pc' := 33) (g_d dtbX10_need_0 16 rfl) gf_X10_36 (by decide) rfl rfl rfl ?_
    refine cz_aload_n (pc' := 34) (g_d dtbX10_need_0 17 rfl) rfl rfl ?_
    refine nz_getf (v := .ref 1) (pc' := 37) (g_d dtbX10_need_0 18 rfl) gf_X10_10 (by decide) rfl rfl rfl ?_
    refine nz_getf (v := .ref 2) (pc' := 40) (g_d dtbX10_need_0 19 rfl) gf_X10_99 (by decide) rfl rfl rfl ?_
    refine nz_iconst (pc' := 41) (g_d dtbX10_need_0 20 rfl) rfl ?_
    refine nz_iald 0 (pc' := 42) (g_d dtbX10_need_0 21 rfl) (by decide) rfl (by omega) (by rfl) (by omega) rfl ?_
    rw [show V1 2 0 = A.1 0 from br1_fig (hC.br (hs_V1)) (by decide)]
    refine cz_aload_n (pc' := 43) (g_d dtbX10_need_0 22 rfl) rfl rfl ?_
    refine nz_getf (v := .ref 1) (pc' := 46) (g_d dtbX10_need_0 23 rfl) gf_X10_10 (by decide) rfl rfl rfl ?_
    refine nz_getf (v := .ref 2) (pc' := 49) (g_d dtbX10_need_0 24 rfl) gf_X10_99 (by decide) rfl rfl rfl ?_
    refine nz_iconst (pc' := 50) (g_d dtbX10_need_0 25 rfl) rfl ?_
    refine nz_iald 5 (pc' := 51) (g_d dtbX10_need_0 26 rfl) (by decide) rfl (by omega) (by rfl) (by omega) rfl ?_
    rw [show V1 2 5 = A.1 5 from br1_fig (hC.br (hs_V1)) (by decide)]
    refine nz_cVi (M' := mX4_leastMore) (k := 24) (As := [iv (A.1 0), iv (A.1 5)]) (S := []) (L := [some (.ref 0), some (iv ((N : Int))), none]) (pc' := 54) (g_d dtbX10_need_0 27 rfl) lk_X10_168 okX4_leastMore (by decide) rfl rfl rfl rfl (Nat.le_of_ble_eq_true rfl) (Nat.le_of_ble_eq_true rfl) (by decide) rfl (c_leastMore G V1 N (A.1 5) (A.1 0) hl_V1.1 (by omega) (fun i hi => by rw [hl_V1.2 i hi]; have := gA_in hA i; omega) (by omega) (by omega)) ?_
    rintro _ _ ⟨rfl, rfl⟩
    rw [lM_ext hl_V1.2 N (Nat.le_refl _)]
    have hMS := lM_in (g := gA A) (sp := A.1 5) (a := A.1 0) (m := N) (fun i hi => by have := gA_in hA i; omega) (by omega) (by omega) (by omega) N (Nat.le_refl _)
    refine cz_istore_n (L' := [some (.ref 0), some (iv ((N : Int))), some (iv (lM (gA A) (A.1 5) (A.1 0) N))]) (pc' := 55) (g_d dtbX10_need_0 28 rfl) (by decide) rfl rfl ?_
    refine cz_iload_n (pc' := 56) (g_d dtbX10_need_0 29 rfl) rfl rfl ?_
    refine nz_sipush (pc' := 59) (g_d dtbX10_need_0 30 rfl) (by decide) rfl ?_
    refine nz_icmp_le (tgt := 66) (pc' := 62) (g_d dtbX10_need_0 31 rfl) (by omega) (by omega) rfl rfl (fun h59 => ?_) (fun h59 => ?_)
    · refine cz_iload_n (pc' := 67) (g_d dtbX10_need_0 34 rfl) rfl rfl ?_
      refine nz_ri .int (g_d dtbX10_need_0 35 rfl) rfl rfl ?_
      rw [show xNeed A (N : Int) = (lM (gA A) (A.1 5) (A.1 0) N, A) from by unfold xNeed; rw [if_pos (by omega), Int.toNat_natCast, if_neg (by omega)]]
      exact ⟨rfl, hC.sc hs_V1, hm_V1⟩
    · refine nz_iconst (pc' := 63) (g_d dtbX10_need_0 32 rfl) rfl ?_
      refine cz_goto (pc' := 67) (g_d dtbX10_need_0 33 rfl) rfl ?_
      refine nz_ri .int (g_d dtbX10_need_0 35 rfl) rfl rfl ?_
      rw [show xNeed A (N : Int) = (-1, A) from by unfold xNeed; rw [if_pos (by omega), Int.toNat_natCast, if_pos (by omega)]]
      exact ⟨rfl, hC.sc hs_V1, hm_V1⟩
  · refine nz_if_ne_f (pc' := 10) (g_d dtbX10_need_0 4 rfl) (by omega) (by decide) rfl (by omega) ?_
    refine cz_aload_n (pc' := 11) (g_d dtbX10_need_0 5 rfl) rfl rfl ?_
    refine nz_bipush (pc' := 13) (g_d dtbX10_need_0 6 rfl) (by decide) rfl ?_
    refine nz_cVi (M' := mX10_refuseBad) (k := 0) (As := [iv (-2)]) (S := []) (L := [some (.ref 0), some (iv (m)), none]) (pc' := 16) (g_d dtbX10_need_0 7 rfl) lk_X10_57 okX10_refuseBad (by decide) rfl rfl rfl rfl (Nat.le_of_ble_eq_true rfl) (Nat.le_of_ble_eq_true rfl) (by decide) rfl (c_refuseBad G Z (-2)) ?_
    rintro _ _ ⟨rfl, rfl⟩
    refine nz_ri .int (g_d dtbX10_need_0 8 rfl) rfl rfl ?_
    rw [show xNeed A m = (-2, aBad A) from if_neg (by omega)]
    exact ⟨rfl, cs_bad hC, (FM.u FM.rf (by decide))⟩
