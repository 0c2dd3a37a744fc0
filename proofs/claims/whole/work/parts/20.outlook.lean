/-! the outlook -/
theorem zad_br {Z : ZS} {c g : Row} {j m : Nat} (h : BR Z 1 g) : BR (zad Z c j m) 1 g := h.eq (fun a h1 h2 => by rw [zad, zr_ne (by omega)])
def sS (g : Row) (a : Int) : Nat → Int
  | 0 => a
  | i + 1 => sS g a i - g i
def mS (g : Row) (a : Int) : Nat → Int
  | 0 => 30
  | i + 1 => min (mS g a i) ((sS g a i - g i) / ((i : Int) + 1))
def sP (g : Row) (sp a : Int) : Nat → Int
  | 0 => a
  | i + 1 => sP g sp a i - (g i + sp)
def lM (g : Row) (sp a : Int) : Nat → Int
  | 0 => 0
  | i + 1 => max (lM g sp a i) (-(sP g sp a i - (g i + sp)))
theorem sS_in {g : Row} {a : Int} {m : Nat} (hg : ∀ i, i < m → -1000000 ≤ g i ∧ g i ≤ 1000000) (ha : -1000000000 ≤ a ∧ a ≤ 1000000000) : ∀ i : Nat, i ≤ m → -1000000000 - 1000000 * (i : Int) ≤ sS g a i ∧ sS g a i ≤ 1000000000 + 1000000 * (i : Int) := by
  intro i
  induction i with
  | zero => intro _; simp [sS]; omega
  | succ i ih =>
    intro h
    have := ih (by omega)
    have := hg i (by omega)
    simp only [sS]
    omega
theorem mS_in {g : Row} {a : Int} {m : Nat} (hg : ∀ i, i < m → -1000000 ≤ g i ∧ g i ≤ 1000000) (ha : -1000000000 ≤ a ∧ a ≤ 1000000000) (hm : m ≤ 99) : ∀ i : Nat, i ≤ m → -2000000000 ≤ mS g a i ∧ mS g a i ≤ 30 := by
  intro i
  induction i with
  | zero => intro _; simp [mS]
  | succ i ih =>
    intro h
    have h1 := ih (by omega)
    have h2 := sS_in hg ha (i + 1) h
    have h3 : -1200000000 ≤ sS g a (i + 1) := by omega
    have h4 : -1200000000 ≤ (sS g a i - g i) / ((i : Int) + 1) := by
      have e : sS g a (i + 1) = sS g a i - g i := rfl
      have h5 : (0 : Int) < (i : Int) + 1 := by omega
      apply Int.le_ediv_of_mul_le h5
      have h6 : (-1200000000 : Int) * ((i : Int) + 1) ≤ -1200000000 * 1 := by omega
      omega
    simp only [mS]
    omega
theorem sP_in {g : Row} {sp a : Int} {m : Nat} (hg : ∀ i, i < m → -1000000 ≤ g i ∧ g i ≤ 1000000) (hs : 0 ≤ sp ∧ sp ≤ 1000) (ha : -1000000000 ≤ a ∧ a ≤ 1000000000) : ∀ i : Nat, i ≤ m → -1000000000 - 1001000 * (i : Int) ≤ sP g sp a i ∧ sP g sp a i ≤ 1000000000 + 1000000 * (i : Int) := by
  intro i
  induction i with
  | zero => intro _; simp [sP]; omega
  | succ i ih =>
    intro h
    have := ih (by omega)
    have := hg i (by omega)
    simp only [sP]
    omega
theorem lM_in {g : Row} {sp a : Int} {m : Nat} (hg : ∀ i, i < m → -1000000 ≤ g i ∧ g i ≤ 1000000) (hs : 0 ≤ sp ∧ sp ≤ 1000) (ha : -1000000000 ≤ a ∧ a ≤ 1000000000) (hm : m ≤ 99) : ∀ i : Nat, i ≤ m → 0 ≤ lM g sp a i ∧ lM g sp a i ≤ 2000000000 := by
  intro i
  induction i with
  | zero => intro _; simp [lM]
  | succ i ih =>
    intro h
    have := ih (by omega)
    have := sP_in hg hs ha (i + 1) h
    have e : sP g sp a (i + 1) = sP g sp a i - (g i + sp) := rfl
    simp only [lM]
    omega

set_option maxRecDepth 20000 in
set_option maxHeartbeats 4000000 in
theorem l_put (G : Wd) (Z : ZS) (b κ m : Nat) (f : Row) (B told times : Int) (hB : BR Z 1 f) (hR : RO B f) (hBB : B ≤ 100000000) (hm : Z 24 2 = (m : Int)) (hm99 : m ≤ 99) (hb : b < 7) (hb2 : (b : Int) < f 6) (hκ : f (7 + b) = (κ : Int)) (hκ6 : κ < 6) (ht : 1 ≤ told ∧ told ≤ 28) (w6 : Int) : ∀ (d : Nat) (j : Nat), m - j = d → dyA f j = dayB (κ : Int) told → j < m + 28 → Cn G mX4_put 63 [some (.ref 24), some (.ref 1), some (iv ((b : Int))), some (iv (told)), some (iv (times)), some (.ref (26 + κ)), some (iv (w6)), some (iv (mnA f j)), some (iv ((j : Int)))] [] (zad Z (fun i => times * pA f (κ : Int) told (f (21 + b)) i) j m) (qv (fun W => zad Z (fun i => times * pA f (κ : Int) told (f (21 + b)) i) m m = W)) := by
  intro d
  induction d using Nat.strongRecOn with
  | ind d ih =>
    intro j hd hj hj2
    have hbo := hR.2.2.1 b hb hb2
    have hpo : 1 ≤ f (21 + b) ∧ f (21 + b) ≤ 99 := hbo.2.2
    have hf3 : 1 ≤ f 3 ∧ f 3 ≤ 28 := hR.1.2.2.2.1
    have hf4 : 0 ≤ f 4 ∧ f 4 ≤ B := by have := hR.1.2.2.2.2.1; omega
    have hD := dayB_in (κ := (κ : Int)) ht
    refine cz_iload (pc' := 65) (g_d dtbX4_put_0 34 rfl) rfl rfl ?_
    refine cz_aload_n (pc' := 66) (g_d dtbX4_put_0 35 rfl) rfl rfl ?_
    refine nz_getf (v := iv ((m : Int))) (pc' := 69) (g_d dtbX4_put_0 36 rfl) gf_X4_31 (by decide) rfl (congrArg iv (by simp [zad, zr, hm])) rfl ?_
    refine nz_icmp_ge (tgt := 106) (pc' := 72) (g_d dtbX4_put_0 37 rfl) (by omega) (by omega) rfl rfl (fun h69 => ?_) (fun h69 => ?_)
    · refine nz_rv (g_d dtbX4_put_0 56 rfl) rfl ?_
      exact (zad_e (by omega)).symm
    · refine cz_aload_n (pc' := 73) (g_d dtbX4_put_0 38 rfl) rfl rfl ?_
      refine nz_getf (v := .ref 32) (pc' := 76) (g_d dtbX4_put_0 39 rfl) gf_X4_18 (by decide) rfl rfl rfl ?_
      refine cz_iload (pc' := 78) (g_d dtbX4_put_0 40 rfl) rfl rfl ?_
      refine cz_dup2 (pc' := 79) (g_d dtbX4_put_0 41 rfl) rfl rfl rfl ?_
      refine nz_iald j (pc' := 80) (g_d dtbX4_put_0 42 rfl) (by decide) rfl (by omega) (by rfl) (by omega) rfl ?_
      rw [show (zad Z (fun i => times * pA f (κ : Int) told (f (21 + b)) i) j m) 32 j = Z 32 j from by simp [zad, zr]]
      refine cz_iload (pc' := 82) (g_d dtbX4_put_0 43 rfl) rfl rfl ?_
      refine cz_aload (pc' := 84) (g_d dtbX4_put_0 44 rfl) rfl rfl ?_
      refine cz_iload (pc' := 86) (g_d dtbX4_put_0 45 rfl) rfl rfl ?_
      refine cz_aload_n (pc' := 87) (g_d dtbX4_put_0 46 rfl) rfl rfl ?_
      refine cz_iload_n (pc' := 88) (g_d dtbX4_put_0 47 rfl) rfl rfl ?_
      refine nz_cVi (M' := mX0_poundsAt) (k := 1) (As := [iv ((b : Int))]) (S := [iv (mnA f j), .ref (26 + κ), iv (times), iv (Z 32 j), iv ((j : Int)), .ref 32]) (L := [some (.ref 24), some (.ref 1), some (iv ((b : Int))), some (iv (told)), some (iv (times)), some (.ref (26 + κ)), some (iv (w6)), some (iv (mnA f j)), some (iv ((j : Int)))]) (pc' := 91) (g_d dtbX4_put_0 48 rfl) lk_X4_72 okX0_poundsAt (by decide) rfl rfl rfl rfl (Nat.le_of_ble_eq_true rfl) (Nat.le_of_ble_eq_true rfl) (by decide) rfl (c_poundsR G (zad Z (fun i => times * pA f (κ : Int) told (f (21 + b)) i) j m) b f (zad_br hB) hb hb2) ?_
      rintro _ _ ⟨rfl, rfl⟩
      refine nz_cP (κ := κ) (S := [iv (times), iv (Z 32 j), iv ((j : Int)), .ref 32]) (L := [some (.ref 24), some (.ref 1), some (iv ((b : Int))), some (iv (told)), some (iv (times)), some (.ref (26 + κ)), some (iv (w6)), some (iv (mnA f j)), some (iv ((j : Int)))]) (pc' := 94) (g_d dtbX4_put_0 49 rfl) kp_X4 hκ6 (by unfold mnA; omega) (by omega) (Nat.le_of_ble_eq_true rfl) (by decide) (by decide) rfl ?_
      refine nz_imul (pc' := 95) (g_d dtbX4_put_0 50 rfl) rfl ?_
      refine nz_iadd (pc' := 96) (g_d dtbX4_put_0 51 rfl) rfl ?_
      refine nz_iast j (pc' := 97) (g_d dtbX4_put_0 52 rfl) (by decide) rfl (by omega) (by rfl) (by omega) rfl ?_
      refine nz_iinc (L' := [some (.ref 24), some (.ref 1), some (iv ((b : Int))), some (iv (told)), some (iv (times)), some (.ref (26 + κ)), some (iv (w6)), some (iv ((mnA f j) + 1)), some (iv ((j : Int)))]) (pc' := 100) (g_d dtbX4_put_0 53 rfl) (by decide) rfl rfl rfl ?_
      refine nz_iinc (L' := [some (.ref 24), some (.ref 1), some (iv ((b : Int))), some (iv (told)), some (iv (times)), some (.ref (26 + κ)), some (iv (w6)), some (iv ((mnA f j) + 1)), some (iv (((j : Int)) + 28))]) (pc' := 103) (g_d dtbX4_put_0 54 rfl) (by decide) rfl rfl rfl ?_
      refine cz_goto (pc' := 63) (g_d dtbX4_put_0 55 rfl) rfl ?_
      have c0 : dayB (κ : Int) told = dyA f j := hj.symm
      have c1 : ∀ i, j < i → i < j + 28 → i < m → (fun i => times * pA f (κ : Int) told (f (21 + b)) i) i = 0 := fun i h1 h2 h3 => by
        have : ¬ dayB (κ : Int) told = dyA f i := by rw [c0]; unfold dyA; omega
        simp only [pA, if_neg this, Int.mul_zero]
      rw [zad_s (show j < m by omega) (show Z 32 j + times * pndB (κ : Int) (f (21 + b)) (mnA f j) = Z 32 j + (fun i => times * pA f (κ : Int) told (f (21 + b)) i) j by simp only [pA, if_pos c0]) c1]
      rw [show mnA f j + 1 = mnA f (j + 28) by unfold mnA; omega]
      exact ih (m - (j + 28)) (by omega) (j + 28) rfl (by rw [c0]; unfold dyA; omega) (by omega)

set_option maxRecDepth 20000 in
set_option maxHeartbeats 4000000 in
theorem c_put (G : Wd) (Z : ZS) (b κ m : Nat) (f : Row) (B told times : Int) (hB : BR Z 1 f) (hR : RO B f) (hBB : B ≤ 100000000) (hm : Z 24 2 = (m : Int)) (hm99 : m ≤ 99) (hb : b < 7) (hb2 : (b : Int) < f 6) (hκ : f (7 + b) = (κ : Int)) (hκ6 : κ < 6) (ht : 1 ≤ told ∧ told ≤ 28) : Cn G mX4_put 0 [some (.ref 24), some (.ref 1), some (iv ((b : Int))), some (iv (told)), some (iv (times)), none, none, none, none] [] Z (qv (fun W => zad Z (fun i => times * pA f (κ : Int) told (f (21 + b)) i) m m = W)) := by
  have hbo := hR.2.2.1 b hb hb2
  have hpo : 1 ≤ f (21 + b) ∧ f (21 + b) ≤ 99 := hbo.2.2
  have hf3 : 1 ≤ f 3 ∧ f 3 ≤ 28 := hR.1.2.2.2.1
  have hf4 : 0 ≤ f 4 ∧ f 4 ≤ B := by have := hR.1.2.2.2.2.1; omega
  have hD := dayB_in (κ := (κ : Int)) ht
  refine cz_aload_n (pc' := 1) (g_d dtbX4_put_0 0 rfl) rfl rfl ?_
  refine nz_getf (v := .ref 25) (pc' := 4) (g_d dtbX4_put_0 1 rfl) gf_X4_12 (by decide) rfl rfl rfl ?_
  refine cz_aload_n (pc' := 5) (g_d dtbX4_put_0 2 rfl) rfl rfl ?_
  refine cz_iload_n (pc' := 6) (g_d dtbX4_put_0 3 rfl) rfl rfl ?_
  refine nz_cVi (M' := mX0_kindAt) (k := 1) (As := [iv ((b : Int))]) (S := [.ref 25]) (L := [some (.ref 24), some (.ref 1), some (iv ((b : Int))), some (iv (told)), some (iv (times)), none, none, none, none]) (pc' := 9) (g_d dtbX4_put_0 4 rfl) lk_X4_54 okX0_kindAt (by decide) rfl rfl rfl rfl (Nat.le_of_ble_eq_true rfl) (Nat.le_of_ble_eq_true rfl) (by decide) rfl (c_kindR G Z b f (hB) hb hb2) ?_
  rintro _ _ ⟨rfl, rfl⟩
  rw [hκ]
  refine nz_cVr (M' := mX2_numbered) (k := 25) (As := [iv ((κ : Int))]) (S := []) (L := [some (.ref 24), some (.ref 1), some (iv ((b : Int))), some (iv (told)), some (iv (times)), none, none, none, none]) (pc' := 12) (g_d dtbX4_put_0 5 rfl) lk_X4_57 okX2_numbered (by decide) rfl rfl rfl rfl (Nat.le_of_ble_eq_true rfl) (Nat.le_of_ble_eq_true rfl) (by decide) rfl (c_numbered G Z κ hκ6) ?_
  rintro _ _ ⟨rfl, rfl⟩
  refine cz_astore (L' := [some (.ref 24), some (.ref 1), some (iv ((b : Int))), some (iv (told)), some (iv (times)), some (.ref (26 + κ)), none, none, none]) (pc' := 14) (g_d dtbX4_put_0 6 rfl) (by decide) rfl rfl ?_
  refine cz_aload (pc' := 16) (g_d dtbX4_put_0 7 rfl) rfl rfl ?_
  refine cz_iload_n (pc' := 17) (g_d dtbX4_put_0 8 rfl) rfl rfl ?_
  refine nz_cD (κ := κ) (S := []) (L := [some (.ref 24), some (.ref 1), some (iv ((b : Int))), some (iv (told)), some (iv (times)), some (.ref (26 + κ)), none, none, none]) (pc' := 20) (g_d dtbX4_put_0 9 rfl) kd_X4 hκ6 (ht) (Nat.le_of_ble_eq_true rfl) (by decide) (by decide) rfl ?_
  refine cz_aload_n (pc' := 21) (g_d dtbX4_put_0 10 rfl) rfl rfl ?_
  refine nz_getf (v := .ref 2) (pc' := 24) (g_d dtbX4_put_0 11 rfl) gf_X4_66 (by decide) rfl rfl rfl ?_
  refine nz_iconst (pc' := 25) (g_d dtbX4_put_0 12 rfl) rfl ?_
  refine nz_iald 3 (pc' := 26) (g_d dtbX4_put_0 13 rfl) (by decide) rfl (by omega) (by rfl) (by omega) rfl ?_
  rw [show Z 2 3 = f 3 from br1_fig (hB) (by decide)]
  refine nz_isub (pc' := 27) (g_d dtbX4_put_0 14 rfl) rfl ?_
  refine nz_bipush (pc' := 29) (g_d dtbX4_put_0 15 rfl) (by decide) rfl ?_
  refine nz_cSi (M' := mJ9_floorMod_7cf53) (As := [iv ((dayB (κ : Int) told) - (f 3)), iv 28]) (S := []) (L := [some (.ref 24), some (.ref 1), some (iv ((b : Int))), some (iv (told)), some (iv (times)), some (.ref (26 + κ)), none, none, none]) (pc' := 32) (g_d dtbX4_put_0 16 rfl) lk_X4_69 okJ9_floorMod_7cf53 rfl rfl (Nat.le_of_ble_eq_true rfl) (Nat.le_of_ble_eq_true rfl) (by decide) rfl (c_fmod G Z ((dayB (κ : Int) told) - (f 3)) (by omega)) ?_
  rintro _ _ ⟨rfl, rfl⟩
  refine cz_istore (L' := [some (.ref 24), some (.ref 1), some (iv ((b : Int))), some (iv (told)), some (iv (times)), some (.ref (26 + κ)), some (iv (((dayB (κ : Int) told) - (f 3)) % 28)), none, none]) (pc' := 34) (g_d dtbX4_put_0 17 rfl) (by decide) rfl rfl ?_
  refine cz_aload_n (pc' := 35) (g_d dtbX4_put_0 18 rfl) rfl rfl ?_
  refine nz_getf (v := .ref 2) (pc' := 38) (g_d dtbX4_put_0 19 rfl) gf_X4_66 (by decide) rfl rfl rfl ?_
  refine nz_iconst (pc' := 39) (g_d dtbX4_put_0 20 rfl) rfl ?_
  refine nz_iald 4 (pc' := 40) (g_d dtbX4_put_0 21 rfl) (by decide) rfl (by omega) (by rfl) (by omega) rfl ?_
  rw [show Z 2 4 = f 4 from br1_fig (hB) (by decide)]
  refine cz_istore (L' := [some (.ref 24), some (.ref 1), some (iv ((b : Int))), some (iv (told)), some (iv (times)), some (.ref (26 + κ)), some (iv (((dayB (κ : Int) told) - (f 3)) % 28)), some (iv (f 4)), none]) (pc' := 42) (g_d dtbX4_put_0 22 rfl) (by decide) rfl rfl ?_
  refine cz_aload_n (pc' := 43) (g_d dtbX4_put_0 23 rfl) rfl rfl ?_
  refine nz_getf (v := .ref 2) (pc' := 46) (g_d dtbX4_put_0 24 rfl) gf_X4_66 (by decide) rfl rfl rfl ?_
  refine nz_iconst (pc' := 47) (g_d dtbX4_put_0 25 rfl) rfl ?_
  refine nz_iald 3 (pc' := 48) (g_d dtbX4_put_0 26 rfl) (by decide) rfl (by omega) (by rfl) (by omega) rfl ?_
  rw [show Z 2 3 = f 3 from br1_fig (hB) (by decide)]
  refine cz_iload (pc' := 50) (g_d dtbX4_put_0 27 rfl) rfl rfl ?_
  refine nz_iadd (pc' := 51) (g_d dtbX4_put_0 28 rfl) rfl ?_
  refine nz_bipush (pc' := 53) (g_d dtbX4_put_0 29 rfl) (by decide) rfl ?_
  refine nz_icmp_le (tgt := 59) (pc' := 56) (g_d dtbX4_put_0 30 rfl) (by omega) (by omega) rfl rfl (fun h53 => ?_) (fun h53 => ?_)
  · refine cz_iload (pc' := 61) (g_d dtbX4_put_0 32 rfl) rfl rfl ?_
    refine cz_istore (L' := [some (.ref 24), some (.ref 1), some (iv ((b : Int))), some (iv (told)), some (iv (times)), some (.ref (26 + κ)), some (iv (((dayB (κ : Int) told) - (f 3)) % 28)), some (iv (f 4)), some (iv (((dayB (κ : Int) told) - (f 3)) % 28))]) (pc' := 63) (g_d dtbX4_put_0 33 rfl) (by decide) rfl rfl ?_
    obtain ⟨j, hj⟩ : ∃ j : Nat, (dayB (κ : Int) told - f 3) % 28 = (j : Int) := ⟨((dayB (κ : Int) told - f 3) % 28).toNat, by omega⟩
    have e1 : dyA f j = dayB (κ : Int) told := by unfold dyA; omega
    have e2 : f 4 = mnA f j := by unfold mnA; omega
    rw [e2]
    rw [hj]
    have q := l_put G Z b κ m f B told times hB hR hBB hm hm99 hb hb2 hκ hκ6 ht (j : Int) (m - j) j rfl e1 (by omega)
    rw [zad_0 (j := j)] at q
    · exact q
    · intro i h1 h2
      have : ¬ dayB (κ : Int) told = dyA f i := by unfold dyA; omega
      simp only [pA, if_neg this, Int.mul_zero]
  · refine nz_iinc (L' := [some (.ref 24), some (.ref 1), some (iv ((b : Int))), some (iv (told)), some (iv (times)), some (.ref (26 + κ)), some (iv (((dayB (κ : Int) told) - (f 3)) % 28)), some (iv ((f 4) + 1)), none]) (pc' := 59) (g_d dtbX4_put_0 31 rfl) (by decide) rfl rfl rfl ?_
    refine cz_iload (pc' := 61) (g_d dtbX4_put_0 32 rfl) rfl rfl ?_
    refine cz_istore (L' := [some (.ref 24), some (.ref 1), some (iv ((b : Int))), some (iv (told)), some (iv (times)), some (.ref (26 + κ)), some (iv (((dayB (κ : Int) told) - (f 3)) % 28)), some (iv ((f 4) + 1)), some (iv (((dayB (κ : Int) told) - (f 3)) % 28))]) (pc' := 63) (g_d dtbX4_put_0 33 rfl) (by decide) rfl rfl ?_
    obtain ⟨j, hj⟩ : ∃ j : Nat, (dayB (κ : Int) told - f 3) % 28 = (j : Int) := ⟨((dayB (κ : Int) told - f 3) % 28).toNat, by omega⟩
    have e1 : dyA f j = dayB (κ : Int) told := by unfold dyA; omega
    have e2 : (f 4) + 1 = mnA f j := by unfold mnA; omega
    rw [e2]
    rw [hj]
    have q := l_put G Z b κ m f B told times hB hR hBB hm hm99 hb hb2 hκ hκ6 ht (j : Int) (m - j) j rfl e1 (by omega)
    rw [zad_0 (j := j)] at q
    · exact q
    · intro i h1 h2
      have : ¬ dayB (κ : Int) told = dyA f i := by unfold dyA; omega
      simp only [pA, if_neg this, Int.mul_zero]

set_option maxRecDepth 20000 in
set_option maxHeartbeats 4000000 in
theorem l_lay (G : Wd) (Z : ZS) (m : Nat) (f : Row) (B : Int) (hB : BR Z 1 f) (hR : RO B f) (hBB : B ≤ 100000000) (hm99 : m ≤ 99) : ∀ (d : Nat) (n : Nat), (f 6).toNat - n = d → (n : Int) ≤ f 6 → Cn G mX4_lay 24 [some (.ref 24), some (.ref 1), some (iv ((m : Int))), some (iv ((n : Int)))] [] (zly Z f m n) (qv (fun W => zly Z f m (f 6).toNat = W)) := by
  intro d
  induction d using Nat.strongRecOn with
  | ind d ih =>
    intro n hd hn
    have h6 := hR.2.1
    refine cz_iload_n (pc' := 25) (g_d dtbX4_lay_0 13 rfl) rfl rfl ?_
    refine cz_aload_n (pc' := 26) (g_d dtbX4_lay_0 14 rfl) rfl rfl ?_
    refine nz_getf (v := iv (f 6)) (pc' := 29) (g_d dtbX4_lay_0 15 rfl) gf_X4_41 (by decide) rfl (congrArg iv (br1_4 (zly_br hB))) rfl ?_
    refine nz_icmp_ge (tgt := 50) (pc' := 32) (g_d dtbX4_lay_0 16 rfl) (by omega) (by omega) rfl rfl (fun h29 => ?_) (fun h29 => ?_)
    · refine nz_rv (g_d dtbX4_lay_0 27 rfl) rfl ?_
      rw [show n = (f 6).toNat by omega]
    · have hn7 : n < 7 := by omega
      have hn2 : (n : Int) < f 6 := by omega
      have hbo := hR.2.2.1 n hn7 hn2
      have hto : 1 ≤ f (14 + n) ∧ f (14 + n) ≤ 28 := hbo.2.1
      obtain ⟨κ, hκ, hκ6⟩ : ∃ κ : Nat, f (7 + n) = (κ : Int) ∧ κ < 6 := ⟨(f (7 + n)).toNat, by have := hbo.1; omega, by have := hbo.1; omega⟩
      refine cz_aload_n (pc' := 33) (g_d dtbX4_lay_0 17 rfl) rfl rfl ?_
      refine cz_aload_n (pc' := 34) (g_d dtbX4_lay_0 18 rfl) rfl rfl ?_
      refine cz_iload_n (pc' := 35) (g_d dtbX4_lay_0 19 rfl) rfl rfl ?_
      refine cz_aload_n (pc' := 36) (g_d dtbX4_lay_0 20 rfl) rfl rfl ?_
      refine cz_iload_n (pc' := 37) (g_d dtbX4_lay_0 21 rfl) rfl rfl ?_
      refine nz_cVi (M' := mX0_dayAt) (k := 1) (As := [iv ((n : Int))]) (S := [iv ((n : Int)), .ref 1, .ref 24]) (L := [some (.ref 24), some (.ref 1), some (iv ((m : Int))), some (iv ((n : Int)))]) (pc' := 40) (g_d dtbX4_lay_0 22 rfl) lk_X4_46 okX0_dayAt (by decide) rfl rfl rfl rfl (Nat.le_of_ble_eq_true rfl) (Nat.le_of_ble_eq_true rfl) (by decide) rfl (c_dayR G (zly Z f m n) n f (zly_br hB) hn7 hn2) ?_
      rintro _ _ ⟨rfl, rfl⟩
      refine nz_iconst (pc' := 41) (g_d dtbX4_lay_0 23 rfl) rfl ?_
      refine nz_cVv (M' := mX4_put) (k := 24) (As := [.ref 1, iv ((n : Int)), iv (f (14 + n)), iv 1]) (S := []) (L := [some (.ref 24), some (.ref 1), some (iv ((m : Int))), some (iv ((n : Int)))]) (pc' := 44) (g_d dtbX4_lay_0 24 rfl) lk_X4_50 okX4_put (by decide) rfl rfl rfl rfl (Nat.le_of_ble_eq_true rfl) (Nat.le_of_ble_eq_true rfl) (by decide) rfl (c_put G (zly Z f m n) n κ m f B (f (14 + n)) 1 (zly_br hB) hR hBB (by simp [zly, zr, zu]) hm99 hn7 hn2 hκ hκ6 hto) ?_
      rintro _ rfl
      rw [← hκ, zly_s hm99]
      refine nz_iinc (L' := [some (.ref 24), some (.ref 1), some (iv ((m : Int))), some (iv (((n : Int)) + 1))]) (pc' := 47) (g_d dtbX4_lay_0 25 rfl) (by decide) rfl rfl rfl ?_
      refine cz_goto (pc' := 24) (g_d dtbX4_lay_0 26 rfl) rfl ?_
      exact ih ((f 6).toNat - (n + 1)) (by omega) (n + 1) rfl (by omega)

set_option maxRecDepth 20000 in
set_option maxHeartbeats 4000000 in
theorem c_lay (G : Wd) (Z : ZS) (m : Nat) (f : Row) (B : Int) (hB : BR Z 1 f) (hR : RO B f) (hBB : B ≤ 100000000) (hm99 : m ≤ 99) : Cn G mX4_lay 0 [some (.ref 24), some (.ref 1), some (iv ((m : Int))), none] [] Z (qv (fun W => zly Z f m (f 6).toNat = W)) := by
  refine cz_aload_n (pc' := 1) (g_d dtbX4_lay_0 0 rfl) rfl rfl ?_
  refine nz_iconst (pc' := 2) (g_d dtbX4_lay_0 1 rfl) rfl ?_
  refine cz_iload_n (pc' := 3) (g_d dtbX4_lay_0 2 rfl) rfl rfl ?_
  refine nz_bipush (pc' := 5) (g_d dtbX4_lay_0 3 rfl) (by decide) rfl ?_
  refine nz_cSi (M' := mJ9_min_7cf53) (As := [iv ((m : Int)), iv 99]) (S := [iv 0, .ref 24]) (L := [some (.ref 24), some (.ref 1), some (iv ((m : Int))), none]) (pc' := 8) (g_d dtbX4_lay_0 4 rfl) lk_X4_22 okJ9_min_7cf53 rfl rfl (Nat.le_of_ble_eq_true rfl) (Nat.le_of_ble_eq_true rfl) (by decide) rfl (c_min G Z ((m : Int)) 99 (by omega) (by omega)) ?_
  rintro _ _ ⟨rfl, rfl⟩
  refine nz_cSi (M' := mJ9_max_7cf53) (As := [iv 0, iv (min ((m : Int)) 99)]) (S := [.ref 24]) (L := [some (.ref 24), some (.ref 1), some (iv ((m : Int))), none]) (pc' := 11) (g_d dtbX4_lay_0 5 rfl) lk_X4_28 okJ9_max_7cf53 rfl rfl (Nat.le_of_ble_eq_true rfl) (Nat.le_of_ble_eq_true rfl) (by decide) rfl (c_max G Z 0 (min ((m : Int)) 99) (by omega) (by omega)) ?_
  rintro _ _ ⟨rfl, rfl⟩
  refine nz_puti (pc' := 14) (g_d dtbX4_lay_0 6 rfl) pf_X4_31 rfl (by decide) rfl rfl ?_
  rw [show max 0 (min (m : Int) 99) = (m : Int) by omega]
  refine cz_aload_n (pc' := 15) (g_d dtbX4_lay_0 7 rfl) rfl rfl ?_
  refine nz_getf (v := .ref 32) (pc' := 18) (g_d dtbX4_lay_0 8 rfl) gf_X4_18 (by decide) rfl rfl rfl ?_
  refine nz_iconst (pc' := 19) (g_d dtbX4_lay_0 9 rfl) rfl ?_
  refine nz_cSv (M' := mJ7_fill_53178) (As := [.ref 32, iv 0]) (S := []) (L := [some (.ref 24), some (.ref 1), some (iv ((m : Int))), none]) (pc' := 22) (g_d dtbX4_lay_0 10 rfl) lk_X4_35 okJ7_fill_53178 rfl rfl (Nat.le_of_ble_eq_true rfl) (Nat.le_of_ble_eq_true rfl) (by decide) rfl (c_fill G (zu Z 24 2 ((m : Int))) 32 _ _ (by decide) rfl (by decide)) ?_
  rintro _ rfl
  rw [zly_0 (f := f) hm99]
  refine nz_iconst (pc' := 23) (g_d dtbX4_lay_0 11 rfl) rfl ?_
  refine cz_istore_n (L' := [some (.ref 24), some (.ref 1), some (iv ((m : Int))), some (iv 0)]) (pc' := 24) (g_d dtbX4_lay_0 12 rfl) (by decide) rfl rfl ?_
  exact l_lay G Z m f B hB hR hBB hm99 ((f 6).toNat - 0) 0 rfl (by have := hR.2.1; omega)

set_option maxRecDepth 20000 in
set_option maxHeartbeats 4000000 in
theorem l_run (G : Wd) (Z : ZS) (m : Nat) (sp a : Int) (hm : Z 24 2 = (m : Int)) (hm99 : m ≤ 99) (hg : ∀ i, i < m → -1000000 ≤ Z 32 i ∧ Z 32 i ≤ 1000000) (hs : 0 ≤ sp ∧ sp ≤ 1000) (ha : -1000000000 ≤ a ∧ a ≤ 1000000000) : ∀ (d : Nat) (i : Nat), m - i = d → i ≤ m → Cn G mX4_run 27 [some (.ref 24), some (iv (a)), some (iv (sp)), some (iv ((i : Int)))] [] (z5 Z (rL (Z 32) sp a i) (rC (Z 32) sp a i) (rM (Z 32) sp a i) (rI (Z 32) sp a i) (rBl (Z 32) sp a i)) (qv (fun W => zrun Z sp a m = W)) := by
  intro d
  induction d using Nat.strongRecOn with
  | ind d ih =>
    intro i hd hi
    have hL := rL_in hg hs ha i hi
    have hM := rM_in hg hs ha i hi
    have hC := rC_in (g := Z 32) (sp := sp) (a := a) i
    have hBl := rBl_in (g := Z 32) (sp := sp) (a := a) i
    refine cz_iload_n (pc' := 28) (g_d dtbX4_run_0 17 rfl) rfl rfl ?_
    refine cz_aload_n (pc' := 29) (g_d dtbX4_run_0 18 rfl) rfl rfl ?_
    refine nz_getf (v := iv ((m : Int))) (pc' := 32) (g_d dtbX4_run_0 19 rfl) gf_X4_31 (by decide) rfl (congrArg iv (hm)) rfl ?_
    refine nz_icmp_ge (tgt := 137) (pc' := 35) (g_d dtbX4_run_0 20 rfl) (by omega) (by omega) rfl rfl (fun h32 => ?_) (fun h32 => ?_)
    · refine nz_rv (g_d dtbX4_run_1 17 rfl) rfl ?_
      rw [show i = m by omega]; rfl
    · have hgi := hg i (by omega)
      refine cz_aload_n (pc' := 36) (g_d dtbX4_run_0 21 rfl) rfl rfl ?_
      refine cz_dup (pc' := 37) (g_d dtbX4_run_0 22 rfl) rfl rfl ?_
      refine nz_getf (v := iv (rL (Z 32) sp a i)) (pc' := 40) (g_d dtbX4_run_0 23 rfl) gf_X4_78 (by decide) rfl rfl rfl ?_
      refine cz_aload_n (pc' := 41) (g_d dtbX4_run_0 24 rfl) rfl rfl ?_
      refine nz_getf (v := .ref 32) (pc' := 44) (g_d dtbX4_run_0 25 rfl) gf_X4_18 (by decide) rfl rfl rfl ?_
      refine cz_iload_n (pc' := 45) (g_d dtbX4_run_0 26 rfl) rfl rfl ?_
      refine nz_iald i (pc' := 46) (g_d dtbX4_run_0 27 rfl) (by decide) rfl (by omega) (by rfl) (by omega) rfl ?_
      rw [show (z5 Z (rL (Z 32) sp a i) (rC (Z 32) sp a i) (rM (Z 32) sp a i) (rI (Z 32) sp a i) (rBl (Z 32) sp a i)) 32 i = Z 32 i from rfl]
      refine cz_iload_n (pc' := 47) (g_d dtbX4_run_0 28 rfl) rfl rfl ?_
      refine nz_iadd (pc' := 48) (g_d dtbX4_run_0 29 rfl) rfl ?_
      refine nz_isub (pc' := 49) (g_d dtbX4_run_0 30 rfl) rfl ?_
      refine nz_puti (pc' := 52) (g_d dtbX4_run_0 31 rfl) pf_X4_78 rfl (by decide) rfl rfl ?_
      rw [z5_3]
      refine cz_aload_n (pc' := 53) (g_d dtbX4_run_0 32 rfl) rfl rfl ?_
      refine nz_getf (v := iv ((rL (Z 32) sp a i) - ((Z 32 i) + sp))) (pc' := 56) (g_d dtbX4_run_0 33 rfl) gf_X4_78 (by decide) rfl rfl rfl ?_
      refine nz_if_ge (tgt := 101) (pc' := 59) (g_d dtbX4_run_0 34 rfl) (by omega) rfl rfl (fun h56 => ?_) (fun h56 => ?_)
      · refine cz_iload_n (pc' := 102) (g_d dtbX4_run_0 59 rfl) rfl rfl ?_
        refine nz_if_eq (tgt := 116) (pc' := 105) (g_d dtbX4_run_1 0 rfl) (by omega) rfl rfl (fun h102 => ?_) (fun h102 => ?_)
        · refine cz_aload_n (pc' := 117) (g_d dtbX4_run_1 6 rfl) rfl rfl ?_
          refine cz_aload_n (pc' := 118) (g_d dtbX4_run_1 7 rfl) rfl rfl ?_
          refine nz_getf (v := iv ((rL (Z 32) sp a i) - ((Z 32 i) + sp))) (pc' := 121) (g_d dtbX4_run_1 8 rfl) gf_X4_78 (by decide) rfl rfl rfl ?_
          refine nz_puti (pc' := 124) (g_d dtbX4_run_1 9 rfl) pf_X4_84 rfl (by decide) rfl rfl ?_
          rw [z5_5]
          refine cz_aload_n (pc' := 125) (g_d dtbX4_run_1 10 rfl) rfl rfl ?_
          refine cz_iload_n (pc' := 126) (g_d dtbX4_run_1 11 rfl) rfl rfl ?_
          refine nz_iconst (pc' := 127) (g_d dtbX4_run_1 12 rfl) rfl ?_
          refine nz_iadd (pc' := 128) (g_d dtbX4_run_1 13 rfl) rfl ?_
          refine nz_puti (pc' := 131) (g_d dtbX4_run_1 14 rfl) pf_X4_87 rfl (by decide) rfl rfl ?_
          rw [z5_6]
          refine nz_iinc (L' := [some (.ref 24), some (iv (a)), some (iv (sp)), some (iv (((i : Int)) + 1))]) (pc' := 134) (g_d dtbX4_run_1 15 rfl) (by decide) rfl rfl rfl ?_
          refine cz_goto (pc' := 27) (g_d dtbX4_run_1 16 rfl) rfl ?_
          rw [show (z5 Z ((rL (Z 32) sp a i) - ((Z 32 i) + sp)) (rC (Z 32) sp a i) ((rL (Z 32) sp a i) - ((Z 32 i) + sp)) (((i : Int)) + 1) (rBl (Z 32) sp a i)) = zrun Z sp a (i + 1) from by
            unfold zrun
            congr 1 <;> (simp only [rL, rC, rBl, rM, rI]; (repeat' split) <;> omega)]
          exact ih (m - (i + 1)) (by omega) (i + 1) rfl (by omega)
        · refine cz_aload_n (pc' := 106) (g_d dtbX4_run_1 1 rfl) rfl rfl ?_
          refine nz_getf (v := iv ((rL (Z 32) sp a i) - ((Z 32 i) + sp))) (pc' := 109) (g_d dtbX4_run_1 2 rfl) gf_X4_78 (by decide) rfl rfl rfl ?_
          refine cz_aload_n (pc' := 110) (g_d dtbX4_run_1 3 rfl) rfl rfl ?_
          refine nz_getf (v := iv (rM (Z 32) sp a i)) (pc' := 113) (g_d dtbX4_run_1 4 rfl) gf_X4_84 (by decide) rfl rfl rfl ?_
          refine nz_icmp_ge (tgt := 131) (pc' := 116) (g_d dtbX4_run_1 5 rfl) (by omega) (by omega) rfl rfl (fun h113 => ?_) (fun h113 => ?_)
          · refine nz_iinc (L' := [some (.ref 24), some (iv (a)), some (iv (sp)), some (iv (((i : Int)) + 1))]) (pc' := 134) (g_d dtbX4_run_1 15 rfl) (by decide) rfl rfl rfl ?_
            refine cz_goto (pc' := 27) (g_d dtbX4_run_1 16 rfl) rfl ?_
            rw [show (z5 Z ((rL (Z 32) sp a i) - ((Z 32 i) + sp)) (rC (Z 32) sp a i) (rM (Z 32) sp a i) (rI (Z 32) sp a i) (rBl (Z 32) sp a i)) = zrun Z sp a (i + 1) from by
              unfold zrun
              congr 1 <;> (simp only [rL, rC, rBl, rM, rI]; (repeat' split) <;> omega)]
            exact ih (m - (i + 1)) (by omega) (i + 1) rfl (by omega)
          · refine cz_aload_n (pc' := 117) (g_d dtbX4_run_1 6 rfl) rfl rfl ?_
            refine cz_aload_n (pc' := 118) (g_d dtbX4_run_1 7 rfl) rfl rfl ?_
            refine nz_getf (v := iv ((rL (Z 32) sp a i) - ((Z 32 i) + sp))) (pc' := 121) (g_d dtbX4_run_1 8 rfl) gf_X4_78 (by decide) rfl rfl rfl ?_
            refine nz_puti (pc' := 124) (g_d dtbX4_run_1 9 rfl) pf_X4_84 rfl (by decide) rfl rfl ?_
            rw [z5_5]
            refine cz_aload_n (pc' := 125) (g_d dtbX4_run_1 10 rfl) rfl rfl ?_
            refine cz_iload_n (pc' := 126) (g_d dtbX4_run_1 11 rfl) rfl rfl ?_
            refine nz_iconst (pc' := 127) (g_d dtbX4_run_1 12 rfl) rfl ?_
            refine nz_iadd (pc' := 128) (g_d dtbX4_run_1 13 rfl) rfl ?_
            refine nz_puti (pc' := 131) (g_d dtbX4_run_1 14 rfl) pf_X4_87 rfl (by decide) rfl rfl ?_
            rw [z5_6]
            refine nz_iinc (L' := [some (.ref 24), some (iv (a)), some (iv (sp)), some (iv (((i : Int)) + 1))]) (pc' := 134) (g_d dtbX4_run_1 15 rfl) (by decide) rfl rfl rfl ?_
            refine cz_goto (pc' := 27) (g_d dtbX4_run_1 16 rfl) rfl ?_
            rw [show (z5 Z ((rL (Z 32) sp a i) - ((Z 32 i) + sp)) (rC (Z 32) sp a i) ((rL (Z 32) sp a i) - ((Z 32 i) + sp)) (((i : Int)) + 1) (rBl (Z 32) sp a i)) = zrun Z sp a (i + 1) from by
              unfold zrun
              congr 1 <;> (simp only [rL, rC, rBl, rM, rI]; (repeat' split) <;> omega)]
            exact ih (m - (i + 1)) (by omega) (i + 1) rfl (by omega)
      · refine cz_aload_n (pc' := 60) (g_d dtbX4_run_0 35 rfl) rfl rfl ?_
        refine cz_dup (pc' := 61) (g_d dtbX4_run_0 36 rfl) rfl rfl ?_
        refine nz_getf (v := iv ((rL (Z 32) sp a i) - ((Z 32 i) + sp))) (pc' := 64) (g_d dtbX4_run_0 37 rfl) gf_X4_78 (by decide) rfl rfl rfl ?_
        refine nz_iconst (pc' := 65) (g_d dtbX4_run_0 38 rfl) rfl ?_
        refine nz_isub (pc' := 66) (g_d dtbX4_run_0 39 rfl) rfl ?_
        refine nz_puti (pc' := 69) (g_d dtbX4_run_0 40 rfl) pf_X4_78 rfl (by decide) rfl rfl ?_
        rw [z5_3]
        refine cz_aload_n (pc' := 70) (g_d dtbX4_run_0 41 rfl) rfl rfl ?_
        refine cz_dup (pc' := 71) (g_d dtbX4_run_0 42 rfl) rfl rfl ?_
        refine nz_getf (v := iv (rC (Z 32) sp a i)) (pc' := 74) (g_d dtbX4_run_0 43 rfl) gf_X4_81 (by decide) rfl rfl rfl ?_
        refine nz_iconst (pc' := 75) (g_d dtbX4_run_0 44 rfl) rfl ?_
        refine nz_iadd (pc' := 76) (g_d dtbX4_run_0 45 rfl) rfl ?_
        refine nz_puti (pc' := 79) (g_d dtbX4_run_0 46 rfl) pf_X4_81 rfl (by decide) rfl rfl ?_
        rw [z5_4]
        refine cz_aload_n (pc' := 80) (g_d dtbX4_run_0 47 rfl) rfl rfl ?_
        refine cz_aload_n (pc' := 81) (g_d dtbX4_run_0 48 rfl) rfl rfl ?_
        refine nz_getf (v := iv (rBl (Z 32) sp a i)) (pc' := 84) (g_d dtbX4_run_0 49 rfl) gf_X4_90 (by decide) rfl rfl rfl ?_
        refine nz_iconst (pc' := 85) (g_d dtbX4_run_0 50 rfl) rfl ?_
        refine nz_icmp_ne (tgt := 94) (pc' := 88) (g_d dtbX4_run_0 51 rfl) (by omega) (by omega) rfl rfl (fun h85 => ?_) (fun h85 => ?_)
        · refine cz_aload_n (pc' := 95) (g_d dtbX4_run_0 56 rfl) rfl rfl ?_
          refine nz_getf (v := iv (rBl (Z 32) sp a i)) (pc' := 98) (g_d dtbX4_run_0 57 rfl) gf_X4_90 (by decide) rfl rfl rfl ?_
          refine nz_puti (pc' := 101) (g_d dtbX4_run_0 58 rfl) pf_X4_90 rfl (by decide) rfl rfl ?_
          rw [z5_7]
          refine cz_iload_n (pc' := 102) (g_d dtbX4_run_0 59 rfl) rfl rfl ?_
          refine nz_if_eq (tgt := 116) (pc' := 105) (g_d dtbX4_run_1 0 rfl) (by omega) rfl rfl (fun h102 => ?_) (fun h102 => ?_)
          · refine cz_aload_n (pc' := 117) (g_d dtbX4_run_1 6 rfl) rfl rfl ?_
            refine cz_aload_n (pc' := 118) (g_d dtbX4_run_1 7 rfl) rfl rfl ?_
            refine nz_getf (v := iv (((rL (Z 32) sp a i) - ((Z 32 i) + sp)) - 1)) (pc' := 121) (g_d dtbX4_run_1 8 rfl) gf_X4_78 (by decide) rfl rfl rfl ?_
            refine nz_puti (pc' := 124) (g_d dtbX4_run_1 9 rfl) pf_X4_84 rfl (by decide) rfl rfl ?_
            rw [z5_5]
            refine cz_aload_n (pc' := 125) (g_d dtbX4_run_1 10 rfl) rfl rfl ?_
            refine cz_iload_n (pc' := 126) (g_d dtbX4_run_1 11 rfl) rfl rfl ?_
            refine nz_iconst (pc' := 127) (g_d dtbX4_run_1 12 rfl) rfl ?_
            refine nz_iadd (pc' := 128) (g_d dtbX4_run_1 13 rfl) rfl ?_
            refine nz_puti (pc' := 131) (g_d dtbX4_run_1 14 rfl) pf_X4_87 rfl (by decide) rfl rfl ?_
            rw [z5_6]
            refine nz_iinc (L' := [some (.ref 24), some (iv (a)), some (iv (sp)), some (iv (((i : Int)) + 1))]) (pc' := 134) (g_d dtbX4_run_1 15 rfl) (by decide) rfl rfl rfl ?_
            refine cz_goto (pc' := 27) (g_d dtbX4_run_1 16 rfl) rfl ?_
            rw [show (z5 Z (((rL (Z 32) sp a i) - ((Z 32 i) + sp)) - 1) ((rC (Z 32) sp a i) + 1) (((rL (Z 32) sp a i) - ((Z 32 i) + sp)) - 1) (((i : Int)) + 1) (rBl (Z 32) sp a i)) = zrun Z sp a (i + 1) from by
              unfold zrun
              congr 1 <;> (simp only [rL, rC, rBl, rM, rI]; (repeat' split) <;> omega)]
            exact ih (m - (i + 1)) (by omega) (i + 1) rfl (by omega)
          · refine cz_aload_n (pc' := 106) (g_d dtbX4_run_1 1 rfl) rfl rfl ?_
            refine nz_getf (v := iv (((rL (Z 32) sp a i) - ((Z 32 i) + sp)) - 1)) (pc' := 109) (g_d dtbX4_run_1 2 rfl) gf_X4_78 (by decide) rfl rfl rfl ?_
            refine cz_aload_n (pc' := 110) (g_d dtbX4_run_1 3 rfl) rfl rfl ?_
            refine nz_getf (v := iv (rM (Z 32) sp a i)) (pc' := 113) (g_d dtbX4_run_1 4 rfl) gf_X4_84 (by decide) rfl rfl rfl ?_
            refine nz_icmp_ge (tgt := 131) (pc' := 116) (g_d dtbX4_run_1 5 rfl) (by omega) (by omega) rfl rfl (fun h113 => ?_) (fun h113 => ?_)
            · refine nz_iinc (L' := [some (.ref 24), some (iv (a)), some (iv (sp)), some (iv (((i : Int)) + 1))]) (pc' := 134) (g_d dtbX4_run_1 15 rfl) (by decide) rfl rfl rfl ?_
              refine cz_goto (pc' := 27) (g_d dtbX4_run_1 16 rfl) rfl ?_
              rw [show (z5 Z (((rL (Z 32) sp a i) - ((Z 32 i) + sp)) - 1) ((rC (Z 32) sp a i) + 1) (rM (Z 32) sp a i) (rI (Z 32) sp a i) (rBl (Z 32) sp a i)) = zrun Z sp a (i + 1) from by
                unfold zrun
                congr 1 <;> (simp only [rL, rC, rBl, rM, rI]; (repeat' split) <;> omega)]
              exact ih (m - (i + 1)) (by omega) (i + 1) rfl (by omega)
            · refine cz_aload_n (pc' := 117) (g_d dtbX4_run_1 6 rfl) rfl rfl ?_
              refine cz_aload_n (pc' := 118) (g_d dtbX4_run_1 7 rfl) rfl rfl ?_
              refine nz_getf (v := iv (((rL (Z 32) sp a i) - ((Z 32 i) + sp)) - 1)) (pc' := 121) (g_d dtbX4_run_1 8 rfl) gf_X4_78 (by decide) rfl rfl rfl ?_
              refine nz_puti (pc' := 124) (g_d dtbX4_run_1 9 rfl) pf_X4_84 rfl (by decide) rfl rfl ?_
              rw [z5_5]
              refine cz_aload_n (pc' := 125) (g_d dtbX4_run_1 10 rfl) rfl rfl ?_
              refine cz_iload_n (pc' := 126) (g_d dtbX4_run_1 11 rfl) rfl rfl ?_
              refine nz_iconst (pc' := 127) (g_d dtbX4_run_1 12 rfl) rfl ?_
              refine nz_iadd (pc' := 128) (g_d dtbX4_run_1 13 rfl) rfl ?_
              refine nz_puti (pc' := 131) (g_d dtbX4_run_1 14 rfl) pf_X4_87 rfl (by decide) rfl rfl ?_
              rw [z5_6]
              refine nz_iinc (L' := [some (.ref 24), some (iv (a)), some (iv (sp)), some (iv (((i : Int)) + 1))]) (pc' := 134) (g_d dtbX4_run_1 15 rfl) (by decide) rfl rfl rfl ?_
              refine cz_goto (pc' := 27) (g_d dtbX4_run_1 16 rfl) rfl ?_
              rw [show (z5 Z (((rL (Z 32) sp a i) - ((Z 32 i) + sp)) - 1) ((rC (Z 32) sp a i) + 1) (((rL (Z 32) sp a i) - ((Z 32 i) + sp)) - 1) (((i : Int)) + 1) (rBl (Z 32) sp a i)) = zrun Z sp a (i + 1) from by
                unfold zrun
                congr 1 <;> (simp only [rL, rC, rBl, rM, rI]; (repeat' split) <;> omega)]
              exact ih (m - (i + 1)) (by omega) (i + 1) rfl (by omega)
        · refine cz_iload_n (pc' := 89) (g_d dtbX4_run_0 52 rfl) rfl rfl ?_
          refine nz_iconst (pc' := 90) (g_d dtbX4_run_0 53 rfl) rfl ?_
          refine nz_iadd (pc' := 91) (g_d dtbX4_run_0 54 rfl) rfl ?_
          refine cz_goto (pc' := 98) (g_d dtbX4_run_0 55 rfl) rfl ?_
          refine nz_puti (pc' := 101) (g_d dtbX4_run_0 58 rfl) pf_X4_90 rfl (by decide) rfl rfl ?_
          rw [z5_7]
          refine cz_iload_n (pc' := 102) (g_d dtbX4_run_0 59 rfl) rfl rfl ?_
          refine nz_if_eq (tgt := 116) (pc' := 105) (g_d dtbX4_run_1 0 rfl) (by omega) rfl rfl (fun h102 => ?_) (fun h102 => ?_)
          · refine cz_aload_n (pc' := 117) (g_d dtbX4_run_1 6 rfl) rfl rfl ?_
            refine cz_aload_n (pc' := 118) (g_d dtbX4_run_1 7 rfl) rfl rfl ?_
            refine nz_getf (v := iv (((rL (Z 32) sp a i) - ((Z 32 i) + sp)) - 1)) (pc' := 121) (g_d dtbX4_run_1 8 rfl) gf_X4_78 (by decide) rfl rfl rfl ?_
            refine nz_puti (pc' := 124) (g_d dtbX4_run_1 9 rfl) pf_X4_84 rfl (by decide) rfl rfl ?_
            rw [z5_5]
            refine cz_aload_n (pc' := 125) (g_d dtbX4_run_1 10 rfl) rfl rfl ?_
            refine cz_iload_n (pc' := 126) (g_d dtbX4_run_1 11 rfl) rfl rfl ?_
            refine nz_iconst (pc' := 127) (g_d dtbX4_run_1 12 rfl) rfl ?_
            refine nz_iadd (pc' := 128) (g_d dtbX4_run_1 13 rfl) rfl ?_
            refine nz_puti (pc' := 131) (g_d dtbX4_run_1 14 rfl) pf_X4_87 rfl (by decide) rfl rfl ?_
            rw [z5_6]
            refine nz_iinc (L' := [some (.ref 24), some (iv (a)), some (iv (sp)), some (iv (((i : Int)) + 1))]) (pc' := 134) (g_d dtbX4_run_1 15 rfl) (by decide) rfl rfl rfl ?_
            refine cz_goto (pc' := 27) (g_d dtbX4_run_1 16 rfl) rfl ?_
            rw [show (z5 Z (((rL (Z 32) sp a i) - ((Z 32 i) + sp)) - 1) ((rC (Z 32) sp a i) + 1) (((rL (Z 32) sp a i) - ((Z 32 i) + sp)) - 1) (((i : Int)) + 1) (((i : Int)) + 1)) = zrun Z sp a (i + 1) from by
              unfold zrun
              congr 1 <;> (simp only [rL, rC, rBl, rM, rI]; (repeat' split) <;> omega)]
            exact ih (m - (i + 1)) (by omega) (i + 1) rfl (by omega)
          · refine cz_aload_n (pc' := 106) (g_d dtbX4_run_1 1 rfl) rfl rfl ?_
            refine nz_getf (v := iv (((rL (Z 32) sp a i) - ((Z 32 i) + sp)) - 1)) (pc' := 109) (g_d dtbX4_run_1 2 rfl) gf_X4_78 (by decide) rfl rfl rfl ?_
            refine cz_aload_n (pc' := 110) (g_d dtbX4_run_1 3 rfl) rfl rfl ?_
            refine nz_getf (v := iv (rM (Z 32) sp a i)) (pc' := 113) (g_d dtbX4_run_1 4 rfl) gf_X4_84 (by decide) rfl rfl rfl ?_
            refine nz_icmp_ge (tgt := 131) (pc' := 116) (g_d dtbX4_run_1 5 rfl) (by omega) (by omega) rfl rfl (fun h113 => ?_) (fun h113 => ?_)
            · refine nz_iinc (L' := [some (.ref 24), some (iv (a)), some (iv (sp)), some (iv (((i : Int)) + 1))]) (pc' := 134) (g_d dtbX4_run_1 15 rfl) (by decide) rfl rfl rfl ?_
              refine cz_goto (pc' := 27) (g_d dtbX4_run_1 16 rfl) rfl ?_
              rw [show (z5 Z (((rL (Z 32) sp a i) - ((Z 32 i) + sp)) - 1) ((rC (Z 32) sp a i) + 1) (rM (Z 32) sp a i) (rI (Z 32) sp a i) (((i : Int)) + 1)) = zrun Z sp a (i + 1) from by
                unfold zrun
                congr 1 <;> (simp only [rL, rC, rBl, rM, rI]; (repeat' split) <;> omega)]
              exact ih (m - (i + 1)) (by omega) (i + 1) rfl (by omega)
            · refine cz_aload_n (pc' := 117) (g_d dtbX4_run_1 6 rfl) rfl rfl ?_
              refine cz_aload_n (pc' := 118) (g_d dtbX4_run_1 7 rfl) rfl rfl ?_
              refine nz_getf (v := iv (((rL (Z 32) sp a i) - ((Z 32 i) + sp)) - 1)) (pc' := 121) (g_d dtbX4_run_1 8 rfl) gf_X4_78 (by decide) rfl rfl rfl ?_
              refine nz_puti (pc' := 124) (g_d dtbX4_run_1 9 rfl) pf_X4_84 rfl (by decide) rfl rfl ?_
              rw [z5_5]
              refine cz_aload_n (pc' := 125) (g_d dtbX4_run_1 10 rfl) rfl rfl ?_
              refine cz_iload_n (pc' := 126) (g_d dtbX4_run_1 11 rfl) rfl rfl ?_
              refine nz_iconst (pc' := 127) (g_d dtbX4_run_1 12 rfl) rfl ?_
              refine nz_iadd (pc' := 128) (g_d dtbX4_run_1 13 rfl) rfl ?_
              refine nz_puti (pc' := 131) (g_d dtbX4_run_1 14 rfl) pf_X4_87 rfl (by decide) rfl rfl ?_
              rw [z5_6]
              refine nz_iinc (L' := [some (.ref 24), some (iv (a)), some (iv (sp)), some (iv (((i : Int)) + 1))]) (pc' := 134) (g_d dtbX4_run_1 15 rfl) (by decide) rfl rfl rfl ?_
              refine cz_goto (pc' := 27) (g_d dtbX4_run_1 16 rfl) rfl ?_
              rw [show (z5 Z (((rL (Z 32) sp a i) - ((Z 32 i) + sp)) - 1) ((rC (Z 32) sp a i) + 1) (((rL (Z 32) sp a i) - ((Z 32 i) + sp)) - 1) (((i : Int)) + 1) (((i : Int)) + 1)) = zrun Z sp a (i + 1) from by
                unfold zrun
                congr 1 <;> (simp only [rL, rC, rBl, rM, rI]; (repeat' split) <;> omega)]
              exact ih (m - (i + 1)) (by omega) (i + 1) rfl (by omega)

set_option maxRecDepth 20000 in
set_option maxHeartbeats 4000000 in
theorem c_run (G : Wd) (Z : ZS) (m : Nat) (sp a : Int) (hm : Z 24 2 = (m : Int)) (hm99 : m ≤ 99) (hg : ∀ i, i < m → -1000000 ≤ Z 32 i ∧ Z 32 i ≤ 1000000) (hs : 0 ≤ sp ∧ sp ≤ 1000) (ha : -1000000000 ≤ a ∧ a ≤ 1000000000) : Cn G mX4_run 0 [some (.ref 24), some (iv (a)), some (iv (sp)), none] [] Z (qv (fun W => zrun Z sp a m = W)) := by
  refine cz_aload_n (pc' := 1) (g_d dtbX4_run_0 0 rfl) rfl rfl ?_
  refine cz_iload_n (pc' := 2) (g_d dtbX4_run_0 1 rfl) rfl rfl ?_
  refine nz_puti (pc' := 5) (g_d dtbX4_run_0 2 rfl) pf_X4_78 rfl (by decide) rfl rfl ?_
  rw [show zu Z 24 3 a = z5 Z a (Z 24 4) (Z 24 5) (Z 24 6) (Z 24 7) from by conv => lhs; rw [z5_in Z, z5_3]]
  refine cz_aload_n (pc' := 6) (g_d dtbX4_run_0 3 rfl) rfl rfl ?_
  refine nz_iconst (pc' := 7) (g_d dtbX4_run_0 4 rfl) rfl ?_
  refine nz_puti (pc' := 10) (g_d dtbX4_run_0 5 rfl) pf_X4_81 rfl (by decide) rfl rfl ?_
  rw [z5_4]
  refine cz_aload_n (pc' := 11) (g_d dtbX4_run_0 6 rfl) rfl rfl ?_
  refine cz_iload_n (pc' := 12) (g_d dtbX4_run_0 7 rfl) rfl rfl ?_
  refine nz_puti (pc' := 15) (g_d dtbX4_run_0 8 rfl) pf_X4_84 rfl (by decide) rfl rfl ?_
  rw [z5_5]
  refine cz_aload_n (pc' := 16) (g_d dtbX4_run_0 9 rfl) rfl rfl ?_
  refine nz_iconst (pc' := 17) (g_d dtbX4_run_0 10 rfl) rfl ?_
  refine nz_puti (pc' := 20) (g_d dtbX4_run_0 11 rfl) pf_X4_87 rfl (by decide) rfl rfl ?_
  rw [z5_6]
  refine cz_aload_n (pc' := 21) (g_d dtbX4_run_0 12 rfl) rfl rfl ?_
  refine nz_iconst (pc' := 22) (g_d dtbX4_run_0 13 rfl) rfl ?_
  refine nz_puti (pc' := 25) (g_d dtbX4_run_0 14 rfl) pf_X4_90 rfl (by decide) rfl rfl ?_
  rw [z5_7]
  refine nz_iconst (pc' := 26) (g_d dtbX4_run_0 15 rfl) rfl ?_
  refine cz_istore_n (L' := [some (.ref 24), some (iv (a)), some (iv (sp)), some (iv 0)]) (pc' := 27) (g_d dtbX4_run_0 16 rfl) (by decide) rfl rfl ?_
  exact l_run G Z m sp a hm hm99 hg hs ha (m - 0) 0 rfl (Nat.zero_le _)

set_option maxRecDepth 20000 in
set_option maxHeartbeats 4000000 in
theorem c_drawMore (G : Wd) (Z : ZS) (m i : Nat) (v : Int) (hm : Z 24 2 = (m : Int)) (hm99 : m ≤ 99) (hi : i < m) : Cn G mX4_drawMore 0 [some (.ref 24), some (iv ((i : Int))), some (iv (v))] [] Z (qv (fun W => zu Z 32 i (Z 32 i + v) = W)) := by
  refine cz_iload_n (pc' := 1) (g_d dtbX4_drawMore_0 0 rfl) rfl rfl ?_
  refine nz_if_lt_f (pc' := 4) (g_d dtbX4_drawMore_0 1 rfl) (by omega) (by decide) rfl (by omega) ?_
  refine cz_iload_n (pc' := 5) (g_d dtbX4_drawMore_0 2 rfl) rfl rfl ?_
  refine cz_aload_n (pc' := 6) (g_d dtbX4_drawMore_0 3 rfl) rfl rfl ?_
  refine nz_getf (v := iv ((m : Int))) (pc' := 9) (g_d dtbX4_drawMore_0 4 rfl) gf_X4_31 (by decide) rfl (congrArg iv (hm)) rfl ?_
  refine nz_icmp_ge_f (pc' := 12) (g_d dtbX4_drawMore_0 5 rfl) (by omega) (by omega) (by decide) rfl (by omega) ?_
  refine cz_aload_n (pc' := 13) (g_d dtbX4_drawMore_0 6 rfl) rfl rfl ?_
  refine nz_getf (v := .ref 32) (pc' := 16) (g_d dtbX4_drawMore_0 7 rfl) gf_X4_18 (by decide) rfl rfl rfl ?_
  refine cz_iload_n (pc' := 17) (g_d dtbX4_drawMore_0 8 rfl) rfl rfl ?_
  refine cz_dup2 (pc' := 18) (g_d dtbX4_drawMore_0 9 rfl) rfl rfl rfl ?_
  refine nz_iald i (pc' := 19) (g_d dtbX4_drawMore_0 10 rfl) (by decide) rfl (by omega) (by rfl) (by omega) rfl ?_
  refine cz_iload_n (pc' := 20) (g_d dtbX4_drawMore_0 11 rfl) rfl rfl ?_
  refine nz_iadd (pc' := 21) (g_d dtbX4_drawMore_0 12 rfl) rfl ?_
  refine nz_iast i (pc' := 22) (g_d dtbX4_drawMore_0 13 rfl) (by decide) rfl (by omega) (by rfl) (by omega) rfl ?_
  refine nz_rv (g_d dtbX4_drawMore_0 14 rfl) rfl ?_
  exact rfl

theorem fdr {x y : Int} (hx : -1500000000 ≤ x ∧ x ≤ 1500000000) (hy : 1 ≤ y) : -1500000000 ≤ x / y ∧ x / y ≤ 1500000000 := by
  have h1 := Int.emod_add_mul_ediv x y
  have h2 := Int.emod_nonneg x (show y ≠ 0 by omega)
  constructor
  · apply Int.le_ediv_of_mul_le (by omega)
    have : (-1500000000 : Int) * y ≤ -1500000000 * 1 := by omega
    omega
  · apply Int.le_of_lt_add_one
    apply Int.ediv_lt_of_lt_mul (by omega)
    have : (1500000001 : Int) * 1 ≤ 1500000001 * y := by omega
    have e : (1500000000 + 1 : Int) = 1500000001 := by omega
    rw [e]
    omega

set_option maxRecDepth 20000 in
set_option maxHeartbeats 4000000 in
theorem l_most (G : Wd) (Z : ZS) (m : Nat) (a : Int) (hm : Z 24 2 = (m : Int)) (hm99 : m ≤ 99) (hg : ∀ i, i < m → -1000000 ≤ Z 32 i ∧ Z 32 i ≤ 1000000) (ha : -1000000000 ≤ a ∧ a ≤ 1000000000) : ∀ (d : Nat) (i : Nat), m - i = d → i ≤ m → Cn G mX4_mostSpending 8 [some (.ref 24), some (iv (a)), some (iv (mS (Z 32) a i)), some (iv (sS (Z 32) a i)), some (iv ((i : Int)))] [] Z (qi (fun r W => mS (Z 32) a m = r ∧ Z = W)) := by
  intro d
  induction d using Nat.strongRecOn with
  | ind d ih =>
    intro i hd hi
    refine cz_iload (pc' := 10) (g_d dtbX4_mostSpending_0 6 rfl) rfl rfl ?_
    refine cz_aload_n (pc' := 11) (g_d dtbX4_mostSpending_0 7 rfl) rfl rfl ?_
    refine nz_getf (v := iv ((m : Int))) (pc' := 14) (g_d dtbX4_mostSpending_0 8 rfl) gf_X4_31 (by decide) rfl (congrArg iv (hm)) rfl ?_
    refine nz_icmp_ge (tgt := 46) (pc' := 17) (g_d dtbX4_mostSpending_0 9 rfl) (by omega) (by omega) rfl rfl (fun h14 => ?_) (fun h14 => ?_)
    · refine cz_iload_n (pc' := 47) (g_d dtbX4_mostSpending_0 27 rfl) rfl rfl ?_
      refine nz_ri .int (g_d dtbX4_mostSpending_0 28 rfl) rfl rfl ?_
      rw [show i = m by omega]; exact ⟨rfl, rfl⟩
    · have hS := sS_in hg ha i hi
      have hgi := hg i (by omega)
      have hM := mS_in hg ha hm99 i hi
      have hM1 := mS_in hg ha hm99 (i + 1) (by omega)
      have hq : -2000000000 ≤ (sS (Z 32) a i - Z 32 i) / ((i : Int) + 1) ∧ (sS (Z 32) a i - Z 32 i) / ((i : Int) + 1) ≤ 2000000000 := by
        have hq1 := fdr (x := sS (Z 32) a i - Z 32 i) (y := (i : Int) + 1) (by omega) (by omega)
        omega
      refine cz_iload_n (pc' := 18) (g_d dtbX4_mostSpending_0 10 rfl) rfl rfl ?_
      refine cz_aload_n (pc' := 19) (g_d dtbX4_mostSpending_0 11 rfl) rfl rfl ?_
      refine nz_getf (v := .ref 32) (pc' := 22) (g_d dtbX4_mostSpending_0 12 rfl) gf_X4_18 (by decide) rfl rfl rfl ?_
      refine cz_iload (pc' := 24) (g_d dtbX4_mostSpending_0 13 rfl) rfl rfl ?_
      refine nz_iald i (pc' := 25) (g_d dtbX4_mostSpending_0 14 rfl) (by decide) rfl (by omega) (by rfl) (by omega) rfl ?_
      refine nz_isub (pc' := 26) (g_d dtbX4_mostSpending_0 15 rfl) rfl ?_
      refine cz_istore_n (L' := [some (.ref 24), some (iv (a)), some (iv (mS (Z 32) a i)), some (iv ((sS (Z 32) a i) - (Z 32 i))), some (iv ((i : Int)))]) (pc' := 27) (g_d dtbX4_mostSpending_0 16 rfl) (by decide) rfl rfl ?_
      refine cz_iload_n (pc' := 28) (g_d dtbX4_mostSpending_0 17 rfl) rfl rfl ?_
      refine cz_iload_n (pc' := 29) (g_d dtbX4_mostSpending_0 18 rfl) rfl rfl ?_
      refine cz_iload (pc' := 31) (g_d dtbX4_mostSpending_0 19 rfl) rfl rfl ?_
      refine nz_iconst (pc' := 32) (g_d dtbX4_mostSpending_0 20 rfl) rfl ?_
      refine nz_iadd (pc' := 33) (g_d dtbX4_mostSpending_0 21 rfl) rfl ?_
      refine nz_cSi (M' := mJ9_floorDiv_7cf53) (As := [iv ((sS (Z 32) a i) - (Z 32 i)), iv (((i : Int)) + 1)]) (S := [iv (mS (Z 32) a i)]) (L := [some (.ref 24), some (iv (a)), some (iv (mS (Z 32) a i)), some (iv ((sS (Z 32) a i) - (Z 32 i))), some (iv ((i : Int)))]) (pc' := 36) (g_d dtbX4_mostSpending_0 22 rfl) lk_X4_93 okJ9_floorDiv_7cf53 rfl rfl (Nat.le_of_ble_eq_true rfl) (Nat.le_of_ble_eq_true rfl) (by decide) rfl (c_fdiv G Z ((sS (Z 32) a i) - (Z 32 i)) (((i : Int)) + 1) (by omega) (by omega)) ?_
      rintro _ _ ⟨rfl, rfl⟩
      refine nz_cSi (M' := mJ9_min_7cf53) (As := [iv (mS (Z 32) a i), iv (((sS (Z 32) a i) - (Z 32 i)) / (((i : Int)) + 1))]) (S := []) (L := [some (.ref 24), some (iv (a)), some (iv (mS (Z 32) a i)), some (iv ((sS (Z 32) a i) - (Z 32 i))), some (iv ((i : Int)))]) (pc' := 39) (g_d dtbX4_mostSpending_0 23 rfl) lk_X4_22 okJ9_min_7cf53 rfl rfl (Nat.le_of_ble_eq_true rfl) (Nat.le_of_ble_eq_true rfl) (by decide) rfl (c_min G Z (mS (Z 32) a i) (((sS (Z 32) a i) - (Z 32 i)) / (((i : Int)) + 1)) (by omega) (by omega)) ?_
      rintro _ _ ⟨rfl, rfl⟩
      refine cz_istore_n (L' := [some (.ref 24), some (iv (a)), some (iv (min (mS (Z 32) a i) (((sS (Z 32) a i) - (Z 32 i)) / (((i : Int)) + 1)))), some (iv ((sS (Z 32) a i) - (Z 32 i))), some (iv ((i : Int)))]) (pc' := 40) (g_d dtbX4_mostSpending_0 24 rfl) (by decide) rfl rfl ?_
      refine nz_iinc (L' := [some (.ref 24), some (iv (a)), some (iv (min (mS (Z 32) a i) (((sS (Z 32) a i) - (Z 32 i)) / (((i : Int)) + 1)))), some (iv ((sS (Z 32) a i) - (Z 32 i))), some (iv (((i : Int)) + 1))]) (pc' := 43) (g_d dtbX4_mostSpending_0 25 rfl) (by decide) rfl rfl rfl ?_
      refine cz_goto (pc' := 8) (g_d dtbX4_mostSpending_0 26 rfl) rfl ?_
      exact ih (m - (i + 1)) (by omega) (i + 1) rfl (by omega)

set_option maxRecDepth 20000 in
set_option maxHeartbeats 4000000 in
theorem c_mostSpending (G : Wd) (Z : ZS) (m : Nat) (a : Int) (hm : Z 24 2 = (m : Int)) (hm99 : m ≤ 99) (hg : ∀ i, i < m → -1000000 ≤ Z 32 i ∧ Z 32 i ≤ 1000000) (ha : -1000000000 ≤ a ∧ a ≤ 1000000000) : Cn G mX4_mostSpending 0 [some (.ref 24), some (iv (a)), none, none, none] [] Z (qi (fun r W => mS (Z 32) a m = r ∧ Z = W)) := by
  refine nz_bipush (pc' := 2) (g_d dtbX4_mostSpending_0 0 rfl) (by decide) rfl ?_
  refine cz_istore_n (L' := [some (.ref 24), some (iv (a)), some (iv 30), none, none]) (pc' := 3) (g_d dtbX4_mostSpending_0 1 rfl) (by decide) rfl rfl ?_
  refine cz_iload_n (pc' := 4) (g_d dtbX4_mostSpending_0 2 rfl) rfl rfl ?_
  refine cz_istore_n (L' := [some (.ref 24), some (iv (a)), some (iv 30), some (iv (a)), none]) (pc' := 5) (g_d dtbX4_mostSpending_0 3 rfl) (by decide) rfl rfl ?_
  refine nz_iconst (pc' := 6) (g_d dtbX4_mostSpending_0 4 rfl) rfl ?_
  refine cz_istore (L' := [some (.ref 24), some (iv (a)), some (iv 30), some (iv (a)), some (iv 0)]) (pc' := 8) (g_d dtbX4_mostSpending_0 5 rfl) (by decide) rfl rfl ?_
  exact l_most G Z m a hm hm99 hg ha (m - 0) 0 rfl (Nat.zero_le _)

set_option maxRecDepth 20000 in
set_option maxHeartbeats 4000000 in
theorem l_least (G : Wd) (Z : ZS) (m : Nat) (sp a : Int) (hm : Z 24 2 = (m : Int)) (hm99 : m ≤ 99) (hg : ∀ i, i < m → -1000000 ≤ Z 32 i ∧ Z 32 i ≤ 1000000) (hs : 0 ≤ sp ∧ sp ≤ 1000) (ha : -1000000000 ≤ a ∧ a ≤ 1000000000) : ∀ (d : Nat) (i : Nat), m - i = d → i ≤ m → Cn G mX4_leastMore 8 [some (.ref 24), some (iv (a)), some (iv (sp)), some (iv (lM (Z 32) sp a i)), some (iv (sP (Z 32) sp a i)), some (iv ((i : Int)))] [] Z (qi (fun r W => lM (Z 32) sp a m = r ∧ Z = W)) := by
  intro d
  induction d using Nat.strongRecOn with
  | ind d ih =>
    intro i hd hi
    refine cz_iload (pc' := 10) (g_d dtbX4_leastMore_0 6 rfl) rfl rfl ?_
    refine cz_aload_n (pc' := 11) (g_d dtbX4_leastMore_0 7 rfl) rfl rfl ?_
    refine nz_getf (v := iv ((m : Int))) (pc' := 14) (g_d dtbX4_leastMore_0 8 rfl) gf_X4_31 (by decide) rfl (congrArg iv (hm)) rfl ?_
    refine nz_icmp_ge (tgt := 45) (pc' := 17) (g_d dtbX4_leastMore_0 9 rfl) (by omega) (by omega) rfl rfl (fun h14 => ?_) (fun h14 => ?_)
    · refine cz_iload_n (pc' := 46) (g_d dtbX4_leastMore_0 26 rfl) rfl rfl ?_
      refine nz_ri .int (g_d dtbX4_leastMore_0 27 rfl) rfl rfl ?_
      rw [show i = m by omega]; exact ⟨rfl, rfl⟩
    · have hS := sP_in hg hs ha i hi
      have hgi := hg i (by omega)
      have hM := lM_in hg hs ha hm99 i hi
      refine cz_iload (pc' := 19) (g_d dtbX4_leastMore_0 10 rfl) rfl rfl ?_
      refine cz_aload_n (pc' := 20) (g_d dtbX4_leastMore_0 11 rfl) rfl rfl ?_
      refine nz_getf (v := .ref 32) (pc' := 23) (g_d dtbX4_leastMore_0 12 rfl) gf_X4_18 (by decide) rfl rfl rfl ?_
      refine cz_iload (pc' := 25) (g_d dtbX4_leastMore_0 13 rfl) rfl rfl ?_
      refine nz_iald i (pc' := 26) (g_d dtbX4_leastMore_0 14 rfl) (by decide) rfl (by omega) (by rfl) (by omega) rfl ?_
      refine cz_iload_n (pc' := 27) (g_d dtbX4_leastMore_0 15 rfl) rfl rfl ?_
      refine nz_iadd (pc' := 28) (g_d dtbX4_leastMore_0 16 rfl) rfl ?_
      refine nz_isub (pc' := 29) (g_d dtbX4_leastMore_0 17 rfl) rfl ?_
      refine cz_istore (L' := [some (.ref 24), some (iv (a)), some (iv (sp)), some (iv (lM (Z 32) sp a i)), some (iv ((sP (Z 32) sp a i) - ((Z 32 i) + sp))), some (iv ((i : Int)))]) (pc' := 31) (g_d dtbX4_leastMore_0 18 rfl) (by decide) rfl rfl ?_
      refine cz_iload_n (pc' := 32) (g_d dtbX4_leastMore_0 19 rfl) rfl rfl ?_
      refine cz_iload (pc' := 34) (g_d dtbX4_leastMore_0 20 rfl) rfl rfl ?_
      refine nz_ineg (pc' := 35) (g_d dtbX4_leastMore_0 21 rfl) rfl ?_
      refine nz_cSi (M' := mJ9_max_7cf53) (As := [iv (lM (Z 32) sp a i), iv (-((sP (Z 32) sp a i) - ((Z 32 i) + sp)))]) (S := []) (L := [some (.ref 24), some (iv (a)), some (iv (sp)), some (iv (lM (Z 32) sp a i)), some (iv ((sP (Z 32) sp a i) - ((Z 32 i) + sp))), some (iv ((i : Int)))]) (pc' := 38) (g_d dtbX4_leastMore_0 22 rfl) lk_X4_28 okJ9_max_7cf53 rfl rfl (Nat.le_of_ble_eq_true rfl) (Nat.le_of_ble_eq_true rfl) (by decide) rfl (c_max G Z (lM (Z 32) sp a i) (-((sP (Z 32) sp a i) - ((Z 32 i) + sp))) (by omega) (by omega)) ?_
      rintro _ _ ⟨rfl, rfl⟩
      refine cz_istore_n (L' := [some (.ref 24), some (iv (a)), some (iv (sp)), some (iv (max (lM (Z 32) sp a i) (-((sP (Z 32) sp a i) - ((Z 32 i) + sp))))), some (iv ((sP (Z 32) sp a i) - ((Z 32 i) + sp))), some (iv ((i : Int)))]) (pc' := 39) (g_d dtbX4_leastMore_0 23 rfl) (by decide) rfl rfl ?_
      refine nz_iinc (L' := [some (.ref 24), some (iv (a)), some (iv (sp)), some (iv (max (lM (Z 32) sp a i) (-((sP (Z 32) sp a i) - ((Z 32 i) + sp))))), some (iv ((sP (Z 32) sp a i) - ((Z 32 i) + sp))), some (iv (((i : Int)) + 1))]) (pc' := 42) (g_d dtbX4_leastMore_0 24 rfl) (by decide) rfl rfl rfl ?_
      refine cz_goto (pc' := 8) (g_d dtbX4_leastMore_0 25 rfl) rfl ?_
      exact ih (m - (i + 1)) (by omega) (i + 1) rfl (by omega)

set_option maxRecDepth 20000 in
set_option maxHeartbeats 4000000 in
theorem c_leastMore (G : Wd) (Z : ZS) (m : Nat) (sp a : Int) (hm : Z 24 2 = (m : Int)) (hm99 : m ≤ 99) (hg : ∀ i, i < m → -1000000 ≤ Z 32 i ∧ Z 32 i ≤ 1000000) (hs : 0 ≤ sp ∧ sp ≤ 1000) (ha : -1000000000 ≤ a ∧ a ≤ 1000000000) : Cn G mX4_leastMore 0 [some (.ref 24), some (iv (a)), some (iv (sp)), none, none, none] [] Z (qi (fun r W => lM (Z 32) sp a m = r ∧ Z = W)) := by
  refine nz_iconst (pc' := 1) (g_d dtbX4_leastMore_0 0 rfl) rfl ?_
  refine cz_istore_n (L' := [some (.ref 24), some (iv (a)), some (iv (sp)), some (iv 0), none, none]) (pc' := 2) (g_d dtbX4_leastMore_0 1 rfl) (by decide) rfl rfl ?_
  refine cz_iload_n (pc' := 3) (g_d dtbX4_leastMore_0 2 rfl) rfl rfl ?_
  refine cz_istore (L' := [some (.ref 24), some (iv (a)), some (iv (sp)), some (iv 0), some (iv (a)), none]) (pc' := 5) (g_d dtbX4_leastMore_0 3 rfl) (by decide) rfl rfl ?_
  refine nz_iconst (pc' := 6) (g_d dtbX4_leastMore_0 4 rfl) rfl ?_
  refine cz_istore (L' := [some (.ref 24), some (iv (a)), some (iv (sp)), some (iv 0), some (iv (a)), some (iv 0)]) (pc' := 8) (g_d dtbX4_leastMore_0 5 rfl) (by decide) rfl rfl ?_
  exact l_least G Z m sp a hm hm99 hg hs ha (m - 0) 0 rfl (Nat.zero_le _)
