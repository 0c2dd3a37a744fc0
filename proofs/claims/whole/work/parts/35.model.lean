/-! the other one: years, two, kinds, the digest -/
def rGv (g s : Row) : Nat → Row
  | 0 => g
  | i + 1 => rGo (rGv g s i) (s i)
theorem gv_hi {g s : Row} {j : Nat} (h : 5 ≤ j) : ∀ i, rGv g s i j = g j := by
  intro i
  induction i with
  | zero => rfl
  | succ i ih => rw [rGv, rGo_hi h, ih]
theorem gv_34 {g s : Row} (h : 1 ≤ g 3 ∧ g 3 ≤ 28) : ∀ i, rGv g s i 3 = dyA g i ∧ rGv g s i 4 = mnA g i := by
  intro i
  induction i with
  | zero => exact ⟨(dyA0 h).symm, (mnA0 h).symm⟩
  | succ i ih =>
    rw [rGv, rGo_3, rGo_4, ih.1, ih.2]
    unfold dyA mnA
    constructor
    · split <;> omega
    · split <;> omega
theorem gv_dr {g s : Row} (h : 1 ≤ g 3 ∧ g 3 ≤ 28) (i : Nat) : ∀ n, drA (rGv g s i) n 0 = drA g n i := by
  intro n
  have e := gv_34 (s := s) h i
  have d : 1 ≤ rGv g s i 3 ∧ rGv g s i 3 ≤ 28 := by rw [e.1]; unfold dyA; omega
  induction n with
  | zero => rfl
  | succ n ih =>
    rw [drA, drA, ih, gv_hi (by omega), gv_hi (by omega), gv_hi (by omega), pA, pA, dyA0 d, mnA0 d, e.1, e.2]
theorem gv_0 {g s : Row} (h : 1 ≤ g 3 ∧ g 3 ≤ 28) : ∀ i, rGv g s i 0 = rL (fun i => drA g (g 6).toNat i + s i) 0 (g 0) i := by
  intro i
  induction i with
  | zero => rfl
  | succ i ih => rw [rGv, rGo_0, gv_hi (j := 6) (by omega), gv_dr h, ih, rL]; simp only [Int.add_zero]
theorem tr_gv {C : Int} {g s : Row} (h : TR C g) (hs : ∀ i, 0 ≤ s i ∧ s i ≤ 1000) : ∀ i : Nat, TR (C + 8000 * (i : Int)) (rGv g s i) := by
  intro i
  induction i with
  | zero => simpa [rGv] using h
  | succ i ih =>
    rw [show C + 8000 * ((i + 1 : Nat) : Int) = C + 8000 * (i : Int) + 8000 by push_cast; omega]
    exact tr_go ih (hs i)

set_option maxRecDepth 20000 in
set_option maxHeartbeats 4000000 in
theorem k_years (G : Wd) (Z : ZS) (g : Row) (C s0 : Int) (N : Nat) (hR : TR C g) (hC : C + 8000 * (N : Int) ≤ 80000000) (hs0 : 0 ≤ s0 ∧ s0 ≤ 999999) (hN : N ≤ 60) : ∀ (d : Nat) (i : Nat), N - i = d → (i ≤ N) → Cn G mX11_years 37 [some (.ref 34), some (iv (s0)), some (iv ((N : Int))), some (il (ySd s0 i)), none, some (iv ((i : Int)))] [] (zr Z 36 (rGv g (ySp s0) i)) (qi (fun r W => rL (fun i => drA g (g 6).toNat i + ySp s0 i) 0 (g 0) N = r ∧ ∃ t : Row, zr Z 36 t = W)) := by
  intro d
  induction d using Nat.strongRecOn with
  | ind d ih =>
    intro i hd hi
    have hsp : ∀ i, 0 ≤ ySp s0 i ∧ ySp s0 i ≤ 1000 := fun i => by unfold ySp; have := ySd_in hs0 (i + 1); omega
    have hRi := tr_gv hR hsp i
    have hy := ySd_in hs0 i
    refine cz_iload (pc' := 39) (g_d dtbX11_years_0 21 rfl) rfl rfl ?_
    refine cz_iload_n (pc' := 40) (g_d dtbX11_years_0 22 rfl) rfl rfl ?_
    refine nz_icmp_ge (tgt := 80) (pc' := 43) (g_d dtbX11_years_0 23 rfl) (by omega) (by omega) rfl rfl (fun h40 => ?_) (fun h40 => ?_)
    · refine cz_aload_n (pc' := 81) (g_d dtbX11_years_0 43 rfl) rfl rfl ?_
      refine nz_getf (v := .ref 36) (pc' := 84) (g_d dtbX11_years_0 44 rfl) gf_X11_13 (by decide) rfl rfl rfl ?_
      refine nz_iconst (pc' := 85) (g_d dtbX11_years_0 45 rfl) rfl ?_
      refine nz_iald 0 (pc' := 86) (g_d dtbX11_years_0 46 rfl) (by decide) rfl (by omega) (by rfl) (by omega) rfl ?_
      rw [show (zr Z 36 (rGv g (ySp s0) i)) 36 0 = (rGv g (ySp s0) i) 0 from by simp [zu, zr, ru]]
      refine nz_ri .int (g_d dtbX11_years_0 47 rfl) rfl rfl ?_
      rw [show i = N by omega]
      exact ⟨(gv_0 hR.2.2.1 N).symm, _, rfl⟩
    · refine cz_lload_n (pc' := 44) (g_d dtbX11_years_0 24 rfl) rfl rfl ?_
      refine nz_ldc2 (pc' := 47) (v := 1103515245) (g_d dtbX11_years_0 25 rfl) kn_X11_175 rfl ?_
      refine nz_lmul (pc' := 48) (g_d dtbX11_years_0 26 rfl) rfl ?_
      refine nz_ldc2 (pc' := 51) (v := 12345) (g_d dtbX11_years_0 27 rfl) kn_X11_177 rfl ?_
      refine nz_ladd (pc' := 52) (g_d dtbX11_years_0 28 rfl) rfl ?_
      refine nz_ldc2 (pc' := 55) (v := 2147483648) (g_d dtbX11_years_0 29 rfl) kn_X11_179 rfl ?_
      refine nz_lrem (pc' := 56) (g_d dtbX11_years_0 30 rfl) (by omega) (by omega) rfl ?_
      refine cz_lstore_n (L' := [some (.ref 34), some (iv (s0)), some (iv ((N : Int))), some (il ((((ySd s0 i) * 1103515245) + 12345) % 2147483648)), none, some (iv ((i : Int)))]) (pc' := 57) (g_d dtbX11_years_0 31 rfl) (by decide) rfl rfl ?_
      rw [show (ySd s0 i * 1103515245 + 12345) % 2147483648 = ySd s0 (i + 1) from rfl]
      have hy1 := ySd_in hs0 (i + 1)
      refine cz_aload_n (pc' := 58) (g_d dtbX11_years_0 32 rfl) rfl rfl ?_
      refine nz_getf (v := .ref 36) (pc' := 61) (g_d dtbX11_years_0 33 rfl) gf_X11_13 (by decide) rfl rfl rfl ?_
      refine cz_lload_n (pc' := 62) (g_d dtbX11_years_0 34 rfl) rfl rfl ?_
      refine nz_ldc2 (pc' := 65) (v := 65536) (g_d dtbX11_years_0 35 rfl) kn_X11_181 rfl ?_
      refine nz_ldiv (pc' := 66) (g_d dtbX11_years_0 36 rfl) (by omega) (by omega) rfl ?_
      refine nz_ldc2 (pc' := 69) (v := 31) (g_d dtbX11_years_0 37 rfl) kn_X11_183 rfl ?_
      refine nz_lrem (pc' := 70) (g_d dtbX11_years_0 38 rfl) (by omega) (by omega) rfl ?_
      refine nz_l2i (pc' := 71) (g_d dtbX11_years_0 39 rfl) (by omega) rfl ?_
      refine nz_cSv (M' := mX11_goBy) (As := [.ref 36, iv (((ySd s0 (i + 1)) / 65536) % 31)]) (S := []) (L := [some (.ref 34), some (iv (s0)), some (iv ((N : Int))), some (il (ySd s0 (i + 1))), none, some (iv ((i : Int)))]) (pc' := 74) (g_d dtbX11_years_0 40 rfl) lk_X11_132 okX11_goBy rfl rfl (Nat.le_of_ble_eq_true rfl) (Nat.le_of_ble_eq_true rfl) (by decide) rfl (m_goBy G Z (rGv g (ySp s0) i) (C + 8000 * (i : Int)) (ySp s0 i) 36 (by decide) rfl hRi (by omega) (by have := hsp i; omega)) ?_
      rintro _ rfl
      rw [show rGo (rGv g (ySp s0) i) (ySp s0 i) = rGv g (ySp s0) (i + 1) from rfl]
      refine nz_iinc (L' := [some (.ref 34), some (iv (s0)), some (iv ((N : Int))), some (il (ySd s0 (i + 1))), none, some (iv (((i : Int)) + 1))]) (pc' := 77) (g_d dtbX11_years_0 41 rfl) (by decide) rfl rfl rfl ?_
      refine cz_goto (pc' := 37) (g_d dtbX11_years_0 42 rfl) rfl ?_
      exact ih (N - (i + 1)) (by omega) (i + 1) rfl (by omega)

set_option maxRecDepth 20000 in
set_option maxHeartbeats 4000000 in
theorem b_years (G : Wd) (Z : ZS) (A : AS) (B : Int) (hM : MS Z A) (hA : AO B A) (s n : Int) (hs : -2147483648 ≤ s ∧ s ≤ 2147483647) (hn : -2147483648 ≤ n ∧ n ≤ 2147483647) (hbb : B + 700000 ≤ 60000000) : Cn G mX11_years 0 [some (.ref 34), some (iv (s)), some (iv (n)), none, none, none] [] Z (qi (fun r W => (xYears A s n).1 = r ∧ MS W (xYears A s n).2 ∧ FC Z W)) := by
  have hb0 := hA.1
  have hO := hA.2.1
  have h6 : 0 ≤ A.1 6 ∧ A.1 6 ≤ 7 := hO.2.1
  have h28 : 0 ≤ A.1 28 ∧ A.1 28 ≤ 6 := hO.2.2.2.1
  have h59 : 0 ≤ A.1 59 ∧ A.1 59 ≤ 8 := hO.2.2.2.2.2.1
  have hf := hO.1
  unfold FO at hf
  have hct := hA.2.2.2.2.2.2
  have hT := hO.tr (by omega)
  have hgA : drA A.1 (A.1 6).toNat = gA A := rfl
  obtain ⟨t, ht0⟩ : ∃ t : Row, Z 36 = t := ⟨_, rfl⟩
  refine nz_st (zr_self ht0) ?_
  refine cz_iload_n (pc' := 1) (g_d dtbX11_years_0 0 rfl) rfl rfl ?_
  refine nz_iconst (pc' := 2) (g_d dtbX11_years_0 1 rfl) rfl ?_
  refine nz_ldc (pc' := 4) (v := 999999) (g_d dtbX11_years_0 2 rfl) kn_X11_174 rfl ?_
  refine nz_cSi (M' := mX11_in) (As := [iv (s), iv 0, iv 999999]) (S := []) (L := [some (.ref 34), some (iv (s)), some (iv (n)), none, none, none]) (pc' := 7) (g_d dtbX11_years_0 3 rfl) lk_X11_40 okX11_in rfl rfl (Nat.le_of_ble_eq_true rfl) (Nat.le_of_ble_eq_true rfl) (by decide) rfl (m_in G (zr Z 36 t) s 0 999999 (by omega) (by omega) (by omega)) ?_
  rintro _ _ ⟨rfl, ⟨rfl, hw4⟩ | ⟨rfl, hw4⟩⟩
  · refine nz_if_eq_f (pc' := 10) (g_d dtbX11_years_0 4 rfl) (by omega) (by decide) rfl (by omega) ?_
    refine cz_iload_n (pc' := 11) (g_d dtbX11_years_0 5 rfl) rfl rfl ?_
    refine nz_iconst (pc' := 12) (g_d dtbX11_years_0 6 rfl) rfl ?_
    refine nz_bipush (pc' := 14) (g_d dtbX11_years_0 7 rfl) (by decide) rfl ?_
    refine nz_cSi (M' := mX11_in) (As := [iv (n), iv 0, iv 60]) (S := []) (L := [some (.ref 34), some (iv (s)), some (iv (n)), none, none, none]) (pc' := 17) (g_d dtbX11_years_0 8 rfl) lk_X11_40 okX11_in rfl rfl (Nat.le_of_ble_eq_true rfl) (Nat.le_of_ble_eq_true rfl) (by decide) rfl (m_in G (zr Z 36 t) n 0 60 (by omega) (by omega) (by omega)) ?_
    rintro _ _ ⟨rfl, ⟨rfl, hw14⟩ | ⟨rfl, hw14⟩⟩
    · refine nz_if_ne_t (tgt := 27) (g_d dtbX11_years_0 9 rfl) (by omega) rfl (by omega) ?_
      obtain ⟨N, rfl⟩ : ∃ N : Nat, n = (N : Int) := ⟨n.toNat, by omega⟩
      refine cz_aload_n (pc' := 28) (g_d dtbX11_years_0 14 rfl) rfl rfl ?_
      refine nz_cVv (M' := mX11_copyNow) (k := 34) (As := []) (S := []) (L := [some (.ref 34), some (iv (s)), some (iv ((N : Int))), none, none, none]) (pc' := 31) (g_d dtbX11_years_0 15 rfl) lk_X11_147 okX11_copyNow (by decide) rfl rfl rfl rfl (Nat.le_of_ble_eq_true rfl) (Nat.le_of_ble_eq_true rfl) (by decide) rfl (m_copyNow G Z A.1 t hM.1) ?_
      rintro _ rfl
      refine cz_iload_n (pc' := 32) (g_d dtbX11_years_0 16 rfl) rfl rfl ?_
      refine nz_i2l (pc' := 33) (g_d dtbX11_years_0 17 rfl) (by omega) rfl ?_
      refine cz_lstore_n (L' := [some (.ref 34), some (iv (s)), some (iv ((N : Int))), some (il (s)), none, none]) (pc' := 34) (g_d dtbX11_years_0 18 rfl) (by decide) rfl rfl ?_
      refine nz_iconst (pc' := 35) (g_d dtbX11_years_0 19 rfl) rfl ?_
      refine cz_istore (L' := [some (.ref 34), some (iv (s)), some (iv ((N : Int))), some (il (s)), none, some (iv 0)]) (pc' := 37) (g_d dtbX11_years_0 20 rfl) (by decide) rfl rfl ?_
      have q := k_years G Z (rT A.1 t) B s N (tr_T hT) (by omega) (by omega) (by omega) (N - 0) 0 rfl (by omega)
      rw [drA_T h6, rT_lo (j := 0) (by decide), hgA] at q
      refine nz_wi q (fun r W h => ?_)
      obtain ⟨h1, t2, rfl⟩ := h
      rw [show xYears A s (N : Int) = (r, A) from by unfold xYears; rw [if_pos (by omega), Int.toNat_natCast, h1]]
      exact ⟨rfl, hM.tr, (FC.r FC.rf (by decide))⟩
    · refine nz_if_ne_f (pc' := 20) (g_d dtbX11_years_0 9 rfl) (by omega) (by decide) rfl (by omega) ?_
      refine cz_aload_n (pc' := 21) (g_d dtbX11_years_0 10 rfl) rfl rfl ?_
      refine nz_ldc (pc' := 23) (v := -100000) (g_d dtbX11_years_0 11 rfl) kn_X11_146 rfl ?_
      refine nz_cVi (M' := mX11_badBy) (k := 34) (As := [iv (-100000)]) (S := []) (L := [some (.ref 34), some (iv (s)), some (iv (n)), none, none, none]) (pc' := 26) (g_d dtbX11_years_0 12 rfl) lk_X11_143 okX11_badBy (by decide) rfl rfl rfl rfl (Nat.le_of_ble_eq_true rfl) (Nat.le_of_ble_eq_true rfl) (by decide) rfl (m_badBy G (zr Z 36 t) (-100000)) ?_
      rintro _ _ ⟨rfl, rfl⟩
      refine nz_ri .int (g_d dtbX11_years_0 13 rfl) rfl rfl ?_
      rw [show xYears A s n = (-100000, aBad A) from by unfold xYears; rw [if_neg (by omega)]]
      exact ⟨rfl, ms_bad hM.tr, (FC.u (FC.r FC.rf (by decide)) (by decide))⟩
  · refine nz_if_eq_t (tgt := 20) (g_d dtbX11_years_0 4 rfl) (by omega) rfl (by omega) ?_
    refine cz_aload_n (pc' := 21) (g_d dtbX11_years_0 10 rfl) rfl rfl ?_
    refine nz_ldc (pc' := 23) (v := -100000) (g_d dtbX11_years_0 11 rfl) kn_X11_146 rfl ?_
    refine nz_cVi (M' := mX11_badBy) (k := 34) (As := [iv (-100000)]) (S := []) (L := [some (.ref 34), some (iv (s)), some (iv (n)), none, none, none]) (pc' := 26) (g_d dtbX11_years_0 12 rfl) lk_X11_143 okX11_badBy (by decide) rfl rfl rfl rfl (Nat.le_of_ble_eq_true rfl) (Nat.le_of_ble_eq_true rfl) (by decide) rfl (m_badBy G (zr Z 36 t) (-100000)) ?_
    rintro _ _ ⟨rfl, rfl⟩
    refine nz_ri .int (g_d dtbX11_years_0 13 rfl) rfl rfl ?_
    rw [show xYears A s n = (-100000, aBad A) from by unfold xYears; rw [if_neg (by omega)]]
    exact ⟨rfl, ms_bad hM.tr, (FC.u (FC.r FC.rf (by decide)) (by decide))⟩

set_option maxRecDepth 20000 in
set_option maxHeartbeats 4000000 in
theorem m_gets (G : Wd) (Z : ZS) (A : AS) (B : Int) (hM : MS Z A) (hA : AO B A) (hbb : B + 700000 ≤ 60000000) (N : Nat) (hN : N ≤ 28) (t : Row) (i j : Nat) (hi : i < 4) (hj : j < 4) : Cn G mX11_gets 0 [some (.ref 34), some (iv ((N : Int))), some (iv ((i : Int))), some (iv ((j : Int)))] [] (zr Z 36 t) (qi (fun r W => gN A N i j = r ∧ ∃ t : Row, zr Z 36 t = W)) := by
  have hb0 := hA.1
  have hO := hA.2.1
  have h6 : 0 ≤ A.1 6 ∧ A.1 6 ≤ 7 := hO.2.1
  have h28 : 0 ≤ A.1 28 ∧ A.1 28 ≤ 6 := hO.2.2.2.1
  have h59 : 0 ≤ A.1 59 ∧ A.1 59 ≤ 8 := hO.2.2.2.2.2.1
  have hf := hO.1
  unfold FO at hf
  have hct := hA.2.2.2.2.2.2
  have hT := hO.tr (by omega)
  have hgA : drA A.1 (A.1 6).toNat = gA A := rfl
  refine cz_aload_n (pc' := 1) (g_d dtbX11_gets_0 0 rfl) rfl rfl ?_
  refine nz_cVv (M' := mX11_copyNow) (k := 34) (As := []) (S := []) (L := [some (.ref 34), some (iv ((N : Int))), some (iv ((i : Int))), some (iv ((j : Int)))]) (pc' := 4) (g_d dtbX11_gets_0 1 rfl) lk_X11_147 okX11_copyNow (by decide) rfl rfl rfl rfl (Nat.le_of_ble_eq_true rfl) (Nat.le_of_ble_eq_true rfl) (by decide) rfl (m_copyNow G Z A.1 t hM.1) ?_
  rintro _ rfl
  refine nz_iconst (pc' := 5) (g_d dtbX11_gets_0 2 rfl) rfl ?_
  refine cz_iload_n (pc' := 6) (g_d dtbX11_gets_0 3 rfl) rfl rfl ?_
  refine nz_imul (pc' := 7) (g_d dtbX11_gets_0 4 rfl) rfl ?_
  refine cz_aload_n (pc' := 8) (g_d dtbX11_gets_0 5 rfl) rfl rfl ?_
  refine cz_iload_n (pc' := 9) (g_d dtbX11_gets_0 6 rfl) rfl rfl ?_
  refine cz_aload_n (pc' := 10) (g_d dtbX11_gets_0 7 rfl) rfl rfl ?_
  refine nz_getf (v := .ref 35) (pc' := 13) (g_d dtbX11_gets_0 8 rfl) gf_X11_7 (by decide) rfl rfl rfl ?_
  refine nz_iconst (pc' := 14) (g_d dtbX11_gets_0 9 rfl) rfl ?_
  refine nz_iald 5 (pc' := 15) (g_d dtbX11_gets_0 10 rfl) (by decide) rfl (by omega) (by rfl) (by omega) rfl ?_
  rw [show (zr Z 36 (rT A.1 t)) 35 5 = A.1 5 from by rw [zr_ne (by decide)]; exact congrFun hM.1 _]
  refine cz_iload_n (pc' := 16) (g_d dtbX11_gets_0 11 rfl) rfl rfl ?_
  refine nz_iadd (pc' := 17) (g_d dtbX11_gets_0 12 rfl) rfl ?_
  refine cz_iload_n (pc' := 18) (g_d dtbX11_gets_0 13 rfl) rfl rfl ?_
  refine nz_iadd (pc' := 19) (g_d dtbX11_gets_0 14 rfl) rfl ?_
  refine nz_cVi (M' := mX11_chargesOn) (k := 34) (As := [iv ((N : Int)), iv (((A.1 5) + ((i : Int))) + ((j : Int)))]) (S := [iv (3 * ((i : Int)))]) (L := [some (.ref 34), some (iv ((N : Int))), some (iv ((i : Int))), some (iv ((j : Int)))]) (pc' := 22) (g_d dtbX11_gets_0 15 rfl) lk_X11_150 okX11_chargesOn (by decide) rfl rfl rfl rfl (Nat.le_of_ble_eq_true rfl) (Nat.le_of_ble_eq_true rfl) (by decide) rfl (m_chargesOn G Z (rT A.1 t) B (((A.1 5) + ((i : Int))) + ((j : Int))) N (tr_T hT) (by omega) (by omega) (by omega)) ?_
  rintro _ _ ⟨rfl, rfl⟩
  rw [drA_T h6, rT_lo (by decide), hgA]
  refine nz_isub (pc' := 23) (g_d dtbX11_gets_0 16 rfl) rfl ?_
  refine nz_ri .int (g_d dtbX11_gets_0 17 rfl) rfl rfl ?_
  exact ⟨by unfold gN; rw [Int.add_assoc], _, rfl⟩

theorem gN_inm {A : AS} {m i j : Nat} (hi : i < 4) (hm : m ≤ 28) : -28 ≤ gN A m i j ∧ gN A m i j ≤ 9 := by
  have := rC_in (g := gA A) (sp := A.1 5 + ((i : Int) + (j : Int))) (a := A.1 0) m
  unfold gN; omega

set_option maxRecDepth 20000 in
set_option maxHeartbeats 4000000 in
theorem k_rests0 (G : Wd) (Z : ZS) (N i j : Nat) : ∀ (d : Nat) (o : Nat) (t : Row), 4 - o = d → (o ≤ 4) → Cn G mX11_rests 6 [some (.ref 34), some (iv ((N : Int))), some (iv ((i : Int))), some (iv ((j : Int))), some (iv 0), some (iv ((o : Int)))] [] (zr Z 36 t) (qi (fun r W => 0 = r ∧ ∃ t : Row, zr Z 36 t = W)) := by
  intro d
  induction d using Nat.strongRecOn with
  | ind d ih =>
    intro o t hd ho
    refine cz_iload (pc' := 8) (g_d dtbX11_rests_0 4 rfl) rfl rfl ?_
    refine nz_iconst (pc' := 9) (g_d dtbX11_rests_0 5 rfl) rfl ?_
    refine nz_icmp_ge (tgt := 66) (pc' := 12) (g_d dtbX11_rests_0 6 rfl) (by omega) (by omega) rfl rfl (fun h9 => ?_) (fun h9 => ?_)
    · refine cz_iload (pc' := 68) (g_d dtbX11_rests_0 37 rfl) rfl rfl ?_
      refine nz_ri .boolean (g_d dtbX11_rests_0 38 rfl) rfl rfl ?_
      exact ⟨rfl, t, rfl⟩
    · refine cz_iload (pc' := 14) (g_d dtbX11_rests_0 7 rfl) rfl rfl ?_
      refine nz_if_eq_t (tgt := 57) (g_d dtbX11_rests_0 8 rfl) (by omega) rfl (by omega) ?_
      refine nz_iconst (pc' := 58) (g_d dtbX11_rests_0 33 rfl) rfl ?_
      refine cz_istore (L' := [some (.ref 34), some (iv ((N : Int))), some (iv ((i : Int))), some (iv ((j : Int))), some (iv 0), some (iv ((o : Int)))]) (pc' := 60) (g_d dtbX11_rests_0 34 rfl) (by decide) rfl rfl ?_
      refine nz_iinc (L' := [some (.ref 34), some (iv ((N : Int))), some (iv ((i : Int))), some (iv ((j : Int))), some (iv 0), some (iv (((o : Int)) + 1))]) (pc' := 63) (g_d dtbX11_rests_0 35 rfl) (by decide) rfl rfl rfl ?_
      refine cz_goto (pc' := 6) (g_d dtbX11_rests_0 36 rfl) rfl ?_
      exact ih (4 - (o + 1)) (by omega) (o + 1) t rfl (by omega)

set_option maxRecDepth 20000 in
set_option maxHeartbeats 4000000 in
theorem k_rests1 (G : Wd) (Z : ZS) (A : AS) (B : Int) (hM : MS Z A) (hA : AO B A) (hbb : B + 700000 ≤ 60000000) (N : Nat) (hN : N ≤ 28) (i j : Nat) (hi : i < 4) (hj : j < 4) : ∀ (d : Nat) (o : Nat) (t : Row), 4 - o = d → (o ≤ 4) → (∀ x, x < o → gN A N x j ≤ gN A N i j ∧ gN A N x i ≤ gN A N j i) → Cn G mX11_rests 6 [some (.ref 34), some (iv ((N : Int))), some (iv ((i : Int))), some (iv ((j : Int))), some (iv 1), some (iv ((o : Int)))] [] (zr Z 36 t) (qi (fun r W => (∃ t : Row, zr Z 36 t = W) ∧ ((r = 1 ∧ bst A N i j ∧ bst A N j i) ∨ (r = 0 ∧ ¬ (bst A N i j ∧ bst A N j i))))) := by
  intro d
  induction d using Nat.strongRecOn with
  | ind d ih =>
    intro o t hd ho hb
    refine cz_iload (pc' := 8) (g_d dtbX11_rests_0 4 rfl) rfl rfl ?_
    refine nz_iconst (pc' := 9) (g_d dtbX11_rests_0 5 rfl) rfl ?_
    refine nz_icmp_ge (tgt := 66) (pc' := 12) (g_d dtbX11_rests_0 6 rfl) (by omega) (by omega) rfl rfl (fun h9 => ?_) (fun h9 => ?_)
    · refine cz_iload (pc' := 68) (g_d dtbX11_rests_0 37 rfl) rfl rfl ?_
      refine nz_ri .boolean (g_d dtbX11_rests_0 38 rfl) rfl rfl ?_
      exact ⟨⟨t, rfl⟩, Or.inl ⟨rfl, fun x hx => (hb x (by omega)).1, fun x hx => (hb x (by omega)).2⟩⟩
    · refine cz_iload (pc' := 14) (g_d dtbX11_rests_0 7 rfl) rfl rfl ?_
      refine nz_if_eq_f (pc' := 17) (g_d dtbX11_rests_0 8 rfl) (by omega) (by decide) rfl (by omega) ?_
      refine cz_aload_n (pc' := 18) (g_d dtbX11_rests_0 9 rfl) rfl rfl ?_
      refine cz_iload_n (pc' := 19) (g_d dtbX11_rests_0 10 rfl) rfl rfl ?_
      refine cz_iload (pc' := 21) (g_d dtbX11_rests_0 11 rfl) rfl rfl ?_
      refine cz_iload_n (pc' := 22) (g_d dtbX11_rests_0 12 rfl) rfl rfl ?_
      refine nz_cVi (M' := mX11_gets) (k := 34) (As := [iv ((N : Int)), iv ((o : Int)), iv ((j : Int))]) (S := []) (L := [some (.ref 34), some (iv ((N : Int))), some (iv ((i : Int))), some (iv ((j : Int))), some (iv 1), some (iv ((o : Int)))]) (pc' := 25) (g_d dtbX11_rests_0 13 rfl) lk_X11_163 okX11_gets (by decide) rfl rfl rfl rfl (Nat.le_of_ble_eq_true rfl) (Nat.le_of_ble_eq_true rfl) (by decide) rfl (m_gets G Z A B hM hA hbb N hN t o j (by omega) (by omega)) ?_
      rintro _ _ ⟨rfl, t22, rfl⟩
      have hg22 := gN_inm (A := A) (m := N) (i := o) (j := j) (by omega) hN
      refine cz_aload_n (pc' := 26) (g_d dtbX11_rests_0 14 rfl) rfl rfl ?_
      refine cz_iload_n (pc' := 27) (g_d dtbX11_rests_0 15 rfl) rfl rfl ?_
      refine cz_iload_n (pc' := 28) (g_d dtbX11_rests_0 16 rfl) rfl rfl ?_
      refine cz_iload_n (pc' := 29) (g_d dtbX11_rests_0 17 rfl) rfl rfl ?_
      refine nz_cVi (M' := mX11_gets) (k := 34) (As := [iv ((N : Int)), iv ((i : Int)), iv ((j : Int))]) (S := [iv (gN A N o j)]) (L := [some (.ref 34), some (iv ((N : Int))), some (iv ((i : Int))), some (iv ((j : Int))), some (iv 1), some (iv ((o : Int)))]) (pc' := 32) (g_d dtbX11_rests_0 18 rfl) lk_X11_163 okX11_gets (by decide) rfl rfl rfl rfl (Nat.le_of_ble_eq_true rfl) (Nat.le_of_ble_eq_true rfl) (by decide) rfl (m_gets G Z A B hM hA hbb N hN t22 i j (by omega) (by omega)) ?_
      rintro _ _ ⟨rfl, t29, rfl⟩
      have hg29 := gN_inm (A := A) (m := N) (i := i) (j := j) (by omega) hN
      refine nz_icmp_gt (tgt := 57) (pc' := 35) (g_d dtbX11_rests_0 19 rfl) (by omega) (by omega) rfl rfl (fun h32 => ?_) (fun h32 => ?_)
      · refine nz_iconst (pc' := 58) (g_d dtbX11_rests_0 33 rfl) rfl ?_
        refine cz_istore (L' := [some (.ref 34), some (iv ((N : Int))), some (iv ((i : Int))), some (iv ((j : Int))), some (iv 0), some (iv ((o : Int)))]) (pc' := 60) (g_d dtbX11_rests_0 34 rfl) (by decide) rfl rfl ?_
        refine nz_iinc (L' := [some (.ref 34), some (iv ((N : Int))), some (iv ((i : Int))), some (iv ((j : Int))), some (iv 0), some (iv (((o : Int)) + 1))]) (pc' := 63) (g_d dtbX11_rests_0 35 rfl) (by decide) rfl rfl rfl ?_
        refine cz_goto (pc' := 6) (g_d dtbX11_rests_0 36 rfl) rfl ?_
        refine nz_wi (k_rests0 G Z N i j (4 - (o + 1)) (o + 1) t29 rfl (by omega)) (fun r W h => ⟨h.2, Or.inr ⟨h.1.symm, fun q => ?_⟩⟩)
        have q1 := q.1 o (by omega)
        have q2 := q.2 o (by omega)
        omega
      · refine cz_aload_n (pc' := 36) (g_d dtbX11_rests_0 20 rfl) rfl rfl ?_
        refine cz_iload_n (pc' := 37) (g_d dtbX11_rests_0 21 rfl) rfl rfl ?_
        refine cz_iload (pc' := 39) (g_d dtbX11_rests_0 22 rfl) rfl rfl ?_
        refine cz_iload_n (pc' := 40) (g_d dtbX11_rests_0 23 rfl) rfl rfl ?_
        refine nz_cVi (M' := mX11_gets) (k := 34) (As := [iv ((N : Int)), iv ((o : Int)), iv ((i : Int))]) (S := []) (L := [some (.ref 34), some (iv ((N : Int))), some (iv ((i : Int))), some (iv ((j : Int))), some (iv 1), some (iv ((o : Int)))]) (pc' := 43) (g_d dtbX11_rests_0 24 rfl) lk_X11_163 okX11_gets (by decide) rfl rfl rfl rfl (Nat.le_of_ble_eq_true rfl) (Nat.le_of_ble_eq_true rfl) (by decide) rfl (m_gets G Z A B hM hA hbb N hN t29 o i (by omega) (by omega)) ?_
        rintro _ _ ⟨rfl, t40, rfl⟩
        have hg40 := gN_inm (A := A) (m := N) (i := o) (j := i) (by omega) hN
        refine cz_aload_n (pc' := 44) (g_d dtbX11_rests_0 25 rfl) rfl rfl ?_
        refine cz_iload_n (pc' := 45) (g_d dtbX11_rests_0 26 rfl) rfl rfl ?_
        refine cz_iload_n (pc' := 46) (g_d dtbX11_rests_0 27 rfl) rfl rfl ?_
        refine cz_iload_n (pc' := 47) (g_d dtbX11_rests_0 28 rfl) rfl rfl ?_
        refine nz_cVi (M' := mX11_gets) (k := 34) (As := [iv ((N : Int)), iv ((j : Int)), iv ((i : Int))]) (S := [iv (gN A N o i)]) (L := [some (.ref 34), some (iv ((N : Int))), some (iv ((i : Int))), some (iv ((j : Int))), some (iv 1), some (iv ((o : Int)))]) (pc' := 50) (g_d dtbX11_rests_0 29 rfl) lk_X11_163 okX11_gets (by decide) rfl rfl rfl rfl (Nat.le_of_ble_eq_true rfl) (Nat.le_of_ble_eq_true rfl) (by decide) rfl (m_gets G Z A B hM hA hbb N hN t40 j i (by omega) (by omega)) ?_
        rintro _ _ ⟨rfl, t47, rfl⟩
        have hg47 := gN_inm (A := A) (m := N) (i := j) (j := i) (by omega) hN
        refine nz_icmp_gt (tgt := 57) (pc' := 53) (g_d dtbX11_rests_0 30 rfl) (by omega) (by omega) rfl rfl (fun h50 => ?_) (fun h50 => ?_)
        · refine nz_iconst (pc' := 58) (g_d dtbX11_rests_0 33 rfl) rfl ?_
          refine cz_istore (L' := [some (.ref 34), some (iv ((N : Int))), some (iv ((i : Int))), some (iv ((j : Int))), some (iv 0), some (iv ((o : Int)))]) (pc' := 60) (g_d dtbX11_rests_0 34 rfl) (by decide) rfl rfl ?_
          refine nz_iinc (L' := [some (.ref 34), some (iv ((N : Int))), some (iv ((i : Int))), some (iv ((j : Int))), some (iv 0), some (iv (((o : Int)) + 1))]) (pc' := 63) (g_d dtbX11_rests_0 35 rfl) (by decide) rfl rfl rfl ?_
          refine cz_goto (pc' := 6) (g_d dtbX11_rests_0 36 rfl) rfl ?_
          refine nz_wi (k_rests0 G Z N i j (4 - (o + 1)) (o + 1) t47 rfl (by omega)) (fun r W h => ⟨h.2, Or.inr ⟨h.1.symm, fun q => ?_⟩⟩)
          have q1 := q.1 o (by omega)
          have q2 := q.2 o (by omega)
          omega
        · refine nz_iconst (pc' := 54) (g_d dtbX11_rests_0 31 rfl) rfl ?_
          refine cz_goto (pc' := 58) (g_d dtbX11_rests_0 32 rfl) rfl ?_
          refine cz_istore (L' := [some (.ref 34), some (iv ((N : Int))), some (iv ((i : Int))), some (iv ((j : Int))), some (iv 1), some (iv ((o : Int)))]) (pc' := 60) (g_d dtbX11_rests_0 34 rfl) (by decide) rfl rfl ?_
          refine nz_iinc (L' := [some (.ref 34), some (iv ((N : Int))), some (iv ((i : Int))), some (iv ((j : Int))), some (iv 1), some (iv (((o : Int)) + 1))]) (pc' := 63) (g_d dtbX11_rests_0 35 rfl) (by decide) rfl rfl rfl ?_
          refine cz_goto (pc' := 6) (g_d dtbX11_rests_0 36 rfl) rfl ?_
          exact ih (4 - (o + 1)) (by omega) (o + 1) t47 rfl (by omega) (fun x hx => by rcases (show x < o ∨ x = o by omega) with q | rfl; exact hb x q; exact ⟨by omega, by omega⟩)

set_option maxRecDepth 20000 in
set_option maxHeartbeats 4000000 in
theorem m_rests (G : Wd) (Z : ZS) (A : AS) (B : Int) (hM : MS Z A) (hA : AO B A) (hbb : B + 700000 ≤ 60000000) (N : Nat) (hN : N ≤ 28) (t : Row) (i j : Nat) (hi : i < 4) (hj : j < 4) : Cn G mX11_rests 0 [some (.ref 34), some (iv ((N : Int))), some (iv ((i : Int))), some (iv ((j : Int))), none, none] [] (zr Z 36 t) (qi (fun r W => (∃ t : Row, zr Z 36 t = W) ∧ ((r = 1 ∧ bst A N i j ∧ bst A N j i) ∨ (r = 0 ∧ ¬ (bst A N i j ∧ bst A N j i))))) := by
  refine nz_iconst (pc' := 1) (g_d dtbX11_rests_0 0 rfl) rfl ?_
  refine cz_istore (L' := [some (.ref 34), some (iv ((N : Int))), some (iv ((i : Int))), some (iv ((j : Int))), some (iv 1), none]) (pc' := 3) (g_d dtbX11_rests_0 1 rfl) (by decide) rfl rfl ?_
  refine nz_iconst (pc' := 4) (g_d dtbX11_rests_0 2 rfl) rfl ?_
  refine cz_istore (L' := [some (.ref 34), some (iv ((N : Int))), some (iv ((i : Int))), some (iv ((j : Int))), some (iv 1), some (iv 0)]) (pc' := 6) (g_d dtbX11_rests_0 3 rfl) (by decide) rfl rfl ?_
  exact k_rests1 G Z A B hM hA hbb N hN i j hi hj (4 - 0) 0 t rfl (by omega) (fun x hx => absurd hx (Nat.not_lt_zero x))

theorem m_rests2 (G : Wd) (Z : ZS) (A : AS) (B : Int) (hM : MS Z A) (hA : AO B A) (hbb : B + 700000 ≤ 60000000) (N : Nat) (hN : N ≤ 28) (t : Row) (p : Nat) (hp : p < 16) : Cn G mX11_rests 0 [some (.ref 34), some (iv (N : Int)), some (iv ((p : Int) / 4)), some (iv ((p : Int) % 4)), none, none] [] (zr Z 36 t) (qi (fun r W => (∃ t : Row, zr Z 36 t = W) ∧ ((r = 1 ∧ rs A N p) ∨ (r = 0 ∧ ¬ rs A N p)))) := by
  have q := m_rests G Z A B hM hA hbb N hN t (p / 4) (p % 4) (by omega) (by omega)
  rw [show ((p / 4 : Nat) : Int) = (p : Int) / 4 by omega, show ((p % 4 : Nat) : Int) = (p : Int) % 4 by omega] at q
  exact q

set_option maxRecDepth 20000 in
set_option maxHeartbeats 4000000 in
theorem k_two (G : Wd) (Z : ZS) (A : AS) (B : Int) (hM : MS Z A) (hA : AO B A) (hbb : B + 700000 ≤ 60000000) (N : Nat) (hN : 1 ≤ N ∧ N ≤ 28) (k : Int) (hk : -1 ≤ k ∧ k ≤ 2147483647) : ∀ (d : Nat) (p : Nat) (t : Row), 16 - p = d → (p ≤ 16) → (∀ x, x < p → ¬ (rs A N x ∧ twN A N x = k)) → Cn G mX11_two 27 [some (.ref 34), some (iv ((N : Int))), some (iv (k)), some (iv (twN A N p)), some (iv ((p : Int)))] [] (zr Z 36 t) (qi (fun r W => twP A N k r ∧ MS W A ∧ FC Z W)) := by
  intro d
  induction d using Nat.strongRecOn with
  | ind d ih =>
    intro p t hd hp hb
    have htw := twN_in (A := A) (m := N) p
    refine cz_iload (pc' := 29) (g_d dtbX11_two_0 16 rfl) rfl rfl ?_
    refine nz_bipush (pc' := 31) (g_d dtbX11_two_0 17 rfl) (by decide) rfl ?_
    refine nz_icmp_ge (tgt := 67) (pc' := 34) (g_d dtbX11_two_0 18 rfl) (by omega) (by omega) rfl rfl (fun h31 => ?_) (fun h31 => ?_)
    · refine cz_iload_n (pc' := 68) (g_d dtbX11_two_0 37 rfl) rfl rfl ?_
      refine nz_iconst (pc' := 69) (g_d dtbX11_two_0 38 rfl) rfl ?_
      refine nz_icmp_ne (tgt := 76) (pc' := 72) (g_d dtbX11_two_0 39 rfl) (by omega) (by omega) rfl rfl (fun h69 => ?_) (fun h69 => ?_)
      · refine nz_bipush (pc' := 78) (g_d dtbX11_two_0 42 rfl) (by decide) rfl ?_
        refine nz_ri .int (g_d dtbX11_two_0 43 rfl) rfl rfl ?_
        obtain rfl : p = 16 := by omega
        exact ⟨Or.inr ⟨hb, (if_neg (by omega)).symm⟩, hM.tr, (FC.r FC.rf (by decide))⟩
      · refine cz_iload_n (pc' := 73) (g_d dtbX11_two_0 40 rfl) rfl rfl ?_
        refine cz_goto (pc' := 78) (g_d dtbX11_two_0 41 rfl) rfl ?_
        refine nz_ri .int (g_d dtbX11_two_0 43 rfl) rfl rfl ?_
        obtain rfl : p = 16 := by omega
        exact ⟨Or.inr ⟨hb, (if_pos (by omega)).symm⟩, hM.tr, (FC.r FC.rf (by decide))⟩
    · refine cz_aload_n (pc' := 35) (g_d dtbX11_two_0 19 rfl) rfl rfl ?_
      refine cz_iload_n (pc' := 36) (g_d dtbX11_two_0 20 rfl) rfl rfl ?_
      refine cz_iload (pc' := 38) (g_d dtbX11_two_0 21 rfl) rfl rfl ?_
      refine nz_iconst (pc' := 39) (g_d dtbX11_two_0 22 rfl) rfl ?_
      refine nz_idiv (pc' := 40) (g_d dtbX11_two_0 23 rfl) (by omega) (by omega) rfl ?_
      refine cz_iload (pc' := 42) (g_d dtbX11_two_0 24 rfl) rfl rfl ?_
      refine nz_iconst (pc' := 43) (g_d dtbX11_two_0 25 rfl) rfl ?_
      refine nz_irem (pc' := 44) (g_d dtbX11_two_0 26 rfl) (by omega) (by omega) rfl ?_
      refine nz_cVi (M' := mX11_rests) (k := 34) (As := [iv ((N : Int)), iv (((p : Int)) / 4), iv (((p : Int)) % 4)]) (S := []) (L := [some (.ref 34), some (iv ((N : Int))), some (iv (k)), some (iv (twN A N p)), some (iv ((p : Int)))]) (pc' := 47) (g_d dtbX11_two_0 27 rfl) lk_X11_166 okX11_rests (by decide) rfl rfl rfl rfl (Nat.le_of_ble_eq_true rfl) (Nat.le_of_ble_eq_true rfl) (by decide) rfl (m_rests2 G Z A B hM hA hbb N (by omega) t p (by omega)) ?_
      rintro _ _ ⟨⟨t2, rfl⟩, ⟨rfl, hw⟩ | ⟨rfl, hw⟩⟩
      · refine nz_if_eq_f (pc' := 50) (g_d dtbX11_two_0 28 rfl) (by omega) (by decide) rfl (by omega) ?_
        refine cz_iload_n (pc' := 51) (g_d dtbX11_two_0 29 rfl) rfl rfl ?_
        refine cz_iload_n (pc' := 52) (g_d dtbX11_two_0 30 rfl) rfl rfl ?_
        refine nz_icmp_ne (tgt := 58) (pc' := 55) (g_d dtbX11_two_0 31 rfl) (by omega) (by omega) rfl rfl (fun h52 => ?_) (fun h52 => ?_)
        · refine nz_iinc (L' := [some (.ref 34), some (iv ((N : Int))), some (iv (k)), some (iv ((twN A N p) + 1)), some (iv ((p : Int)))]) (pc' := 61) (g_d dtbX11_two_0 34 rfl) (by decide) rfl rfl rfl ?_
          refine nz_iinc (L' := [some (.ref 34), some (iv ((N : Int))), some (iv (k)), some (iv ((twN A N p) + 1)), some (iv (((p : Int)) + 1))]) (pc' := 64) (g_d dtbX11_two_0 35 rfl) (by decide) rfl rfl rfl ?_
          refine cz_goto (pc' := 27) (g_d dtbX11_two_0 36 rfl) rfl ?_
          have e1 : twN A N (p + 1) = (twN A N p) + 1 := twN_s hw
          have q := ih (16 - (p + 1)) (by omega) (p + 1) t2 rfl (by omega) (fun x hx => by rcases (show x < p ∨ x = p by omega) with q | rfl; exact hb x q; exact fun z => h52 z.2)
          rw [e1] at q
          exact q
        · refine cz_iload (pc' := 57) (g_d dtbX11_two_0 32 rfl) rfl rfl ?_
          refine nz_ri .int (g_d dtbX11_two_0 33 rfl) rfl rfl ?_
          exact ⟨Or.inl ⟨p, by omega, hw, h52, rfl⟩, hM.tr, (FC.r FC.rf (by decide))⟩
      · refine nz_if_eq_t (tgt := 61) (g_d dtbX11_two_0 28 rfl) (by omega) rfl (by omega) ?_
        refine nz_iinc (L' := [some (.ref 34), some (iv ((N : Int))), some (iv (k)), some (iv (twN A N p)), some (iv (((p : Int)) + 1))]) (pc' := 64) (g_d dtbX11_two_0 35 rfl) (by decide) rfl rfl rfl ?_
        refine cz_goto (pc' := 27) (g_d dtbX11_two_0 36 rfl) rfl ?_
        have e1 : twN A N (p + 1) = twN A N p := twN_n hw
        have q := ih (16 - (p + 1)) (by omega) (p + 1) t2 rfl (by omega) (fun x hx => by rcases (show x < p ∨ x = p by omega) with q | rfl; exact hb x q; exact fun z => hw z.1)
        rw [e1] at q
        exact q

set_option maxRecDepth 20000 in
set_option maxHeartbeats 4000000 in
theorem b_two (G : Wd) (Z : ZS) (A : AS) (B : Int) (hM : MS Z A) (hA : AO B A) (m k : Int) (hm : -2147483648 ≤ m ∧ m ≤ 2147483647) (hk : -2147483648 ≤ k ∧ k ≤ 2147483647) (hbb : B + 700000 ≤ 60000000) : Cn G mX11_two 0 [some (.ref 34), some (iv (m)), some (iv (k)), none, none] [] Z (qi (fun r W => (((1 ≤ m ∧ m ≤ 28) ∧ -1 ≤ k) ∧ twP A m.toNat k r ∧ MS W A ∧ FC Z W) ∨ (¬ ((1 ≤ m ∧ m ≤ 28) ∧ -1 ≤ k) ∧ r = -10 ∧ MS W (aBad A) ∧ FC Z W))) := by
  have hb0 := hA.1
  have hO := hA.2.1
  have h6 : 0 ≤ A.1 6 ∧ A.1 6 ≤ 7 := hO.2.1
  have h28 : 0 ≤ A.1 28 ∧ A.1 28 ≤ 6 := hO.2.2.2.1
  have h59 : 0 ≤ A.1 59 ∧ A.1 59 ≤ 8 := hO.2.2.2.2.2.1
  have hf := hO.1
  unfold FO at hf
  have hct := hA.2.2.2.2.2.2
  have hT := hO.tr (by omega)
  have hgA : drA A.1 (A.1 6).toNat = gA A := rfl
  obtain ⟨t, ht0⟩ : ∃ t : Row, Z 36 = t := ⟨_, rfl⟩
  refine nz_st (zr_self ht0) ?_
  refine cz_iload_n (pc' := 1) (g_d dtbX11_two_0 0 rfl) rfl rfl ?_
  refine nz_iconst (pc' := 2) (g_d dtbX11_two_0 1 rfl) rfl ?_
  refine nz_bipush (pc' := 4) (g_d dtbX11_two_0 2 rfl) (by decide) rfl ?_
  refine nz_cSi (M' := mX11_in) (As := [iv (m), iv 1, iv 28]) (S := []) (L := [some (.ref 34), some (iv (m)), some (iv (k)), none, none]) (pc' := 7) (g_d dtbX11_two_0 3 rfl) lk_X11_40 okX11_in rfl rfl (Nat.le_of_ble_eq_true rfl) (Nat.le_of_ble_eq_true rfl) (by decide) rfl (m_in G (zr Z 36 t) m 1 28 (by omega) (by omega) (by omega)) ?_
  rintro _ _ ⟨rfl, ⟨rfl, hw4⟩ | ⟨rfl, hw4⟩⟩
  · refine nz_if_eq_f (pc' := 10) (g_d dtbX11_two_0 4 rfl) (by omega) (by decide) rfl (by omega) ?_
    refine cz_iload_n (pc' := 11) (g_d dtbX11_two_0 5 rfl) rfl rfl ?_
    refine nz_iconst (pc' := 12) (g_d dtbX11_two_0 6 rfl) rfl ?_
    refine nz_icmp_ge (tgt := 22) (pc' := 15) (g_d dtbX11_two_0 7 rfl) (by omega) (by omega) rfl rfl (fun h12 => ?_) (fun h12 => ?_)
    · obtain ⟨N, rfl⟩ : ∃ N : Nat, m = (N : Int) := ⟨m.toNat, by omega⟩
      refine nz_iconst (pc' := 23) (g_d dtbX11_two_0 12 rfl) rfl ?_
      refine cz_istore_n (L' := [some (.ref 34), some (iv ((N : Int))), some (iv (k)), some (iv 0), none]) (pc' := 24) (g_d dtbX11_two_0 13 rfl) (by decide) rfl rfl ?_
      refine nz_iconst (pc' := 25) (g_d dtbX11_two_0 14 rfl) rfl ?_
      refine cz_istore (L' := [some (.ref 34), some (iv ((N : Int))), some (iv (k)), some (iv 0), some (iv 0)]) (pc' := 27) (g_d dtbX11_two_0 15 rfl) (by decide) rfl rfl ?_
      refine nz_wi (k_two G Z A B hM hA hbb N (by omega) k (by omega) (16 - 0) 0 t rfl (by omega) (fun x hx => absurd hx (Nat.not_lt_zero x))) (fun r W h => Or.inl ⟨by omega, ?_, h.2.1, h.2.2⟩)
      rw [Int.toNat_natCast]; exact h.1
    · refine cz_aload_n (pc' := 16) (g_d dtbX11_two_0 8 rfl) rfl rfl ?_
      refine nz_bipush (pc' := 18) (g_d dtbX11_two_0 9 rfl) (by decide) rfl ?_
      refine nz_cVi (M' := mX11_badBy) (k := 34) (As := [iv (-10)]) (S := []) (L := [some (.ref 34), some (iv (m)), some (iv (k)), none, none]) (pc' := 21) (g_d dtbX11_two_0 10 rfl) lk_X11_143 okX11_badBy (by decide) rfl rfl rfl rfl (Nat.le_of_ble_eq_true rfl) (Nat.le_of_ble_eq_true rfl) (by decide) rfl (m_badBy G (zr Z 36 t) (-10)) ?_
      rintro _ _ ⟨rfl, rfl⟩
      refine nz_ri .int (g_d dtbX11_two_0 11 rfl) rfl rfl ?_
      exact Or.inr ⟨by omega, rfl, ms_bad hM.tr, (FC.u (FC.r FC.rf (by decide)) (by decide))⟩
  · refine nz_if_eq_t (tgt := 15) (g_d dtbX11_two_0 4 rfl) (by omega) rfl (by omega) ?_
    refine cz_aload_n (pc' := 16) (g_d dtbX11_two_0 8 rfl) rfl rfl ?_
    refine nz_bipush (pc' := 18) (g_d dtbX11_two_0 9 rfl) (by decide) rfl ?_
    refine nz_cVi (M' := mX11_badBy) (k := 34) (As := [iv (-10)]) (S := []) (L := [some (.ref 34), some (iv (m)), some (iv (k)), none, none]) (pc' := 21) (g_d dtbX11_two_0 10 rfl) lk_X11_143 okX11_badBy (by decide) rfl rfl rfl rfl (Nat.le_of_ble_eq_true rfl) (Nat.le_of_ble_eq_true rfl) (by decide) rfl (m_badBy G (zr Z 36 t) (-10)) ?_
    rintro _ _ ⟨rfl, rfl⟩
    refine nz_ri .int (g_d dtbX11_two_0 11 rfl) rfl rfl ?_
    exact Or.inr ⟨by omega, rfl, ms_bad hM.tr, (FC.u (FC.r FC.rf (by decide)) (by decide))⟩
