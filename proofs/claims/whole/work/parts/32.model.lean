/-! the other one: what a bill is, days ahead -/
set_option maxRecDepth 20000 in
set_option maxHeartbeats 4000000 in
theorem m_isBill (G : Wd) (Z : ZS) (f : Row) (b : Int) (h6 : 0 ≤ f 6 ∧ f 6 ≤ 7) (hb : -2147483648 ≤ b ∧ b ≤ 2147483647) : Cn G mX11_isBill 0 [some (.ref 34), some (iv (b))] [] (zr Z 35 f) (qi (fun r W => zr Z 35 f = W ∧ ((r = 1 ∧ 0 ≤ b ∧ b < f 6) ∨ (r = 0 ∧ ¬ (0 ≤ b ∧ b < f 6))))) := by
  refine cz_iload_n (pc' := 1) (g_d dtbX11_isBill_0 0 rfl) rfl rfl ?_
  refine nz_iconst (pc' := 2) (g_d dtbX11_isBill_0 1 rfl) rfl ?_
  refine cz_aload_n (pc' := 3) (g_d dtbX11_isBill_0 2 rfl) rfl rfl ?_
  refine nz_getf (v := .ref 35) (pc' := 6) (g_d dtbX11_isBill_0 3 rfl) gf_X11_7 (by decide) rfl rfl rfl ?_
  refine nz_bipush (pc' := 8) (g_d dtbX11_isBill_0 4 rfl) (by decide) rfl ?_
  refine nz_iald 6 (pc' := 9) (g_d dtbX11_isBill_0 5 rfl) (by decide) rfl (by omega) (by rfl) (by omega) rfl ?_
  rw [show (zr Z 35 f) 35 6 = f 6 from by simp [zu, zr, ru]]
  refine nz_iconst (pc' := 10) (g_d dtbX11_isBill_0 6 rfl) rfl ?_
  refine nz_isub (pc' := 11) (g_d dtbX11_isBill_0 7 rfl) rfl ?_
  refine nz_cSi (M' := mX11_in) (As := [iv (b), iv 0, iv ((f 6) - 1)]) (S := []) (L := [some (.ref 34), some (iv (b))]) (pc' := 14) (g_d dtbX11_isBill_0 8 rfl) lk_X11_40 okX11_in rfl rfl (Nat.le_of_ble_eq_true rfl) (Nat.le_of_ble_eq_true rfl) (by decide) rfl (m_in G (zr Z 35 f) b 0 ((f 6) - 1) (by omega) (by omega) (by omega)) ?_
  rintro _ _ ⟨rfl, ⟨rfl, hw11⟩ | ⟨rfl, hw11⟩⟩
  · refine nz_ri .boolean (g_d dtbX11_isBill_0 9 rfl) rfl rfl ?_
    exact ⟨rfl, by omega⟩
  · refine nz_ri .boolean (g_d dtbX11_isBill_0 9 rfl) rfl rfl ?_
    exact ⟨rfl, by omega⟩

set_option maxRecDepth 20000 in
set_option maxHeartbeats 4000000 in
theorem b_of (G : Wd) (Z : ZS) (A : AS) (B : Int) (hM : MS Z A) (hA : AO B A) (b w : Int) (hb : -2147483648 ≤ b ∧ b ≤ 2147483647) (hw : -2147483648 ≤ w ∧ w ≤ 2147483647) : Cn G mX11_of 0 [some (.ref 34), some (iv (b)), some (iv (w))] [] Z (qi (fun r W => (xOf A b w).1 = r ∧ MS W (xOf A b w).2 ∧ FC Z W)) := by
  have hb0 := hA.1
  have hO := hA.2.1
  have h6 : 0 ≤ A.1 6 ∧ A.1 6 ≤ 7 := hO.2.1
  have h28 : 0 ≤ A.1 28 ∧ A.1 28 ≤ 6 := hO.2.2.2.1
  have h59 : 0 ≤ A.1 59 ∧ A.1 59 ≤ 8 := hO.2.2.2.2.2.1
  have hf := hO.1
  unfold FO at hf
  have hct := hA.2.2.2.2.2.2
  refine nz_st (zr_self hM.1) ?_
  refine cz_aload_n (pc' := 1) (g_d dtbX11_of_0 0 rfl) rfl rfl ?_
  refine cz_iload_n (pc' := 2) (g_d dtbX11_of_0 1 rfl) rfl rfl ?_
  refine nz_cVi (M' := mX11_isBill) (k := 34) (As := [iv (b)]) (S := []) (L := [some (.ref 34), some (iv (b)), some (iv (w))]) (pc' := 5) (g_d dtbX11_of_0 2 rfl) lk_X11_139 okX11_isBill (by decide) rfl rfl rfl rfl (Nat.le_of_ble_eq_true rfl) (Nat.le_of_ble_eq_true rfl) (by decide) rfl (m_isBill G Z A.1 b (by omega) (by omega)) ?_
  rintro _ _ ⟨rfl, ⟨rfl, hw2⟩ | ⟨rfl, hw2⟩⟩
  · refine nz_if_ne_t (tgt := 16) (g_d dtbX11_of_0 3 rfl) (by omega) rfl (by omega) ?_
    obtain ⟨n, rfl⟩ : ∃ n : Nat, b = (n : Int) := ⟨b.toNat, by omega⟩
    have hn7 : n < 7 := by omega
    have hbo := hO.2.2.1 n hn7 (by omega)
    unfold BO at hbo
    have hdI := dayB_in (κ := A.1 (7 + n)) (d := A.1 (14 + n)) (by omega)
    have hpI := pndB_in (κ := A.1 (7 + n)) (p := A.1 (21 + n)) (m := A.1 4) (by omega)
    refine cz_iload_n (pc' := 17) (g_d dtbX11_of_0 8 rfl) rfl rfl ?_
    rcases (show w = 0 ∨ w = 1 ∨ w = 2 ∨ w = 3 ∨ w = 4 ∨ (w < 0 ∨ 4 < w) from by omega) with h17 | h17 | h17 | h17 | h17 | h17
    · refine nz_tabIn (tgt := 52) 0 (g_d dtbX11_of_0 9 rfl) (by omega) (by omega) (by omega) rfl rfl ?_
      refine cz_aload_n (pc' := 53) (g_d dtbX11_of_0 10 rfl) rfl rfl ?_
      refine nz_getf (v := .ref 35) (pc' := 56) (g_d dtbX11_of_0 11 rfl) gf_X11_7 (by decide) rfl rfl rfl ?_
      refine nz_bipush (pc' := 58) (g_d dtbX11_of_0 12 rfl) (by decide) rfl ?_
      refine cz_iload_n (pc' := 59) (g_d dtbX11_of_0 13 rfl) rfl rfl ?_
      refine nz_iadd (pc' := 60) (g_d dtbX11_of_0 14 rfl) rfl ?_
      refine nz_iald (7 + n) (pc' := 61) (g_d dtbX11_of_0 15 rfl) (by decide) rfl (by omega) (by push_cast; omega) (by omega) rfl ?_
      rw [show (zr Z 35 A.1) 35 (7 + n) = A.1 (7 + n) from by simp [zu, zr, ru]]
      refine nz_ri .int (g_d dtbX11_of_0 16 rfl) rfl rfl ?_
      refine ⟨?_, ?_, (FC.r FC.rf (by decide))⟩
      · unfold xOf
        rw [if_pos (by omega)]
        simp only [Int.toNat_natCast]
        rw [if_pos (by omega)]
      · unfold xOf; rw [if_pos (by omega)]; exact hM.row
    · refine nz_tabIn (tgt := 62) 1 (g_d dtbX11_of_0 9 rfl) (by omega) (by omega) (by omega) rfl rfl ?_
      refine cz_aload_n (pc' := 63) (g_d dtbX11_of_0 17 rfl) rfl rfl ?_
      refine nz_getf (v := .ref 35) (pc' := 66) (g_d dtbX11_of_0 18 rfl) gf_X11_7 (by decide) rfl rfl rfl ?_
      refine nz_bipush (pc' := 68) (g_d dtbX11_of_0 19 rfl) (by decide) rfl ?_
      refine cz_iload_n (pc' := 69) (g_d dtbX11_of_0 20 rfl) rfl rfl ?_
      refine nz_iadd (pc' := 70) (g_d dtbX11_of_0 21 rfl) rfl ?_
      refine nz_iald (14 + n) (pc' := 71) (g_d dtbX11_of_0 22 rfl) (by decide) rfl (by omega) (by push_cast; omega) (by omega) rfl ?_
      rw [show (zr Z 35 A.1) 35 (14 + n) = A.1 (14 + n) from by simp [zu, zr, ru]]
      refine nz_ri .int (g_d dtbX11_of_0 23 rfl) rfl rfl ?_
      refine ⟨?_, ?_, (FC.r FC.rf (by decide))⟩
      · unfold xOf
        rw [if_pos (by omega)]
        simp only [Int.toNat_natCast]
        rw [if_neg (by omega), if_pos (by omega)]
      · unfold xOf; rw [if_pos (by omega)]; exact hM.row
    · refine nz_tabIn (tgt := 72) 2 (g_d dtbX11_of_0 9 rfl) (by omega) (by omega) (by omega) rfl rfl ?_
      refine cz_aload_n (pc' := 73) (g_d dtbX11_of_0 24 rfl) rfl rfl ?_
      refine nz_getf (v := .ref 35) (pc' := 76) (g_d dtbX11_of_0 25 rfl) gf_X11_7 (by decide) rfl rfl rfl ?_
      refine nz_bipush (pc' := 78) (g_d dtbX11_of_0 26 rfl) (by decide) rfl ?_
      refine cz_iload_n (pc' := 79) (g_d dtbX11_of_0 27 rfl) rfl rfl ?_
      refine nz_iadd (pc' := 80) (g_d dtbX11_of_0 28 rfl) rfl ?_
      refine nz_iald (21 + n) (pc' := 81) (g_d dtbX11_of_0 29 rfl) (by decide) rfl (by omega) (by push_cast; omega) (by omega) rfl ?_
      rw [show (zr Z 35 A.1) 35 (21 + n) = A.1 (21 + n) from by simp [zu, zr, ru]]
      refine nz_ri .int (g_d dtbX11_of_0 30 rfl) rfl rfl ?_
      refine ⟨?_, ?_, (FC.r FC.rf (by decide))⟩
      · unfold xOf
        rw [if_pos (by omega)]
        simp only [Int.toNat_natCast]
        rw [if_neg (by omega), if_neg (by omega), if_pos (by omega)]
      · unfold xOf; rw [if_pos (by omega)]; exact hM.row
    · refine nz_tabIn (tgt := 82) 3 (g_d dtbX11_of_0 9 rfl) (by omega) (by omega) (by omega) rfl rfl ?_
      refine cz_aload_n (pc' := 83) (g_d dtbX11_of_0 31 rfl) rfl rfl ?_
      refine nz_getf (v := .ref 35) (pc' := 86) (g_d dtbX11_of_0 32 rfl) gf_X11_7 (by decide) rfl rfl rfl ?_
      refine nz_bipush (pc' := 88) (g_d dtbX11_of_0 33 rfl) (by decide) rfl ?_
      refine cz_iload_n (pc' := 89) (g_d dtbX11_of_0 34 rfl) rfl rfl ?_
      refine nz_iadd (pc' := 90) (g_d dtbX11_of_0 35 rfl) rfl ?_
      refine nz_iald (7 + n) (pc' := 91) (g_d dtbX11_of_0 36 rfl) (by decide) rfl (by omega) (by push_cast; omega) (by omega) rfl ?_
      rw [show (zr Z 35 A.1) 35 (7 + n) = A.1 (7 + n) from by simp [zu, zr, ru]]
      refine cz_aload_n (pc' := 92) (g_d dtbX11_of_0 37 rfl) rfl rfl ?_
      refine nz_getf (v := .ref 35) (pc' := 95) (g_d dtbX11_of_0 38 rfl) gf_X11_7 (by decide) rfl rfl rfl ?_
      refine nz_bipush (pc' := 97) (g_d dtbX11_of_0 39 rfl) (by decide) rfl ?_
      refine cz_iload_n (pc' := 98) (g_d dtbX11_of_0 40 rfl) rfl rfl ?_
      refine nz_iadd (pc' := 99) (g_d dtbX11_of_0 41 rfl) rfl ?_
      refine nz_iald (14 + n) (pc' := 100) (g_d dtbX11_of_0 42 rfl) (by decide) rfl (by omega) (by push_cast; omega) (by omega) rfl ?_
      rw [show (zr Z 35 A.1) 35 (14 + n) = A.1 (14 + n) from by simp [zu, zr, ru]]
      refine nz_cSi (M' := mX11_dayBy) (As := [iv (A.1 (7 + n)), iv (A.1 (14 + n))]) (S := []) (L := [some (.ref 34), some (iv ((n : Int))), some (iv (w))]) (pc' := 103) (g_d dtbX11_of_0 43 rfl) lk_X11_121 okX11_dayBy rfl rfl (Nat.le_of_ble_eq_true rfl) (Nat.le_of_ble_eq_true rfl) (by decide) rfl (m_dayBy G (zr Z 35 A.1) (A.1 (7 + n)) (A.1 (14 + n)) (by omega) (by omega)) ?_
      rintro _ _ ⟨rfl, rfl⟩
      refine nz_ri .int (g_d dtbX11_of_0 44 rfl) rfl rfl ?_
      refine ⟨?_, ?_, (FC.r FC.rf (by decide))⟩
      · unfold xOf
        rw [if_pos (by omega)]
        simp only [Int.toNat_natCast]
        rw [if_neg (by omega), if_neg (by omega), if_neg (by omega), if_pos (by omega)]
      · unfold xOf; rw [if_pos (by omega)]; exact hM.row
    · refine nz_tabIn (tgt := 104) 4 (g_d dtbX11_of_0 9 rfl) (by omega) (by omega) (by omega) rfl rfl ?_
      refine cz_aload_n (pc' := 105) (g_d dtbX11_of_0 45 rfl) rfl rfl ?_
      refine nz_getf (v := .ref 35) (pc' := 108) (g_d dtbX11_of_0 46 rfl) gf_X11_7 (by decide) rfl rfl rfl ?_
      refine cz_iload_n (pc' := 109) (g_d dtbX11_of_0 47 rfl) rfl rfl ?_
      refine nz_cSi (M' := mX11_drawn) (As := [.ref 35, iv ((n : Int))]) (S := []) (L := [some (.ref 34), some (iv ((n : Int))), some (iv (w))]) (pc' := 112) (g_d dtbX11_of_0 48 rfl) lk_X11_125 okX11_drawn rfl rfl (Nat.le_of_ble_eq_true rfl) (Nat.le_of_ble_eq_true rfl) (by decide) rfl (m_drawn G (zr Z 35 A.1) 35 (by decide) rfl n (by omega) (A.1 (7 + n)) (A.1 (21 + n)) (A.1 4) (by rw [zr_eq]) (by rw [zr_eq]) (by rw [zr_eq]) (by omega) (by omega) (by omega)) ?_
      rintro _ _ ⟨rfl, rfl⟩
      refine nz_ri .int (g_d dtbX11_of_0 49 rfl) rfl rfl ?_
      refine ⟨?_, ?_, (FC.r FC.rf (by decide))⟩
      · unfold xOf
        rw [if_pos (by omega)]
        simp only [Int.toNat_natCast]
        rw [if_neg (by omega), if_neg (by omega), if_neg (by omega), if_neg (by omega)]
      · unfold xOf; rw [if_pos (by omega)]; exact hM.row
    · refine nz_tabOut (tgt := 113) (g_d dtbX11_of_0 9 rfl) (by omega) h17 rfl ?_
      refine cz_aload_n (pc' := 114) (g_d dtbX11_of_0 50 rfl) rfl rfl ?_
      refine nz_sipush (pc' := 117) (g_d dtbX11_of_0 51 rfl) (by decide) rfl ?_
      refine nz_cVi (M' := mX11_badBy) (k := 34) (As := [iv (-10000)]) (S := []) (L := [some (.ref 34), some (iv ((n : Int))), some (iv (w))]) (pc' := 120) (g_d dtbX11_of_0 52 rfl) lk_X11_143 okX11_badBy (by decide) rfl rfl rfl rfl (Nat.le_of_ble_eq_true rfl) (Nat.le_of_ble_eq_true rfl) (by decide) rfl (m_badBy G (zr Z 35 A.1) (-10000)) ?_
      rintro _ _ ⟨rfl, rfl⟩
      refine nz_ri .int (g_d dtbX11_of_0 53 rfl) rfl rfl ?_
      rw [show xOf A (n : Int) w = (-10000, aBad A) from by unfold xOf; rw [if_neg (by omega)]]
      exact ⟨rfl, ms_bad hM.row, (FC.u (FC.r FC.rf (by decide)) (by decide))⟩
  · refine nz_if_ne_f (pc' := 8) (g_d dtbX11_of_0 3 rfl) (by omega) (by decide) rfl (by omega) ?_
    refine cz_aload_n (pc' := 9) (g_d dtbX11_of_0 4 rfl) rfl rfl ?_
    refine nz_sipush (pc' := 12) (g_d dtbX11_of_0 5 rfl) (by decide) rfl ?_
    refine nz_cVi (M' := mX11_badBy) (k := 34) (As := [iv (-10000)]) (S := []) (L := [some (.ref 34), some (iv (b)), some (iv (w))]) (pc' := 15) (g_d dtbX11_of_0 6 rfl) lk_X11_143 okX11_badBy (by decide) rfl rfl rfl rfl (Nat.le_of_ble_eq_true rfl) (Nat.le_of_ble_eq_true rfl) (by decide) rfl (m_badBy G (zr Z 35 A.1) (-10000)) ?_
    rintro _ _ ⟨rfl, rfl⟩
    refine nz_ri .int (g_d dtbX11_of_0 7 rfl) rfl rfl ?_
    rw [show xOf A b w = (-10000, aBad A) from by unfold xOf; rw [if_neg (by omega)]]
    exact ⟨rfl, ms_bad hM.row, (FC.u (FC.r FC.rf (by decide)) (by decide))⟩

set_option maxRecDepth 20000 in
set_option maxHeartbeats 4000000 in
theorem b_now (G : Wd) (Z : ZS) (A : AS) (B : Int) (hM : MS Z A) (hA : AO B A) (w : Int) (hw : -2147483648 ≤ w ∧ w ≤ 2147483647) : Cn G mX11_now 0 [some (.ref 34), some (iv (w))] [] Z (qi (fun r W => (xNow A w).1 = r ∧ MS W (xNow A w).2 ∧ FC Z W)) := by
  have hb0 := hA.1
  have hO := hA.2.1
  have h6 : 0 ≤ A.1 6 ∧ A.1 6 ≤ 7 := hO.2.1
  have h28 : 0 ≤ A.1 28 ∧ A.1 28 ≤ 6 := hO.2.2.2.1
  have h59 : 0 ≤ A.1 59 ∧ A.1 59 ≤ 8 := hO.2.2.2.2.2.1
  have hf := hO.1
  unfold FO at hf
  have hct := hA.2.2.2.2.2.2
  refine nz_st (zr_self hM.1) ?_
  refine cz_iload_n (pc' := 1) (g_d dtbX11_now_0 0 rfl) rfl rfl ?_
  refine nz_iconst (pc' := 2) (g_d dtbX11_now_0 1 rfl) rfl ?_
  refine nz_iconst (pc' := 3) (g_d dtbX11_now_0 2 rfl) rfl ?_
  refine nz_cSi (M' := mX11_in) (As := [iv (w), iv 0, iv 5]) (S := []) (L := [some (.ref 34), some (iv (w))]) (pc' := 6) (g_d dtbX11_now_0 3 rfl) lk_X11_40 okX11_in rfl rfl (Nat.le_of_ble_eq_true rfl) (Nat.le_of_ble_eq_true rfl) (by decide) rfl (m_in G (zr Z 35 A.1) w 0 5 (by omega) (by omega) (by omega)) ?_
  rintro _ _ ⟨rfl, ⟨rfl, hw3⟩ | ⟨rfl, hw3⟩⟩
  · refine nz_if_eq_f (pc' := 9) (g_d dtbX11_now_0 4 rfl) (by omega) (by decide) rfl (by omega) ?_
    refine cz_aload_n (pc' := 10) (g_d dtbX11_now_0 5 rfl) rfl rfl ?_
    refine nz_getf (v := .ref 35) (pc' := 13) (g_d dtbX11_now_0 6 rfl) gf_X11_7 (by decide) rfl rfl rfl ?_
    refine cz_iload_n (pc' := 14) (g_d dtbX11_now_0 7 rfl) rfl rfl ?_
    refine nz_iald w.toNat (pc' := 15) (g_d dtbX11_now_0 8 rfl) (by decide) rfl (by omega) (by omega) (by omega) rfl ?_
    rw [show (zr Z 35 A.1) 35 w.toNat = A.1 w.toNat from by simp [zu, zr, ru]]
    refine cz_goto (pc' := 24) (g_d dtbX11_now_0 9 rfl) rfl ?_
    refine nz_ri .int (g_d dtbX11_now_0 13 rfl) rfl rfl ?_
    rw [show xNow A w = (A.1 w.toNat, A) from if_pos (by omega)]
    exact ⟨rfl, hM.row, (FC.r FC.rf (by decide))⟩
  · refine nz_if_eq_t (tgt := 18) (g_d dtbX11_now_0 4 rfl) (by omega) rfl (by omega) ?_
    refine cz_aload_n (pc' := 19) (g_d dtbX11_now_0 10 rfl) rfl rfl ?_
    refine nz_ldc (pc' := 21) (v := -100000) (g_d dtbX11_now_0 11 rfl) kn_X11_146 rfl ?_
    refine nz_cVi (M' := mX11_badBy) (k := 34) (As := [iv (-100000)]) (S := []) (L := [some (.ref 34), some (iv (w))]) (pc' := 24) (g_d dtbX11_now_0 12 rfl) lk_X11_143 okX11_badBy (by decide) rfl rfl rfl rfl (Nat.le_of_ble_eq_true rfl) (Nat.le_of_ble_eq_true rfl) (by decide) rfl (m_badBy G (zr Z 35 A.1) (-100000)) ?_
    rintro _ _ ⟨rfl, rfl⟩
    refine nz_ri .int (g_d dtbX11_now_0 13 rfl) rfl rfl ?_
    rw [show xNow A w = (-100000, aBad A) from if_neg (by omega)]
    exact ⟨rfl, ms_bad hM.row, (FC.u (FC.r FC.rf (by decide)) (by decide))⟩

set_option maxRecDepth 20000 in
set_option maxHeartbeats 4000000 in
theorem k_truly (G : Wd) (Z : ZS) (f : Row) (B : Int) (hR : RO B f) (hBB : B ≤ 60000000) : ∀ (d : Nat) (n : Nat), (f 6).toNat - n = d → ((n : Int) ≤ f 6) → Cn G mX11_truly 9 [some (.ref 34), some (iv (trF f n)), some (iv ((n : Int))), none] [] (zr Z 35 f) (qi (fun r W => trF f (f 6).toNat = r ∧ zr Z 35 f = W)) := by
  intro d
  induction d using Nat.strongRecOn with
  | ind d ih =>
    intro n hd hn
    have h6 := hR.2.1
    have hf := hR.1
    unfold FO at hf
    refine cz_iload_n (pc' := 10) (g_d dtbX11_truly_0 7 rfl) rfl rfl ?_
    refine cz_aload_n (pc' := 11) (g_d dtbX11_truly_0 8 rfl) rfl rfl ?_
    refine nz_getf (v := .ref 35) (pc' := 14) (g_d dtbX11_truly_0 9 rfl) gf_X11_7 (by decide) rfl rfl rfl ?_
    refine nz_bipush (pc' := 16) (g_d dtbX11_truly_0 10 rfl) (by decide) rfl ?_
    refine nz_iald 6 (pc' := 17) (g_d dtbX11_truly_0 11 rfl) (by decide) rfl (by omega) (by rfl) (by omega) rfl ?_
    rw [show (zr Z 35 f) 35 6 = f 6 from by simp [zu, zr, ru]]
    refine nz_icmp_ge (tgt := 94) (pc' := 20) (g_d dtbX11_truly_0 12 rfl) (by omega) (by omega) rfl rfl (fun h17 => ?_) (fun h17 => ?_)
    · refine cz_iload_n (pc' := 95) (g_d dtbX11_truly_0 56 rfl) rfl rfl ?_
      refine nz_ri .int (g_d dtbX11_truly_0 57 rfl) rfl rfl ?_
      rw [show n = (f 6).toNat by omega]; exact ⟨rfl, rfl⟩
    · have hn7 : n < 7 := by omega
      have hbo := hR.2.2.1 n hn7 (by omega)
      unfold BO at hbo
      have hdI := dayB_in (κ := f (7 + n)) (d := f (14 + n)) (by omega)
      have hpI := pndB_in (κ := f (7 + n)) (p := f (21 + n)) (m := f 4) (by omega)
      refine cz_aload_n (pc' := 21) (g_d dtbX11_truly_0 13 rfl) rfl rfl ?_
      refine nz_getf (v := .ref 35) (pc' := 24) (g_d dtbX11_truly_0 14 rfl) gf_X11_7 (by decide) rfl rfl rfl ?_
      refine nz_bipush (pc' := 26) (g_d dtbX11_truly_0 15 rfl) (by decide) rfl ?_
      refine cz_iload_n (pc' := 27) (g_d dtbX11_truly_0 16 rfl) rfl rfl ?_
      refine nz_iadd (pc' := 28) (g_d dtbX11_truly_0 17 rfl) rfl ?_
      refine nz_iald (7 + n) (pc' := 29) (g_d dtbX11_truly_0 18 rfl) (by decide) rfl (by omega) (by push_cast; omega) (by omega) rfl ?_
      rw [show (zr Z 35 f) 35 (7 + n) = f (7 + n) from by simp [zu, zr, ru]]
      refine nz_iconst (pc' := 30) (g_d dtbX11_truly_0 19 rfl) rfl ?_
      refine nz_icmp_eq (tgt := 67) (pc' := 33) (g_d dtbX11_truly_0 20 rfl) (by omega) (by omega) rfl rfl (fun h30 => ?_) (fun h30 => ?_)
      · refine nz_iconst (pc' := 68) (g_d dtbX11_truly_0 41 rfl) rfl ?_
        refine cz_istore_n (L' := [some (.ref 34), some (iv (trF f n)), some (iv ((n : Int))), some (iv 0)]) (pc' := 69) (g_d dtbX11_truly_0 42 rfl) (by decide) rfl rfl ?_
        refine cz_iload_n (pc' := 70) (g_d dtbX11_truly_0 43 rfl) rfl rfl ?_
        refine cz_iload_n (pc' := 71) (g_d dtbX11_truly_0 44 rfl) rfl rfl ?_
        refine nz_if_eq_t (tgt := 85) (g_d dtbX11_truly_0 45 rfl) (by omega) rfl (by omega) ?_
        refine nz_iconst (pc' := 86) (g_d dtbX11_truly_0 51 rfl) rfl ?_
        refine nz_isub (pc' := 87) (g_d dtbX11_truly_0 52 rfl) rfl ?_
        refine cz_istore_n (L' := [some (.ref 34), some (iv ((trF f n) - 0)), some (iv ((n : Int))), some (iv 0)]) (pc' := 88) (g_d dtbX11_truly_0 53 rfl) (by decide) rfl rfl ?_
        refine nz_iinc (L' := [some (.ref 34), some (iv ((trF f n) - 0)), some (iv (((n : Int)) + 1)), some (iv 0)]) (pc' := 91) (g_d dtbX11_truly_0 54 rfl) (by decide) rfl rfl rfl ?_
        refine cz_goto (pc' := 9) (g_d dtbX11_truly_0 55 rfl) rfl ?_
        refine cz_le [some (.ref 34), some (iv ((trF f n) - 0)), some (iv (((n : Int)) + 1)), none] ⟨rfl, rfl, rfl, trivial⟩ ?_
        rw [show (trF f n) - 0 = trF f (n + 1) from by rw [trF, if_neg (by omega)]; omega]
        exact ih ((f 6).toNat - (n + 1)) (by omega) (n + 1) rfl (by omega)
      · refine cz_aload_n (pc' := 34) (g_d dtbX11_truly_0 21 rfl) rfl rfl ?_
        refine nz_getf (v := .ref 35) (pc' := 37) (g_d dtbX11_truly_0 22 rfl) gf_X11_7 (by decide) rfl rfl rfl ?_
        refine nz_bipush (pc' := 39) (g_d dtbX11_truly_0 23 rfl) (by decide) rfl ?_
        refine cz_iload_n (pc' := 40) (g_d dtbX11_truly_0 24 rfl) rfl rfl ?_
        refine nz_iadd (pc' := 41) (g_d dtbX11_truly_0 25 rfl) rfl ?_
        refine nz_iald (7 + n) (pc' := 42) (g_d dtbX11_truly_0 26 rfl) (by decide) rfl (by omega) (by push_cast; omega) (by omega) rfl ?_
        rw [show (zr Z 35 f) 35 (7 + n) = f (7 + n) from by simp [zu, zr, ru]]
        refine cz_aload_n (pc' := 43) (g_d dtbX11_truly_0 27 rfl) rfl rfl ?_
        refine nz_getf (v := .ref 35) (pc' := 46) (g_d dtbX11_truly_0 28 rfl) gf_X11_7 (by decide) rfl rfl rfl ?_
        refine nz_bipush (pc' := 48) (g_d dtbX11_truly_0 29 rfl) (by decide) rfl ?_
        refine cz_iload_n (pc' := 49) (g_d dtbX11_truly_0 30 rfl) rfl rfl ?_
        refine nz_iadd (pc' := 50) (g_d dtbX11_truly_0 31 rfl) rfl ?_
        refine nz_iald (14 + n) (pc' := 51) (g_d dtbX11_truly_0 32 rfl) (by decide) rfl (by omega) (by push_cast; omega) (by omega) rfl ?_
        rw [show (zr Z 35 f) 35 (14 + n) = f (14 + n) from by simp [zu, zr, ru]]
        refine nz_cSi (M' := mX11_dayBy) (As := [iv (f (7 + n)), iv (f (14 + n))]) (S := []) (L := [some (.ref 34), some (iv (trF f n)), some (iv ((n : Int))), none]) (pc' := 54) (g_d dtbX11_truly_0 33 rfl) lk_X11_121 okX11_dayBy rfl rfl (Nat.le_of_ble_eq_true rfl) (Nat.le_of_ble_eq_true rfl) (by decide) rfl (m_dayBy G (zr Z 35 f) (f (7 + n)) (f (14 + n)) (by omega) (by omega)) ?_
        rintro _ _ ⟨rfl, rfl⟩
        refine cz_aload_n (pc' := 55) (g_d dtbX11_truly_0 34 rfl) rfl rfl ?_
        refine nz_getf (v := .ref 35) (pc' := 58) (g_d dtbX11_truly_0 35 rfl) gf_X11_7 (by decide) rfl rfl rfl ?_
        refine nz_iconst (pc' := 59) (g_d dtbX11_truly_0 36 rfl) rfl ?_
        refine nz_iald 3 (pc' := 60) (g_d dtbX11_truly_0 37 rfl) (by decide) rfl (by omega) (by rfl) (by omega) rfl ?_
        rw [show (zr Z 35 f) 35 3 = f 3 from by simp [zu, zr, ru]]
        refine nz_icmp_lt (tgt := 67) (pc' := 63) (g_d dtbX11_truly_0 38 rfl) (by omega) (by omega) rfl rfl (fun h60 => ?_) (fun h60 => ?_)
        · refine nz_iconst (pc' := 68) (g_d dtbX11_truly_0 41 rfl) rfl ?_
          refine cz_istore_n (L' := [some (.ref 34), some (iv (trF f n)), some (iv ((n : Int))), some (iv 0)]) (pc' := 69) (g_d dtbX11_truly_0 42 rfl) (by decide) rfl rfl ?_
          refine cz_iload_n (pc' := 70) (g_d dtbX11_truly_0 43 rfl) rfl rfl ?_
          refine cz_iload_n (pc' := 71) (g_d dtbX11_truly_0 44 rfl) rfl rfl ?_
          refine nz_if_eq_t (tgt := 85) (g_d dtbX11_truly_0 45 rfl) (by omega) rfl (by omega) ?_
          refine nz_iconst (pc' := 86) (g_d dtbX11_truly_0 51 rfl) rfl ?_
          refine nz_isub (pc' := 87) (g_d dtbX11_truly_0 52 rfl) rfl ?_
          refine cz_istore_n (L' := [some (.ref 34), some (iv ((trF f n) - 0)), some (iv ((n : Int))), some (iv 0)]) (pc' := 88) (g_d dtbX11_truly_0 53 rfl) (by decide) rfl rfl ?_
          refine nz_iinc (L' := [some (.ref 34), some (iv ((trF f n) - 0)), some (iv (((n : Int)) + 1)), some (iv 0)]) (pc' := 91) (g_d dtbX11_truly_0 54 rfl) (by decide) rfl rfl rfl ?_
          refine cz_goto (pc' := 9) (g_d dtbX11_truly_0 55 rfl) rfl ?_
          refine cz_le [some (.ref 34), some (iv ((trF f n) - 0)), some (iv (((n : Int)) + 1)), none] ⟨rfl, rfl, rfl, trivial⟩ ?_
          rw [show (trF f n) - 0 = trF f (n + 1) from by rw [trF, if_neg (by omega)]; omega]
          exact ih ((f 6).toNat - (n + 1)) (by omega) (n + 1) rfl (by omega)
        · refine nz_iconst (pc' := 64) (g_d dtbX11_truly_0 39 rfl) rfl ?_
          refine cz_goto (pc' := 68) (g_d dtbX11_truly_0 40 rfl) rfl ?_
          refine cz_istore_n (L' := [some (.ref 34), some (iv (trF f n)), some (iv ((n : Int))), some (iv 1)]) (pc' := 69) (g_d dtbX11_truly_0 42 rfl) (by decide) rfl rfl ?_
          refine cz_iload_n (pc' := 70) (g_d dtbX11_truly_0 43 rfl) rfl rfl ?_
          refine cz_iload_n (pc' := 71) (g_d dtbX11_truly_0 44 rfl) rfl rfl ?_
          refine nz_if_eq_f (pc' := 74) (g_d dtbX11_truly_0 45 rfl) (by omega) (by decide) rfl (by omega) ?_
          refine cz_aload_n (pc' := 75) (g_d dtbX11_truly_0 46 rfl) rfl rfl ?_
          refine nz_getf (v := .ref 35) (pc' := 78) (g_d dtbX11_truly_0 47 rfl) gf_X11_7 (by decide) rfl rfl rfl ?_
          refine cz_iload_n (pc' := 79) (g_d dtbX11_truly_0 48 rfl) rfl rfl ?_
          refine nz_cSi (M' := mX11_drawn) (As := [.ref 35, iv ((n : Int))]) (S := [iv (trF f n)]) (L := [some (.ref 34), some (iv (trF f n)), some (iv ((n : Int))), some (iv 1)]) (pc' := 82) (g_d dtbX11_truly_0 49 rfl) lk_X11_125 okX11_drawn rfl rfl (Nat.le_of_ble_eq_true rfl) (Nat.le_of_ble_eq_true rfl) (by decide) rfl (m_drawn G (zr Z 35 f) 35 (by decide) rfl n (by omega) (f (7 + n)) (f (21 + n)) (f 4) (by rw [zr_eq]) (by rw [zr_eq]) (by rw [zr_eq]) (by omega) (by omega) (by omega)) ?_
          rintro _ _ ⟨rfl, rfl⟩
          refine cz_goto (pc' := 86) (g_d dtbX11_truly_0 50 rfl) rfl ?_
          refine nz_isub (pc' := 87) (g_d dtbX11_truly_0 52 rfl) rfl ?_
          refine cz_istore_n (L' := [some (.ref 34), some (iv ((trF f n) - (pndB (f (7 + n)) (f (21 + n)) (f 4)))), some (iv ((n : Int))), some (iv 1)]) (pc' := 88) (g_d dtbX11_truly_0 53 rfl) (by decide) rfl rfl ?_
          refine nz_iinc (L' := [some (.ref 34), some (iv ((trF f n) - (pndB (f (7 + n)) (f (21 + n)) (f 4)))), some (iv (((n : Int)) + 1)), some (iv 1)]) (pc' := 91) (g_d dtbX11_truly_0 54 rfl) (by decide) rfl rfl rfl ?_
          refine cz_goto (pc' := 9) (g_d dtbX11_truly_0 55 rfl) rfl ?_
          refine cz_le [some (.ref 34), some (iv ((trF f n) - (pndB (f (7 + n)) (f (21 + n)) (f 4)))), some (iv (((n : Int)) + 1)), none] ⟨rfl, rfl, rfl, trivial⟩ ?_
          rw [show (trF f n) - (pndB (f (7 + n)) (f (21 + n)) (f 4)) = trF f (n + 1) from by rw [trF, if_pos (by omega)]]
          exact ih ((f 6).toNat - (n + 1)) (by omega) (n + 1) rfl (by omega)

set_option maxRecDepth 20000 in
set_option maxHeartbeats 4000000 in
theorem b_truly (G : Wd) (Z : ZS) (A : AS) (B : Int) (hM : MS Z A) (hA : AO B A) : Cn G mX11_truly 0 [some (.ref 34), none, none, none] [] Z (qi (fun r W => (xTruly A).1 = r ∧ MS W (xTruly A).2 ∧ FC Z W)) := by
  have hb0 := hA.1
  have hO := hA.2.1
  have h6 : 0 ≤ A.1 6 ∧ A.1 6 ≤ 7 := hO.2.1
  have h28 : 0 ≤ A.1 28 ∧ A.1 28 ≤ 6 := hO.2.2.2.1
  have h59 : 0 ≤ A.1 59 ∧ A.1 59 ≤ 8 := hO.2.2.2.2.2.1
  have hf := hO.1
  unfold FO at hf
  have hct := hA.2.2.2.2.2.2
  refine nz_st (zr_self hM.1) ?_
  refine cz_aload_n (pc' := 1) (g_d dtbX11_truly_0 0 rfl) rfl rfl ?_
  refine nz_getf (v := .ref 35) (pc' := 4) (g_d dtbX11_truly_0 1 rfl) gf_X11_7 (by decide) rfl rfl rfl ?_
  refine nz_iconst (pc' := 5) (g_d dtbX11_truly_0 2 rfl) rfl ?_
  refine nz_iald 0 (pc' := 6) (g_d dtbX11_truly_0 3 rfl) (by decide) rfl (by omega) (by rfl) (by omega) rfl ?_
  rw [show (zr Z 35 A.1) 35 0 = A.1 0 from by simp [zu, zr, ru]]
  refine cz_istore_n (L' := [some (.ref 34), some (iv (A.1 0)), none, none]) (pc' := 7) (g_d dtbX11_truly_0 4 rfl) (by decide) rfl rfl ?_
  refine nz_iconst (pc' := 8) (g_d dtbX11_truly_0 5 rfl) rfl ?_
  refine cz_istore_n (L' := [some (.ref 34), some (iv (A.1 0)), some (iv 0), none]) (pc' := 9) (g_d dtbX11_truly_0 6 rfl) (by decide) rfl rfl ?_
  refine nz_wi (k_truly G Z A.1 B hO (by omega) ((A.1 6).toNat - 0) 0 rfl (by omega)) (fun r W h => ⟨h.1, h.2 ▸ hM.row, h.2 ▸ (FC.r FC.rf (by decide))⟩)

def rT (f t : Row) : Row := zcp f t 0 0 59
theorem rT_lo {f t : Row} {j : Nat} (h : j < 59) : rT f t j = f j := by
  unfold rT zcp; rw [if_pos (by omega)]; congr 1; omega
theorem copy_row {Z : ZS} {f t : Row} (h : Z 35 = f) : zr (zr Z 36 t) 36 (zcp ((zr Z 36 t) 35) ((zr Z 36 t) 36) 0 0 59) = zr Z 36 (rT f t) := by
  rw [zr_zr, zr_eq, zr_ne (by decide), h]; rfl
theorem MS.tr {Z : ZS} {A : AS} {t : Row} (h : MS Z A) : MS (zr Z 36 t) A := by
  obtain ⟨h1, h2, h3, h4, h5, h6⟩ := h
  unfold MS
  rw [zr_ne (show (35 : Nat) ≠ 36 by decide), zr_ne (show (39 : Nat) ≠ 36 by decide), zr_ne (show (38 : Nat) ≠ 36 by decide), zr_ne (show (34 : Nat) ≠ 36 by decide), zr_ne (show (41 : Nat) ≠ 36 by decide), zr_ne (show (40 : Nat) ≠ 36 by decide)]
  exact ⟨h1, h2, h3, h4, h5, h6⟩
def rGs (g : Row) (sp : Int) : Nat → Row
  | 0 => g
  | i + 1 => rGo (rGs g sp i) sp
theorem gs_hi {g : Row} {sp : Int} {j : Nat} (h : 5 ≤ j) : ∀ i, rGs g sp i j = g j := by
  intro i
  induction i with
  | zero => rfl
  | succ i ih => rw [rGs, rGo_hi h, ih]
theorem gs_34 {g : Row} {sp : Int} (h : 1 ≤ g 3 ∧ g 3 ≤ 28) : ∀ i, rGs g sp i 3 = dyA g i ∧ rGs g sp i 4 = mnA g i := by
  intro i
  induction i with
  | zero => exact ⟨(dyA0 h).symm, (mnA0 h).symm⟩
  | succ i ih =>
    rw [rGs, rGo_3, rGo_4, ih.1, ih.2]
    unfold dyA mnA
    constructor
    · split <;> omega
    · split <;> omega
theorem gs_dr {g : Row} {sp : Int} (h : 1 ≤ g 3 ∧ g 3 ≤ 28) (i : Nat) : ∀ n, drA (rGs g sp i) n 0 = drA g n i := by
  intro n
  have e := gs_34 (sp := sp) h i
  have d : 1 ≤ rGs g sp i 3 ∧ rGs g sp i 3 ≤ 28 := by rw [e.1]; unfold dyA; omega
  induction n with
  | zero => rfl
  | succ n ih =>
    rw [drA, drA, ih, gs_hi (by omega), gs_hi (by omega), gs_hi (by omega), pA, pA, dyA0 d, mnA0 d, e.1, e.2]
theorem gs_0 {g : Row} {sp : Int} (h : 1 ≤ g 3 ∧ g 3 ≤ 28) : ∀ i, rGs g sp i 0 = rL (drA g (g 6).toNat) sp (g 0) i := by
  intro i
  induction i with
  | zero => rfl
  | succ i ih => rw [rGs, rGo_0, gs_hi (j := 6) (by omega), gs_dr h, ih, rL]
theorem gs_2 {g : Row} {sp : Int} (h : 1 ≤ g 3 ∧ g 3 ≤ 28) : ∀ i, rGs g sp i 2 = g 2 + rC (drA g (g 6).toNat) sp (g 0) i := by
  intro i
  induction i with
  | zero => simp [rGs, rC]
  | succ i ih =>
    rw [rGs, rGo_2, gs_hi (j := 6) (by omega), gs_dr h, ih, gs_0 h, rC]
    split <;> omega
theorem tr_gs {C s : Int} {g : Row} (h : TR C g) (hs : 0 ≤ s ∧ s ≤ 1000) : ∀ i : Nat, TR (C + 8000 * (i : Int)) (rGs g s i) := by
  intro i
  induction i with
  | zero => simpa [rGs] using h
  | succ i ih =>
    rw [show C + 8000 * ((i + 1 : Nat) : Int) = C + 8000 * (i : Int) + 8000 by push_cast; omega]
    exact tr_go ih hs
theorem TR.ext {C : Int} {f g : Row} (h : TR C f) (e : ∀ j, j < 28 → g j = f j) : TR C g := by
  obtain ⟨h1, h2, h3, h4, h5, h6⟩ := h
  unfold TR
  rw [e 0 (by omega), e 2 (by omega), e 3 (by omega), e 4 (by omega), e 6 (by omega)]
  refine ⟨h1, h2, h3, h4, h5, fun b hb hb2 => ?_⟩
  rw [e _ (by omega), e _ (by omega), e _ (by omega)]
  exact h6 b hb hb2
theorem drA_ext {f g : Row} (e : ∀ j, j < 28 → g j = f j) : ∀ n, n ≤ 7 → ∀ i, drA g n i = drA f n i := by
  intro n
  induction n with
  | zero => intro _ _; rfl
  | succ n ih =>
    intro hn i
    rw [drA, drA, ih (by omega), e _ (by omega), e _ (by omega), e _ (by omega), pA, pA, dyA, dyA, mnA, mnA, e 3 (by omega), e 4 (by omega)]
theorem drA_T {f t : Row} (h6 : 0 ≤ f 6 ∧ f 6 ≤ 7) : drA (rT f t) (rT f t 6).toNat = drA f (f 6).toNat := by
  funext i
  rw [rT_lo (by omega)]
  exact drA_ext (fun j hj => rT_lo (by omega)) _ (by omega) i
theorem tr_T {C : Int} {f t : Row} (h : TR C f) : TR C (rT f t) := h.ext (fun j hj => rT_lo (by omega))
theorem rBl_stay {g : Row} {sp a : Int} {i : Nat} (h : rBl g sp a i ≠ -1) : ∀ d, rBl g sp a (i + d) = rBl g sp a i := by
  intro d
  induction d with
  | zero => rfl
  | succ d ih =>
    rw [show i + (d + 1) = i + d + 1 by omega, rBl, ih, if_neg h]
    split <;> rfl

set_option maxRecDepth 20000 in
set_option maxHeartbeats 4000000 in
theorem m_copyNow (G : Wd) (Z : ZS) (f t : Row) (h35 : Z 35 = f) : Cn G mX11_copyNow 0 [some (.ref 34)] [] (zr Z 36 t) (qv (fun W => zr Z 36 (rT f t) = W)) := by
  refine cz_aload_n (pc' := 1) (g_d dtbX11_copyNow_0 0 rfl) rfl rfl ?_
  refine nz_getf (v := .ref 35) (pc' := 4) (g_d dtbX11_copyNow_0 1 rfl) gf_X11_7 (by decide) rfl rfl rfl ?_
  refine nz_iconst (pc' := 5) (g_d dtbX11_copyNow_0 2 rfl) rfl ?_
  refine cz_aload_n (pc' := 6) (g_d dtbX11_copyNow_0 3 rfl) rfl rfl ?_
  refine nz_getf (v := .ref 36) (pc' := 9) (g_d dtbX11_copyNow_0 4 rfl) gf_X11_13 (by decide) rfl rfl rfl ?_
  refine nz_iconst (pc' := 10) (g_d dtbX11_copyNow_0 5 rfl) rfl ?_
  refine nz_bipush (pc' := 12) (g_d dtbX11_copyNow_0 6 rfl) (by decide) rfl ?_
  refine nz_cSv (M' := mX11_bring) (As := [.ref 35, iv 0, .ref 36, iv 0, iv 59]) (S := []) (L := [some (.ref 34)]) (pc' := 15) (g_d dtbX11_copyNow_0 7 rfl) lk_X11_113 okX11_bring rfl rfl (Nat.le_of_ble_eq_true rfl) (Nat.le_of_ble_eq_true rfl) (by decide) rfl (m_bring2 G (zr Z 36 t) 0 0 59 35 36 0 0 59 108 108 (by decide) (by decide) rfl rfl (by decide) (by decide) (by decide) (by decide) (by decide) rfl rfl rfl) ?_
  rintro _ rfl
  rw [copy_row h35]
  refine nz_rv (g_d dtbX11_copyNow_0 8 rfl) rfl ?_
  exact rfl

set_option maxRecDepth 20000 in
set_option maxHeartbeats 4000000 in
theorem k_chargesOn (G : Wd) (Z : ZS) (g : Row) (C sp : Int) (N : Nat) (hR : TR C g) (hC : C + 8000 * (N : Int) ≤ 80000000) (hs : 0 ≤ sp ∧ sp ≤ 1000) (hN : N ≤ 99) : ∀ (d : Nat) (i : Nat), N - i = d → (i ≤ N) → Cn G mX11_chargesOn 10 [some (.ref 34), some (iv ((N : Int))), some (iv (sp)), some (iv (g 2)), some (iv ((i : Int)))] [] (zr Z 36 (rGs g sp i)) (qi (fun r W => rC (drA g (g 6).toNat) sp (g 0) N = r ∧ zr Z 36 (rGs g sp N) = W)) := by
  intro d
  induction d using Nat.strongRecOn with
  | ind d ih =>
    intro i hd hi
    have hRi := tr_gs hR hs i
    have hRn := tr_gs hR hs (i + 1)
    have hR0 := hRi.1
    have hR2 := hRi.2.1
    have hR1 := hRn.1
    push_cast at hR1
    have hg2 := hR.2.1
    refine cz_iload (pc' := 12) (g_d dtbX11_chargesOn_0 7 rfl) rfl rfl ?_
    refine cz_iload_n (pc' := 13) (g_d dtbX11_chargesOn_0 8 rfl) rfl rfl ?_
    refine nz_icmp_ge (tgt := 30) (pc' := 16) (g_d dtbX11_chargesOn_0 9 rfl) (by omega) (by omega) rfl rfl (fun h13 => ?_) (fun h13 => ?_)
    · refine cz_aload_n (pc' := 31) (g_d dtbX11_chargesOn_0 16 rfl) rfl rfl ?_
      refine nz_getf (v := .ref 36) (pc' := 34) (g_d dtbX11_chargesOn_0 17 rfl) gf_X11_13 (by decide) rfl rfl rfl ?_
      refine nz_iconst (pc' := 35) (g_d dtbX11_chargesOn_0 18 rfl) rfl ?_
      refine nz_iald 2 (pc' := 36) (g_d dtbX11_chargesOn_0 19 rfl) (by decide) rfl (by omega) (by rfl) (by omega) rfl ?_
      rw [show (zr Z 36 (rGs g sp i)) 36 2 = (rGs g sp i) 2 from by simp [zu, zr, ru]]
      refine cz_iload_n (pc' := 37) (g_d dtbX11_chargesOn_0 20 rfl) rfl rfl ?_
      refine nz_isub (pc' := 38) (g_d dtbX11_chargesOn_0 21 rfl) rfl ?_
      refine nz_ri .int (g_d dtbX11_chargesOn_0 22 rfl) rfl rfl ?_
      rw [show i = N by omega]
      exact ⟨by rw [gs_2 hR.2.2.1]; omega, rfl⟩
    · refine cz_aload_n (pc' := 17) (g_d dtbX11_chargesOn_0 10 rfl) rfl rfl ?_
      refine nz_getf (v := .ref 36) (pc' := 20) (g_d dtbX11_chargesOn_0 11 rfl) gf_X11_13 (by decide) rfl rfl rfl ?_
      refine cz_iload_n (pc' := 21) (g_d dtbX11_chargesOn_0 12 rfl) rfl rfl ?_
      refine nz_cSv (M' := mX11_goBy) (As := [.ref 36, iv (sp)]) (S := []) (L := [some (.ref 34), some (iv ((N : Int))), some (iv (sp)), some (iv (g 2)), some (iv ((i : Int)))]) (pc' := 24) (g_d dtbX11_chargesOn_0 13 rfl) lk_X11_132 okX11_goBy rfl rfl (Nat.le_of_ble_eq_true rfl) (Nat.le_of_ble_eq_true rfl) (by decide) rfl (m_goBy G Z (rGs g sp i) (C + 8000 * (i : Int)) sp 36 (by decide) rfl hRi (by omega) hs) ?_
      rintro _ rfl
      rw [show rGo (rGs g sp i) sp = rGs g sp (i + 1) from rfl]
      refine nz_iinc (L' := [some (.ref 34), some (iv ((N : Int))), some (iv (sp)), some (iv (g 2)), some (iv (((i : Int)) + 1))]) (pc' := 27) (g_d dtbX11_chargesOn_0 14 rfl) (by decide) rfl rfl rfl ?_
      refine cz_goto (pc' := 10) (g_d dtbX11_chargesOn_0 15 rfl) rfl ?_
      exact ih (N - (i + 1)) (by omega) (i + 1) rfl (by omega)

set_option maxRecDepth 20000 in
set_option maxHeartbeats 4000000 in
theorem m_chargesOn (G : Wd) (Z : ZS) (g : Row) (C sp : Int) (N : Nat) (hR : TR C g) (hC : C + 8000 * (N : Int) ≤ 80000000) (hs : 0 ≤ sp ∧ sp ≤ 1000) (hN : N ≤ 99) : Cn G mX11_chargesOn 0 [some (.ref 34), some (iv ((N : Int))), some (iv (sp)), none, none] [] (zr Z 36 g) (qi (fun r W => rC (drA g (g 6).toNat) sp (g 0) N = r ∧ zr Z 36 (rGs g sp N) = W)) := by
  refine cz_aload_n (pc' := 1) (g_d dtbX11_chargesOn_0 0 rfl) rfl rfl ?_
  refine nz_getf (v := .ref 36) (pc' := 4) (g_d dtbX11_chargesOn_0 1 rfl) gf_X11_13 (by decide) rfl rfl rfl ?_
  refine nz_iconst (pc' := 5) (g_d dtbX11_chargesOn_0 2 rfl) rfl ?_
  refine nz_iald 2 (pc' := 6) (g_d dtbX11_chargesOn_0 3 rfl) (by decide) rfl (by omega) (by rfl) (by omega) rfl ?_
  rw [show (zr Z 36 g) 36 2 = g 2 from by simp [zu, zr, ru]]
  refine cz_istore_n (L' := [some (.ref 34), some (iv ((N : Int))), some (iv (sp)), some (iv (g 2)), none]) (pc' := 7) (g_d dtbX11_chargesOn_0 4 rfl) (by decide) rfl rfl ?_
  refine nz_iconst (pc' := 8) (g_d dtbX11_chargesOn_0 5 rfl) rfl ?_
  refine cz_istore (L' := [some (.ref 34), some (iv ((N : Int))), some (iv (sp)), some (iv (g 2)), some (iv 0)]) (pc' := 10) (g_d dtbX11_chargesOn_0 6 rfl) (by decide) rfl rfl ?_
  exact k_chargesOn G Z g C sp N hR hC hs hN (N - 0) 0 rfl (by omega)

set_option maxRecDepth 20000 in
set_option maxHeartbeats 4000000 in
theorem k_belowIn (G : Wd) (Z : ZS) (g : Row) (C sp : Int) (N : Nat) (hR : TR C g) (hC : C + 8000 * (N : Int) ≤ 80000000) (hs : 0 ≤ sp ∧ sp ≤ 1000) (hN : N ≤ 99) : ∀ (d : Nat) (i : Nat), N - i = d → (i ≤ N) → (rBl (drA g (g 6).toNat) sp (g 0) i = -1) → Cn G mX11_belowIn 2 [some (.ref 34), some (iv ((N : Int))), some (iv (sp)), some (iv ((i : Int) + 1))] [] (zr Z 36 (rGs g sp i)) (qi (fun r W => rBl (drA g (g 6).toNat) sp (g 0) N = r ∧ ∃ t : Row, zr Z 36 t = W)) := by
  intro d
  induction d using Nat.strongRecOn with
  | ind d ih =>
    intro i hd hi hb
    have hRi := tr_gs hR hs i
    have hRn := tr_gs hR hs (i + 1)
    have hR0 := hRi.1
    have hR2 := hRi.2.1
    have hR1 := hRn.1
    push_cast at hR1
    have hg2 := hR.2.1
    refine cz_iload_n (pc' := 3) (g_d dtbX11_belowIn_0 2 rfl) rfl rfl ?_
    refine cz_iload_n (pc' := 4) (g_d dtbX11_belowIn_0 3 rfl) rfl rfl ?_
    refine nz_icmp_gt (tgt := 32) (pc' := 7) (g_d dtbX11_belowIn_0 4 rfl) (by omega) (by omega) rfl rfl (fun h4 => ?_) (fun h4 => ?_)
    · refine nz_iconst (pc' := 33) (g_d dtbX11_belowIn_0 18 rfl) rfl ?_
      refine nz_ri .int (g_d dtbX11_belowIn_0 19 rfl) rfl rfl ?_
      rw [show i = N by omega] at hb
      exact ⟨hb, _, rfl⟩
    · refine cz_aload_n (pc' := 8) (g_d dtbX11_belowIn_0 5 rfl) rfl rfl ?_
      refine nz_getf (v := .ref 36) (pc' := 11) (g_d dtbX11_belowIn_0 6 rfl) gf_X11_13 (by decide) rfl rfl rfl ?_
      refine cz_iload_n (pc' := 12) (g_d dtbX11_belowIn_0 7 rfl) rfl rfl ?_
      refine nz_cSv (M' := mX11_goBy) (As := [.ref 36, iv (sp)]) (S := []) (L := [some (.ref 34), some (iv ((N : Int))), some (iv (sp)), some (iv ((i : Int) + 1))]) (pc' := 15) (g_d dtbX11_belowIn_0 8 rfl) lk_X11_132 okX11_goBy rfl rfl (Nat.le_of_ble_eq_true rfl) (Nat.le_of_ble_eq_true rfl) (by decide) rfl (m_goBy G Z (rGs g sp i) (C + 8000 * (i : Int)) sp 36 (by decide) rfl hRi (by omega) hs) ?_
      rintro _ rfl
      rw [show rGo (rGs g sp i) sp = rGs g sp (i + 1) from rfl]
      refine cz_aload_n (pc' := 16) (g_d dtbX11_belowIn_0 9 rfl) rfl rfl ?_
      refine nz_getf (v := .ref 36) (pc' := 19) (g_d dtbX11_belowIn_0 10 rfl) gf_X11_13 (by decide) rfl rfl rfl ?_
      refine nz_iconst (pc' := 20) (g_d dtbX11_belowIn_0 11 rfl) rfl ?_
      refine nz_iald 0 (pc' := 21) (g_d dtbX11_belowIn_0 12 rfl) (by decide) rfl (by omega) (by rfl) (by omega) rfl ?_
      rw [show (zr Z 36 (rGs g sp (i + 1))) 36 0 = (rGs g sp (i + 1)) 0 from by simp [zu, zr, ru]]
      refine nz_if_ge (tgt := 26) (pc' := 24) (g_d dtbX11_belowIn_0 13 rfl) (by omega) rfl rfl (fun h21 => ?_) (fun h21 => ?_)
      · refine nz_iinc (L' := [some (.ref 34), some (iv ((N : Int))), some (iv (sp)), some (iv (((i : Int) + 1) + 1))]) (pc' := 29) (g_d dtbX11_belowIn_0 16 rfl) (by decide) rfl rfl rfl ?_
        refine cz_goto (pc' := 2) (g_d dtbX11_belowIn_0 17 rfl) rfl ?_
        rw [show (i : Int) + 1 + 1 = ((i + 1 : Nat) : Int) + 1 by push_cast; omega]
        exact ih (N - (i + 1)) (by omega) (i + 1) rfl (by omega) (by rw [rBl, hb, if_neg ?_]; rw [gs_0 hR.2.2.1, rL] at h21; split at h21 <;> omega)
      · refine cz_iload_n (pc' := 25) (g_d dtbX11_belowIn_0 14 rfl) rfl rfl ?_
        refine nz_ri .int (g_d dtbX11_belowIn_0 15 rfl) rfl rfl ?_
        refine ⟨?_, _, rfl⟩
        have e : rBl (drA g (g 6).toNat) sp (g 0) (i + 1) = (i : Int) + 1 := by
          rw [rBl, hb, if_pos rfl, if_pos ?_]
          rw [gs_0 hR.2.2.1, rL] at h21
          split at h21 <;> omega
        have q := rBl_stay (g := drA g (g 6).toNat) (sp := sp) (a := g 0) (i := i + 1) (by omega) (N - (i + 1))
        rw [show i + 1 + (N - (i + 1)) = N by omega] at q
        rw [q, e]

set_option maxRecDepth 20000 in
set_option maxHeartbeats 4000000 in
theorem m_belowIn (G : Wd) (Z : ZS) (g : Row) (C sp : Int) (N : Nat) (hR : TR C g) (hC : C + 8000 * (N : Int) ≤ 80000000) (hs : 0 ≤ sp ∧ sp ≤ 1000) (hN : N ≤ 99) : Cn G mX11_belowIn 0 [some (.ref 34), some (iv ((N : Int))), some (iv (sp)), none] [] (zr Z 36 g) (qi (fun r W => rBl (drA g (g 6).toNat) sp (g 0) N = r ∧ ∃ t : Row, zr Z 36 t = W)) := by
  refine nz_iconst (pc' := 1) (g_d dtbX11_belowIn_0 0 rfl) rfl ?_
  refine cz_istore_n (L' := [some (.ref 34), some (iv ((N : Int))), some (iv (sp)), some (iv 1)]) (pc' := 2) (g_d dtbX11_belowIn_0 1 rfl) (by decide) rfl rfl ?_
  exact k_belowIn G Z g C sp N hR hC hs hN (N - 0) 0 rfl (by omega) rfl

set_option maxRecDepth 20000 in
set_option maxHeartbeats 4000000 in
theorem b_then (G : Wd) (Z : ZS) (A : AS) (B : Int) (hM : MS Z A) (hA : AO B A) (m w : Int) (hm : -2147483648 ≤ m ∧ m ≤ 2147483647) (hw : -2147483648 ≤ w ∧ w ≤ 2147483647) (hbb : B + 700000 ≤ 60000000) : Cn G mX11_then 0 [some (.ref 34), some (iv (m)), some (iv (w)), none] [] Z (qi (fun r W => (xThen A m w).1 = r ∧ MS W (xThen A m w).2 ∧ FC Z W)) := by
  have hb0 := hA.1
  have hO := hA.2.1
  have h6 : 0 ≤ A.1 6 ∧ A.1 6 ≤ 7 := hO.2.1
  have h28 : 0 ≤ A.1 28 ∧ A.1 28 ≤ 6 := hO.2.2.2.1
  have h59 : 0 ≤ A.1 59 ∧ A.1 59 ≤ 8 := hO.2.2.2.2.2.1
  have hf := hO.1
  unfold FO at hf
  have hct := hA.2.2.2.2.2.2
  have hT := hO.tr (by omega)
  have hgA : drA A.1 (A.1 6).toNat = gA A := rfl
  obtain ⟨t, ht0⟩ : ∃ t : Row, Z 36 = t := ⟨_, rfl⟩
  refine nz_st (zr_self ht0) ?_
  refine cz_iload_n (pc' := 1) (g_d dtbX11_then_0 0 rfl) rfl rfl ?_
  refine nz_iconst (pc' := 2) (g_d dtbX11_then_0 1 rfl) rfl ?_
  refine nz_bipush (pc' := 4) (g_d dtbX11_then_0 2 rfl) (by decide) rfl ?_
  refine nz_cSi (M' := mX11_in) (As := [iv (m), iv 0, iv 99]) (S := []) (L := [some (.ref 34), some (iv (m)), some (iv (w)), none]) (pc' := 7) (g_d dtbX11_then_0 3 rfl) lk_X11_40 okX11_in rfl rfl (Nat.le_of_ble_eq_true rfl) (Nat.le_of_ble_eq_true rfl) (by decide) rfl (m_in G (zr Z 36 t) m 0 99 (by omega) (by omega) (by omega)) ?_
  rintro _ _ ⟨rfl, ⟨rfl, hw4⟩ | ⟨rfl, hw4⟩⟩
  · refine nz_if_eq_f (pc' := 10) (g_d dtbX11_then_0 4 rfl) (by omega) (by decide) rfl (by omega) ?_
    refine cz_iload_n (pc' := 11) (g_d dtbX11_then_0 5 rfl) rfl rfl ?_
    refine nz_iconst (pc' := 12) (g_d dtbX11_then_0 6 rfl) rfl ?_
    refine nz_iconst (pc' := 13) (g_d dtbX11_then_0 7 rfl) rfl ?_
    refine nz_cSi (M' := mX11_in) (As := [iv (w), iv 0, iv 1]) (S := []) (L := [some (.ref 34), some (iv (m)), some (iv (w)), none]) (pc' := 16) (g_d dtbX11_then_0 8 rfl) lk_X11_40 okX11_in rfl rfl (Nat.le_of_ble_eq_true rfl) (Nat.le_of_ble_eq_true rfl) (by decide) rfl (m_in G (zr Z 36 t) w 0 1 (by omega) (by omega) (by omega)) ?_
    rintro _ _ ⟨rfl, ⟨rfl, hw13⟩ | ⟨rfl, hw13⟩⟩
    · refine nz_if_ne_t (tgt := 26) (g_d dtbX11_then_0 9 rfl) (by omega) rfl (by omega) ?_
      obtain ⟨N, rfl⟩ : ∃ N : Nat, m = (N : Int) := ⟨m.toNat, by omega⟩
      refine cz_aload_n (pc' := 27) (g_d dtbX11_then_0 14 rfl) rfl rfl ?_
      refine nz_cVv (M' := mX11_copyNow) (k := 34) (As := []) (S := []) (L := [some (.ref 34), some (iv ((N : Int))), some (iv (w)), none]) (pc' := 30) (g_d dtbX11_then_0 15 rfl) lk_X11_147 okX11_copyNow (by decide) rfl rfl rfl rfl (Nat.le_of_ble_eq_true rfl) (Nat.le_of_ble_eq_true rfl) (by decide) rfl (m_copyNow G Z A.1 t hM.1) ?_
      rintro _ rfl
      refine cz_aload_n (pc' := 31) (g_d dtbX11_then_0 16 rfl) rfl rfl ?_
      refine cz_iload_n (pc' := 32) (g_d dtbX11_then_0 17 rfl) rfl rfl ?_
      refine cz_aload_n (pc' := 33) (g_d dtbX11_then_0 18 rfl) rfl rfl ?_
      refine nz_getf (v := .ref 35) (pc' := 36) (g_d dtbX11_then_0 19 rfl) gf_X11_7 (by decide) rfl rfl rfl ?_
      refine nz_iconst (pc' := 37) (g_d dtbX11_then_0 20 rfl) rfl ?_
      refine nz_iald 5 (pc' := 38) (g_d dtbX11_then_0 21 rfl) (by decide) rfl (by omega) (by rfl) (by omega) rfl ?_
      rw [show (zr Z 36 (rT A.1 t)) 35 5 = A.1 5 from by rw [zr_ne (by decide)]; exact congrFun hM.1 _]
      refine nz_cVi (M' := mX11_chargesOn) (k := 34) (As := [iv ((N : Int)), iv (A.1 5)]) (S := []) (L := [some (.ref 34), some (iv ((N : Int))), some (iv (w)), none]) (pc' := 41) (g_d dtbX11_then_0 22 rfl) lk_X11_150 okX11_chargesOn (by decide) rfl rfl rfl rfl (Nat.le_of_ble_eq_true rfl) (Nat.le_of_ble_eq_true rfl) (by decide) rfl (m_chargesOn G Z (rT A.1 t) B (A.1 5) N (tr_T hT) (by omega) (by omega) (by omega)) ?_
      rintro _ _ ⟨rfl, rfl⟩
      rw [drA_T h6, rT_lo (by decide), hgA]
      refine cz_istore_n (L' := [some (.ref 34), some (iv ((N : Int))), some (iv (w)), some (iv (rC (gA A) (A.1 5) (A.1 0) N))]) (pc' := 42) (g_d dtbX11_then_0 23 rfl) (by decide) rfl rfl ?_
      refine cz_iload_n (pc' := 43) (g_d dtbX11_then_0 24 rfl) rfl rfl ?_
      refine nz_if_ne (tgt := 55) (pc' := 46) (g_d dtbX11_then_0 25 rfl) (by omega) rfl rfl (fun h43 => ?_) (fun h43 => ?_)
      · refine cz_iload_n (pc' := 56) (g_d dtbX11_then_0 31 rfl) rfl rfl ?_
        refine nz_ri .int (g_d dtbX11_then_0 32 rfl) rfl rfl ?_
        rw [show xThen A (N : Int) w = (rC (gA A) (A.1 5) (A.1 0) N, A) from by unfold xThen; rw [if_pos (by omega), if_neg (by omega)]; rfl]
        exact ⟨rfl, hM.tr, (FC.r FC.rf (by decide))⟩
      · refine cz_aload_n (pc' := 47) (g_d dtbX11_then_0 26 rfl) rfl rfl ?_
        refine nz_getf (v := .ref 36) (pc' := 50) (g_d dtbX11_then_0 27 rfl) gf_X11_13 (by decide) rfl rfl rfl ?_
        refine nz_iconst (pc' := 51) (g_d dtbX11_then_0 28 rfl) rfl ?_
        refine nz_iald 0 (pc' := 52) (g_d dtbX11_then_0 29 rfl) (by decide) rfl (by omega) (by rfl) (by omega) rfl ?_
        rw [show (zr Z 36 (rGs (rT A.1 t) (A.1 5) N)) 36 0 = rL (gA A) (A.1 5) (A.1 0) N from by rw [zr_eq, gs_0 (tr_T hT).2.2.1, drA_T h6, rT_lo (by decide), hgA]]
        refine cz_goto (pc' := 56) (g_d dtbX11_then_0 30 rfl) rfl ?_
        refine nz_ri .int (g_d dtbX11_then_0 32 rfl) rfl rfl ?_
        rw [show xThen A (N : Int) w = (rL (gA A) (A.1 5) (A.1 0) N, A) from by unfold xThen; rw [if_pos (by omega), if_pos (by omega)]; rfl]
        exact ⟨rfl, hM.tr, (FC.r FC.rf (by decide))⟩
    · refine nz_if_ne_f (pc' := 19) (g_d dtbX11_then_0 9 rfl) (by omega) (by decide) rfl (by omega) ?_
      refine cz_aload_n (pc' := 20) (g_d dtbX11_then_0 10 rfl) rfl rfl ?_
      refine nz_ldc (pc' := 22) (v := -100000) (g_d dtbX11_then_0 11 rfl) kn_X11_146 rfl ?_
      refine nz_cVi (M' := mX11_badBy) (k := 34) (As := [iv (-100000)]) (S := []) (L := [some (.ref 34), some (iv (m)), some (iv (w)), none]) (pc' := 25) (g_d dtbX11_then_0 12 rfl) lk_X11_143 okX11_badBy (by decide) rfl rfl rfl rfl (Nat.le_of_ble_eq_true rfl) (Nat.le_of_ble_eq_true rfl) (by decide) rfl (m_badBy G (zr Z 36 t) (-100000)) ?_
      rintro _ _ ⟨rfl, rfl⟩
      refine nz_ri .int (g_d dtbX11_then_0 13 rfl) rfl rfl ?_
      rw [show xThen A m w = (-100000, aBad A) from by unfold xThen; rw [if_neg (by omega)]]
      exact ⟨rfl, ms_bad hM.tr, (FC.u (FC.r FC.rf (by decide)) (by decide))⟩
  · refine nz_if_eq_t (tgt := 19) (g_d dtbX11_then_0 4 rfl) (by omega) rfl (by omega) ?_
    refine cz_aload_n (pc' := 20) (g_d dtbX11_then_0 10 rfl) rfl rfl ?_
    refine nz_ldc (pc' := 22) (v := -100000) (g_d dtbX11_then_0 11 rfl) kn_X11_146 rfl ?_
    refine nz_cVi (M' := mX11_badBy) (k := 34) (As := [iv (-100000)]) (S := []) (L := [some (.ref 34), some (iv (m)), some (iv (w)), none]) (pc' := 25) (g_d dtbX11_then_0 12 rfl) lk_X11_143 okX11_badBy (by decide) rfl rfl rfl rfl (Nat.le_of_ble_eq_true rfl) (Nat.le_of_ble_eq_true rfl) (by decide) rfl (m_badBy G (zr Z 36 t) (-100000)) ?_
    rintro _ _ ⟨rfl, rfl⟩
    refine nz_ri .int (g_d dtbX11_then_0 13 rfl) rfl rfl ?_
    rw [show xThen A m w = (-100000, aBad A) from by unfold xThen; rw [if_neg (by omega)]]
    exact ⟨rfl, ms_bad hM.tr, (FC.u (FC.r FC.rf (by decide)) (by decide))⟩

set_option maxRecDepth 20000 in
set_option maxHeartbeats 4000000 in
theorem b_below (G : Wd) (Z : ZS) (A : AS) (B : Int) (hM : MS Z A) (hA : AO B A) (hbb : B + 700000 ≤ 60000000) : Cn G mX11_below 0 [some (.ref 34)] [] Z (qi (fun r W => (xBelow A).1 = r ∧ MS W (xBelow A).2 ∧ FC Z W)) := by
  have hb0 := hA.1
  have hO := hA.2.1
  have h6 : 0 ≤ A.1 6 ∧ A.1 6 ≤ 7 := hO.2.1
  have h28 : 0 ≤ A.1 28 ∧ A.1 28 ≤ 6 := hO.2.2.2.1
  have h59 : 0 ≤ A.1 59 ∧ A.1 59 ≤ 8 := hO.2.2.2.2.2.1
  have hf := hO.1
  unfold FO at hf
  have hct := hA.2.2.2.2.2.2
  have hT := hO.tr (by omega)
  have hgA : drA A.1 (A.1 6).toNat = gA A := rfl
  obtain ⟨t, ht0⟩ : ∃ t : Row, Z 36 = t := ⟨_, rfl⟩
  refine nz_st (zr_self ht0) ?_
  refine cz_aload_n (pc' := 1) (g_d dtbX11_below_0 0 rfl) rfl rfl ?_
  refine nz_cVv (M' := mX11_copyNow) (k := 34) (As := []) (S := []) (L := [some (.ref 34)]) (pc' := 4) (g_d dtbX11_below_0 1 rfl) lk_X11_147 okX11_copyNow (by decide) rfl rfl rfl rfl (Nat.le_of_ble_eq_true rfl) (Nat.le_of_ble_eq_true rfl) (by decide) rfl (m_copyNow G Z A.1 t hM.1) ?_
  rintro _ rfl
  refine cz_aload_n (pc' := 5) (g_d dtbX11_below_0 2 rfl) rfl rfl ?_
  refine nz_bipush (pc' := 7) (g_d dtbX11_below_0 3 rfl) (by decide) rfl ?_
  refine cz_aload_n (pc' := 8) (g_d dtbX11_below_0 4 rfl) rfl rfl ?_
  refine nz_getf (v := .ref 35) (pc' := 11) (g_d dtbX11_below_0 5 rfl) gf_X11_7 (by decide) rfl rfl rfl ?_
  refine nz_iconst (pc' := 12) (g_d dtbX11_below_0 6 rfl) rfl ?_
  refine nz_iald 5 (pc' := 13) (g_d dtbX11_below_0 7 rfl) (by decide) rfl (by omega) (by rfl) (by omega) rfl ?_
  rw [show (zr Z 36 (rT A.1 t)) 35 5 = A.1 5 from by rw [zr_ne (by decide)]; exact congrFun hM.1 _]
  refine nz_cVi (M' := mX11_belowIn) (k := 34) (As := [iv 99, iv (A.1 5)]) (S := []) (L := [some (.ref 34)]) (pc' := 16) (g_d dtbX11_below_0 8 rfl) lk_X11_153 okX11_belowIn (by decide) rfl rfl rfl rfl (Nat.le_of_ble_eq_true rfl) (Nat.le_of_ble_eq_true rfl) (by decide) rfl (m_belowIn G Z (rT A.1 t) B (A.1 5) 99 (tr_T hT) (by omega) (by omega) (by omega)) ?_
  rintro _ _ ⟨rfl, t13, rfl⟩
  rw [drA_T h6, rT_lo (by decide), hgA]
  refine nz_ri .int (g_d dtbX11_below_0 9 rfl) rfl rfl ?_
  exact ⟨rfl, hM.tr, (FC.r FC.rf (by decide))⟩

theorem most_is {g : Row} {sp a : Int} (hs : sp ≤ 30) : ∀ i : Nat, (rBl g sp a i = -1 ↔ sp ≤ mS g a i) ∧ (rBl g sp a i = -1 → rL g sp a i = sS g a i - sp * (i : Int)) := by
  intro i
  induction i with
  | zero => simp [rBl, mS, rL, sS, hs]
  | succ i ih =>
    have k : sp ≤ (sS g a i - g i) / ((i : Int) + 1) ↔ sp * ((i : Int) + 1) ≤ sS g a i - g i := Int.le_ediv_iff_mul_le (by omega)
    have m1 : sp * ((i : Int) + 1) = sp * (i : Int) + sp := by rw [Int.mul_add, Int.mul_one]
    have m2 : sp * ((i + 1 : Nat) : Int) = sp * (i : Int) + sp := by push_cast; rw [Int.mul_add, Int.mul_one]
    rw [rBl, mS, rL, sS, m2]
    by_cases q : rBl g sp a i = -1
    · have e := ih.2 q
      have e1 := ih.1.mp q
      rw [e]
      by_cases b : sS g a i - sp * (i : Int) - (g i + sp) < 0
      · rw [if_pos b, if_pos q]
        refine ⟨⟨fun x => by omega, fun x => ?_⟩, fun x => by omega⟩
        have : sp ≤ (sS g a i - g i) / ((i : Int) + 1) := by omega
        have := k.mp this
        omega
      · rw [if_neg b, if_neg b]
        refine ⟨⟨fun _ => ?_, fun _ => q⟩, fun _ => by omega⟩
        have := k.mpr (by omega)
        omega
    · have e1 : ¬ sp ≤ mS g a i := fun x => q (ih.1.mpr x)
      rw [if_neg q]
      refine ⟨⟨fun x => ?_, fun x => by omega⟩, fun x => ?_⟩
      · split at x <;> exact absurd x q
      · split at x <;> exact absurd x q
theorem need_is {g : Row} {sp a x : Int} (hx : 0 ≤ x) : ∀ i : Nat, (rBl g sp (a + x) i = -1 ↔ lM g sp a i ≤ x) ∧ (rBl g sp (a + x) i = -1 → rL g sp (a + x) i = sP g sp a i + x) := by
  intro i
  induction i with
  | zero => simp [rBl, lM, rL, sP, hx]
  | succ i ih =>
    rw [rBl, lM, rL, sP]
    by_cases q : rBl g sp (a + x) i = -1
    · have e := ih.2 q
      have e1 := ih.1.mp q
      rw [e]
      by_cases b : sP g sp a i + x - (g i + sp) < 0
      · rw [if_pos b, if_pos q]
        exact ⟨⟨fun x => by omega, fun x => by omega⟩, fun x => by omega⟩
      · rw [if_neg b, if_neg b]
        exact ⟨⟨fun _ => by omega, fun _ => q⟩, fun _ => by omega⟩
    · have e1 : ¬ lM g sp a i ≤ x := fun y => q (ih.1.mpr y)
      rw [if_neg q]
      refine ⟨⟨fun x => ?_, fun x => by omega⟩, fun x => ?_⟩
      · split at x <;> exact absurd x q
      · split at x <;> exact absurd x q

set_option maxRecDepth 20000 in
set_option maxHeartbeats 4000000 in
theorem k_most (G : Wd) (Z : ZS) (A : AS) (B : Int) (hM : MS Z A) (hA : AO B A) (N : Nat) (hN : 1 ≤ N ∧ N ≤ 99) (hbb : B + 700000 ≤ 60000000) : ∀ (d : Nat) (i : Nat) (t : Row), 31 - i = d → (i ≤ 31) → (mS (gA A) (A.1 0) N ≤ 30 - (i : Int)) → Cn G mX11_most 18 [some (.ref 34), some (iv ((N : Int))), some (iv (30 - (i : Int)))] [] (zr Z 36 t) (qi (fun r W => (xMost A (N : Int)).1 = r ∧ MS W (xMost A (N : Int)).2 ∧ FC Z W)) := by
  intro d
  induction d using Nat.strongRecOn with
  | ind d ih =>
    intro i t hd hi hmo
    have hb0 := hA.1
    have hO := hA.2.1
    have h6 : 0 ≤ A.1 6 ∧ A.1 6 ≤ 7 := hO.2.1
    have h28 : 0 ≤ A.1 28 ∧ A.1 28 ≤ 6 := hO.2.2.2.1
    have h59 : 0 ≤ A.1 59 ∧ A.1 59 ≤ 8 := hO.2.2.2.2.2.1
    have hf := hO.1
    unfold FO at hf
    have hct := hA.2.2.2.2.2.2
    have hT := hO.tr (by omega)
    have hgA : drA A.1 (A.1 6).toNat = gA A := rfl
    refine cz_iload_n (pc' := 19) (g_d dtbX11_most_0 10 rfl) rfl rfl ?_
    refine nz_if_lt (tgt := 44) (pc' := 22) (g_d dtbX11_most_0 11 rfl) (by omega) rfl rfl (fun h19 => ?_) (fun h19 => ?_)
    · refine nz_iconst (pc' := 45) (g_d dtbX11_most_0 24 rfl) rfl ?_
      refine nz_ri .int (g_d dtbX11_most_0 25 rfl) rfl rfl ?_
      rw [show xMost A (N : Int) = (-1, A) from by unfold xMost; rw [if_pos (by omega), Int.toNat_natCast, if_pos (by omega)]]
      exact ⟨rfl, hM.tr, (FC.r FC.rf (by decide))⟩
    · refine cz_aload_n (pc' := 23) (g_d dtbX11_most_0 12 rfl) rfl rfl ?_
      refine nz_cVv (M' := mX11_copyNow) (k := 34) (As := []) (S := []) (L := [some (.ref 34), some (iv ((N : Int))), some (iv (30 - (i : Int)))]) (pc' := 26) (g_d dtbX11_most_0 13 rfl) lk_X11_147 okX11_copyNow (by decide) rfl rfl rfl rfl (Nat.le_of_ble_eq_true rfl) (Nat.le_of_ble_eq_true rfl) (by decide) rfl (m_copyNow G Z A.1 t hM.1) ?_
      rintro _ rfl
      refine cz_aload_n (pc' := 27) (g_d dtbX11_most_0 14 rfl) rfl rfl ?_
      refine cz_iload_n (pc' := 28) (g_d dtbX11_most_0 15 rfl) rfl rfl ?_
      refine cz_iload_n (pc' := 29) (g_d dtbX11_most_0 16 rfl) rfl rfl ?_
      refine nz_cVi (M' := mX11_belowIn) (k := 34) (As := [iv ((N : Int)), iv (30 - (i : Int))]) (S := []) (L := [some (.ref 34), some (iv ((N : Int))), some (iv (30 - (i : Int)))]) (pc' := 32) (g_d dtbX11_most_0 17 rfl) lk_X11_153 okX11_belowIn (by decide) rfl rfl rfl rfl (Nat.le_of_ble_eq_true rfl) (Nat.le_of_ble_eq_true rfl) (by decide) rfl (m_belowIn G Z (rT A.1 t) B (30 - (i : Int)) N (tr_T hT) (by omega) (by omega) (by omega)) ?_
      rintro _ _ ⟨rfl, t29, rfl⟩
      rw [drA_T h6, rT_lo (by decide), hgA]
      have hrb := rBl_in (g := gA A) (sp := 30 - (i : Int)) (a := A.1 0) N
      refine nz_iconst (pc' := 33) (g_d dtbX11_most_0 18 rfl) rfl ?_
      refine nz_icmp_ne (tgt := 38) (pc' := 36) (g_d dtbX11_most_0 19 rfl) (by omega) (by omega) rfl rfl (fun h33 => ?_) (fun h33 => ?_)
      · refine nz_iinc (L' := [some (.ref 34), some (iv ((N : Int))), some (iv ((30 - (i : Int)) + (-1)))]) (pc' := 41) (g_d dtbX11_most_0 22 rfl) (by decide) rfl rfl rfl ?_
        refine cz_goto (pc' := 18) (g_d dtbX11_most_0 23 rfl) rfl ?_
        have hmi := (most_is (g := gA A) (a := A.1 0) (sp := 30 - (i : Int)) (by omega) N).1
        rw [show 30 - (i : Int) + (-1) = 30 - ((i + 1 : Nat) : Int) by push_cast; omega]
        exact ih (31 - (i + 1)) (by omega) (i + 1) t29 rfl (by omega) (by push_cast; omega)
      · refine cz_iload_n (pc' := 37) (g_d dtbX11_most_0 20 rfl) rfl rfl ?_
        refine nz_ri .int (g_d dtbX11_most_0 21 rfl) rfl rfl ?_
        have hmi := (most_is (g := gA A) (a := A.1 0) (sp := 30 - (i : Int)) (by omega) N).1
        rw [show xMost A (N : Int) = (30 - (i : Int), A) from by unfold xMost; rw [if_pos (by omega), Int.toNat_natCast, if_neg (by omega)]; congr 1; omega]
        exact ⟨rfl, hM.tr, (FC.r FC.rf (by decide))⟩

theorem mS_le {g : Row} {a : Int} : ∀ i : Nat, mS g a i ≤ 30 - ((0 : Nat) : Int) := by
  intro i
  induction i with
  | zero => simp [mS]
  | succ i ih => rw [mS]; omega
theorem lM_ge {g : Row} {sp a : Int} : ∀ i : Nat, ((0 : Nat) : Int) ≤ lM g sp a i := by
  intro i
  induction i with
  | zero => simp [lM]
  | succ i ih => rw [lM]; omega

set_option maxRecDepth 20000 in
set_option maxHeartbeats 4000000 in
theorem b_most (G : Wd) (Z : ZS) (A : AS) (B : Int) (hM : MS Z A) (hA : AO B A) (m : Int) (hm : -2147483648 ≤ m ∧ m ≤ 2147483647) (hbb : B + 700000 ≤ 60000000) : Cn G mX11_most 0 [some (.ref 34), some (iv (m)), none] [] Z (qi (fun r W => (xMost A m).1 = r ∧ MS W (xMost A m).2 ∧ FC Z W)) := by
  have hb0 := hA.1
  have hO := hA.2.1
  have h6 : 0 ≤ A.1 6 ∧ A.1 6 ≤ 7 := hO.2.1
  have h28 : 0 ≤ A.1 28 ∧ A.1 28 ≤ 6 := hO.2.2.2.1
  have h59 : 0 ≤ A.1 59 ∧ A.1 59 ≤ 8 := hO.2.2.2.2.2.1
  have hf := hO.1
  unfold FO at hf
  have hct := hA.2.2.2.2.2.2
  have hT := hO.tr (by omega)
  have hgA : drA A.1 (A.1 6).toNat = gA A := rfl
  obtain ⟨t, ht0⟩ : ∃ t : Row, Z 36 = t := ⟨_, rfl⟩
  refine nz_st (zr_self ht0) ?_
  refine cz_iload_n (pc' := 1) (g_d dtbX11_most_0 0 rfl) rfl rfl ?_
  refine nz_iconst (pc' := 2) (g_d dtbX11_most_0 1 rfl) rfl ?_
  refine nz_bipush (pc' := 4) (g_d dtbX11_most_0 2 rfl) (by decide) rfl ?_
  refine nz_cSi (M' := mX11_in) (As := [iv (m), iv 1, iv 99]) (S := []) (L := [some (.ref 34), some (iv (m)), none]) (pc' := 7) (g_d dtbX11_most_0 3 rfl) lk_X11_40 okX11_in rfl rfl (Nat.le_of_ble_eq_true rfl) (Nat.le_of_ble_eq_true rfl) (by decide) rfl (m_in G (zr Z 36 t) m 1 99 (by omega) (by omega) (by omega)) ?_
  rintro _ _ ⟨rfl, ⟨rfl, hw4⟩ | ⟨rfl, hw4⟩⟩
  · refine nz_if_ne_t (tgt := 15) (g_d dtbX11_most_0 4 rfl) (by omega) rfl (by omega) ?_
    obtain ⟨N, rfl⟩ : ∃ N : Nat, m = (N : Int) := ⟨m.toNat, by omega⟩
    refine nz_bipush (pc' := 17) (g_d dtbX11_most_0 8 rfl) (by decide) rfl ?_
    refine cz_istore_n (L' := [some (.ref 34), some (iv ((N : Int))), some (iv 30)]) (pc' := 18) (g_d dtbX11_most_0 9 rfl) (by decide) rfl rfl ?_
    exact k_most G Z A B hM hA N (by omega) hbb (31 - 0) 0 t rfl (by omega) (mS_le N)
  · refine nz_if_ne_f (pc' := 10) (g_d dtbX11_most_0 4 rfl) (by omega) (by decide) rfl (by omega) ?_
    refine cz_aload_n (pc' := 11) (g_d dtbX11_most_0 5 rfl) rfl rfl ?_
    refine nz_cVi (M' := mX11_bad) (k := 34) (As := []) (S := []) (L := [some (.ref 34), some (iv (m)), none]) (pc' := 14) (g_d dtbX11_most_0 6 rfl) lk_X11_44 okX11_bad (by decide) rfl rfl rfl rfl (Nat.le_of_ble_eq_true rfl) (Nat.le_of_ble_eq_true rfl) (by decide) rfl (m_bad G (zr Z 36 t)) ?_
    rintro _ _ ⟨rfl, rfl⟩
    refine nz_ri .int (g_d dtbX11_most_0 7 rfl) rfl rfl ?_
    rw [show xMost A m = (-2, aBad A) from by unfold xMost; rw [if_neg (by omega)]]
    exact ⟨rfl, ms_bad hM.tr, (FC.u (FC.r FC.rf (by decide)) (by decide))⟩

theorem tr_up {C x : Int} {f : Row} (h : TR C f) (hx : 0 ≤ x ∧ x ≤ 1000) : TR (C + 1000) (ru f 0 (f 0 + x)) := by
  obtain ⟨h1, h2, h3, h4, h5, h6⟩ := h
  unfold TR
  rw [ru_eq, ru_ne (by decide), ru_ne (by decide), ru_ne (by decide), ru_ne (by decide)]
  refine ⟨by omega, by omega, h3, by omega, h5, fun b hb hb2 => ?_⟩
  rw [ru_ne (by omega), ru_ne (by omega), ru_ne (by omega)]; exact h6 b hb hb2
theorem drA_0 {f : Row} {x : Int} : drA (ru f 0 x) (ru f 0 x 6).toNat = drA f (f 6).toNat := by
  rw [ru_ne (by decide)]
  have : ∀ n i, drA (ru f 0 x) n i = drA f n i := by
    intro n
    induction n with
    | zero => intro _; rfl
    | succ n ih =>
      intro i
      rw [drA, drA, ih, ru_ne (by omega), ru_ne (by omega), ru_ne (by omega), pA, pA, dyA, dyA, mnA, mnA, ru_ne (by decide), ru_ne (by decide)]
  funext i
  exact this _ i

set_option maxRecDepth 20000 in
set_option maxHeartbeats 4000000 in
theorem k_need (G : Wd) (Z : ZS) (A : AS) (B : Int) (hM : MS Z A) (hA : AO B A) (N : Nat) (hN : 1 ≤ N ∧ N ≤ 99) (hbb : B + 700000 ≤ 60000000) : ∀ (d : Nat) (i : Nat) (t : Row), 1000 - i = d → (i ≤ 1000) → ((i : Int) ≤ lM (gA A) (A.1 5) (A.1 0) N) → Cn G mX11_need 17 [some (.ref 34), some (iv ((N : Int))), some (iv ((i : Int)))] [] (zr Z 36 t) (qi (fun r W => (xNeed A (N : Int)).1 = r ∧ MS W (xNeed A (N : Int)).2 ∧ FC Z W)) := by
  intro d
  induction d using Nat.strongRecOn with
  | ind d ih =>
    intro i t hd hi hmo
    have hb0 := hA.1
    have hO := hA.2.1
    have h6 : 0 ≤ A.1 6 ∧ A.1 6 ≤ 7 := hO.2.1
    have h28 : 0 ≤ A.1 28 ∧ A.1 28 ≤ 6 := hO.2.2.2.1
    have h59 : 0 ≤ A.1 59 ∧ A.1 59 ≤ 8 := hO.2.2.2.2.2.1
    have hf := hO.1
    unfold FO at hf
    have hct := hA.2.2.2.2.2.2
    have hT := hO.tr (by omega)
    have hgA : drA A.1 (A.1 6).toNat = gA A := rfl
    refine cz_iload_n (pc' := 18) (g_d dtbX11_need_0 10 rfl) rfl rfl ?_
    refine nz_sipush (pc' := 21) (g_d dtbX11_need_0 11 rfl) (by decide) rfl ?_
    refine nz_icmp_ge (tgt := 61) (pc' := 24) (g_d dtbX11_need_0 12 rfl) (by omega) (by omega) rfl rfl (fun h21 => ?_) (fun h21 => ?_)
    · refine nz_iconst (pc' := 62) (g_d dtbX11_need_0 36 rfl) rfl ?_
      refine nz_ri .int (g_d dtbX11_need_0 37 rfl) rfl rfl ?_
      rw [show xNeed A (N : Int) = (-1, A) from by unfold xNeed; rw [if_pos (by omega), Int.toNat_natCast, if_pos (by omega)]]
      exact ⟨rfl, hM.tr, (FC.r FC.rf (by decide))⟩
    · refine cz_aload_n (pc' := 25) (g_d dtbX11_need_0 13 rfl) rfl rfl ?_
      refine nz_cVv (M' := mX11_copyNow) (k := 34) (As := []) (S := []) (L := [some (.ref 34), some (iv ((N : Int))), some (iv ((i : Int)))]) (pc' := 28) (g_d dtbX11_need_0 14 rfl) lk_X11_147 okX11_copyNow (by decide) rfl rfl rfl rfl (Nat.le_of_ble_eq_true rfl) (Nat.le_of_ble_eq_true rfl) (by decide) rfl (m_copyNow G Z A.1 t hM.1) ?_
      rintro _ rfl
      refine cz_aload_n (pc' := 29) (g_d dtbX11_need_0 15 rfl) rfl rfl ?_
      refine nz_getf (v := .ref 36) (pc' := 32) (g_d dtbX11_need_0 16 rfl) gf_X11_13 (by decide) rfl rfl rfl ?_
      refine nz_iconst (pc' := 33) (g_d dtbX11_need_0 17 rfl) rfl ?_
      refine cz_dup2 (pc' := 34) (g_d dtbX11_need_0 18 rfl) rfl rfl rfl ?_
      refine nz_iald 0 (pc' := 35) (g_d dtbX11_need_0 19 rfl) (by decide) rfl (by omega) (by rfl) (by omega) rfl ?_
      rw [show (zr Z 36 (rT A.1 t)) 36 0 = A.1 0 from by rw [zr_eq]; exact rT_lo (by decide)]
      refine cz_iload_n (pc' := 36) (g_d dtbX11_need_0 20 rfl) rfl rfl ?_
      refine nz_iadd (pc' := 37) (g_d dtbX11_need_0 21 rfl) rfl ?_
      refine nz_iast 0 (pc' := 38) (g_d dtbX11_need_0 22 rfl) (by decide) rfl (by omega) (by rfl) (by omega) rfl ?_
      rw [zr_ru]
      refine cz_aload_n (pc' := 39) (g_d dtbX11_need_0 23 rfl) rfl rfl ?_
      refine cz_iload_n (pc' := 40) (g_d dtbX11_need_0 24 rfl) rfl rfl ?_
      refine cz_aload_n (pc' := 41) (g_d dtbX11_need_0 25 rfl) rfl rfl ?_
      refine nz_getf (v := .ref 35) (pc' := 44) (g_d dtbX11_need_0 26 rfl) gf_X11_7 (by decide) rfl rfl rfl ?_
      refine nz_iconst (pc' := 45) (g_d dtbX11_need_0 27 rfl) rfl ?_
      refine nz_iald 5 (pc' := 46) (g_d dtbX11_need_0 28 rfl) (by decide) rfl (by omega) (by rfl) (by omega) rfl ?_
      rw [show (zr Z 36 (ru (rT A.1 t) 0 ((A.1 0) + ((i : Int))))) 35 5 = A.1 5 from by rw [zr_ne (by decide)]; exact congrFun hM.1 _]
      refine nz_cVi (M' := mX11_belowIn) (k := 34) (As := [iv ((N : Int)), iv (A.1 5)]) (S := []) (L := [some (.ref 34), some (iv ((N : Int))), some (iv ((i : Int)))]) (pc' := 49) (g_d dtbX11_need_0 29 rfl) lk_X11_153 okX11_belowIn (by decide) rfl rfl rfl rfl (Nat.le_of_ble_eq_true rfl) (Nat.le_of_ble_eq_true rfl) (by decide) rfl (m_belowIn G Z (ru (rT A.1 t) 0 ((A.1 0) + ((i : Int)))) (B + 1000) (A.1 5) N ((show ru (rT A.1 t) 0 (rT A.1 t 0 + (i : Int)) = ru (rT A.1 t) 0 (A.1 0 + (i : Int)) by rw [rT_lo (j := 0) (by decide)]) ▸ tr_up (tr_T hT) (by omega)) (by omega) (by omega) (by omega)) ?_
      rintro _ _ ⟨rfl, t46, rfl⟩
      rw [drA_0, drA_T h6, ru_eq, hgA]
      have hrb := rBl_in (g := gA A) (sp := A.1 5) (a := A.1 0 + (i : Int)) N
      refine nz_iconst (pc' := 50) (g_d dtbX11_need_0 30 rfl) rfl ?_
      refine nz_icmp_ne (tgt := 55) (pc' := 53) (g_d dtbX11_need_0 31 rfl) (by omega) (by omega) rfl rfl (fun h50 => ?_) (fun h50 => ?_)
      · refine nz_iinc (L' := [some (.ref 34), some (iv ((N : Int))), some (iv (((i : Int)) + 1))]) (pc' := 58) (g_d dtbX11_need_0 34 rfl) (by decide) rfl rfl rfl ?_
        refine cz_goto (pc' := 17) (g_d dtbX11_need_0 35 rfl) rfl ?_
        have hmi := (need_is (g := gA A) (a := A.1 0) (sp := A.1 5) (x := (i : Int)) (by omega) N).1
        rw [show (i : Int) + 1 = ((i + 1 : Nat) : Int) by push_cast; omega]
        exact ih (1000 - (i + 1)) (by omega) (i + 1) t46 rfl (by omega) (by push_cast; omega)
      · refine cz_iload_n (pc' := 54) (g_d dtbX11_need_0 32 rfl) rfl rfl ?_
        refine nz_ri .int (g_d dtbX11_need_0 33 rfl) rfl rfl ?_
        have hmi := (need_is (g := gA A) (a := A.1 0) (sp := A.1 5) (x := (i : Int)) (by omega) N).1
        rw [show xNeed A (N : Int) = ((i : Int), A) from by unfold xNeed; rw [if_pos (by omega), Int.toNat_natCast, if_neg (by omega)]; congr 1; omega]
        exact ⟨rfl, hM.tr, (FC.r FC.rf (by decide))⟩

set_option maxRecDepth 20000 in
set_option maxHeartbeats 4000000 in
theorem b_need (G : Wd) (Z : ZS) (A : AS) (B : Int) (hM : MS Z A) (hA : AO B A) (m : Int) (hm : -2147483648 ≤ m ∧ m ≤ 2147483647) (hbb : B + 700000 ≤ 60000000) : Cn G mX11_need 0 [some (.ref 34), some (iv (m)), none] [] Z (qi (fun r W => (xNeed A m).1 = r ∧ MS W (xNeed A m).2 ∧ FC Z W)) := by
  have hb0 := hA.1
  have hO := hA.2.1
  have h6 : 0 ≤ A.1 6 ∧ A.1 6 ≤ 7 := hO.2.1
  have h28 : 0 ≤ A.1 28 ∧ A.1 28 ≤ 6 := hO.2.2.2.1
  have h59 : 0 ≤ A.1 59 ∧ A.1 59 ≤ 8 := hO.2.2.2.2.2.1
  have hf := hO.1
  unfold FO at hf
  have hct := hA.2.2.2.2.2.2
  have hT := hO.tr (by omega)
  have hgA : drA A.1 (A.1 6).toNat = gA A := rfl
  obtain ⟨t, ht0⟩ : ∃ t : Row, Z 36 = t := ⟨_, rfl⟩
  refine nz_st (zr_self ht0) ?_
  refine cz_iload_n (pc' := 1) (g_d dtbX11_need_0 0 rfl) rfl rfl ?_
  refine nz_iconst (pc' := 2) (g_d dtbX11_need_0 1 rfl) rfl ?_
  refine nz_bipush (pc' := 4) (g_d dtbX11_need_0 2 rfl) (by decide) rfl ?_
  refine nz_cSi (M' := mX11_in) (As := [iv (m), iv 1, iv 99]) (S := []) (L := [some (.ref 34), some (iv (m)), none]) (pc' := 7) (g_d dtbX11_need_0 3 rfl) lk_X11_40 okX11_in rfl rfl (Nat.le_of_ble_eq_true rfl) (Nat.le_of_ble_eq_true rfl) (by decide) rfl (m_in G (zr Z 36 t) m 1 99 (by omega) (by omega) (by omega)) ?_
  rintro _ _ ⟨rfl, ⟨rfl, hw4⟩ | ⟨rfl, hw4⟩⟩
  · refine nz_if_ne_t (tgt := 15) (g_d dtbX11_need_0 4 rfl) (by omega) rfl (by omega) ?_
    obtain ⟨N, rfl⟩ : ∃ N : Nat, m = (N : Int) := ⟨m.toNat, by omega⟩
    refine nz_iconst (pc' := 16) (g_d dtbX11_need_0 8 rfl) rfl ?_
    refine cz_istore_n (L' := [some (.ref 34), some (iv ((N : Int))), some (iv 0)]) (pc' := 17) (g_d dtbX11_need_0 9 rfl) (by decide) rfl rfl ?_
    exact k_need G Z A B hM hA N (by omega) hbb (1000 - 0) 0 t rfl (by omega) (lM_ge N)
  · refine nz_if_ne_f (pc' := 10) (g_d dtbX11_need_0 4 rfl) (by omega) (by decide) rfl (by omega) ?_
    refine cz_aload_n (pc' := 11) (g_d dtbX11_need_0 5 rfl) rfl rfl ?_
    refine nz_cVi (M' := mX11_bad) (k := 34) (As := []) (S := []) (L := [some (.ref 34), some (iv (m)), none]) (pc' := 14) (g_d dtbX11_need_0 6 rfl) lk_X11_44 okX11_bad (by decide) rfl rfl rfl rfl (Nat.le_of_ble_eq_true rfl) (Nat.le_of_ble_eq_true rfl) (by decide) rfl (m_bad G (zr Z 36 t)) ?_
    rintro _ _ ⟨rfl, rfl⟩
    refine nz_ri .int (g_d dtbX11_need_0 7 rfl) rfl rfl ?_
    rw [show xNeed A m = (-2, aBad A) from by unfold xNeed; rw [if_neg (by omega)]]
    exact ⟨rfl, ms_bad hM.tr, (FC.u (FC.r FC.rf (by decide)) (by decide))⟩
