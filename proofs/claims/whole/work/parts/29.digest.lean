set_option maxRecDepth 20000 in
set_option maxHeartbeats 4000000 in
theorem c_hasBit (G : Wd) (Z : ZS) (s i : Nat) (hs : s < 64) (hi : i < 6) : Cn G mX10_hasBit 0 [some (iv ((s : Int))), some (iv ((i : Int)))] [] Z (qi (fun r W => Z = W ∧ ((r = 1 ∧ s / 2 ^ i % 2 = 1) ∨ (r = 0 ∧ ¬ s / 2 ^ i % 2 = 1)))) := by
  refine cz_iload_n (pc' := 1) (g_d dtbX10_hasBit_0 0 rfl) rfl rfl ?_
  refine cz_iload_n (pc' := 2) (g_d dtbX10_hasBit_0 1 rfl) rfl rfl ?_
  refine nz_shrb (pc' := 3) (g_d dtbX10_hasBit_0 2 rfl) ⟨hi, hs⟩ rfl ?_
  refine nz_iconst (pc' := 4) (g_d dtbX10_hasBit_0 3 rfl) rfl ?_
  refine nz_and1 (pc' := 5) (g_d dtbX10_hasBit_0 4 rfl) (Nat.lt_of_le_of_lt (Nat.div_le_self _ _) hs) rfl ?_
  refine nz_iconst (pc' := 6) (g_d dtbX10_hasBit_0 5 rfl) rfl ?_
  refine nz_icmp_ne (tgt := 13) (pc' := 9) (g_d dtbX10_hasBit_0 6 rfl) (by omega) (by omega) rfl rfl (fun h6 => ?_) (fun h6 => ?_)
  · refine nz_iconst (pc' := 14) (g_d dtbX10_hasBit_0 9 rfl) rfl ?_
    refine nz_ri .boolean (g_d dtbX10_hasBit_0 10 rfl) rfl rfl ?_
    exact ⟨rfl, by omega⟩
  · refine nz_iconst (pc' := 10) (g_d dtbX10_hasBit_0 7 rfl) rfl ?_
    refine cz_goto (pc' := 14) (g_d dtbX10_hasBit_0 8 rfl) rfl ?_
    refine nz_ri .boolean (g_d dtbX10_hasBit_0 10 rfl) rfl rfl ?_
    exact ⟨rfl, by omega⟩

set_option maxRecDepth 20000 in
set_option maxHeartbeats 4000000 in
theorem l_alike (G : Wd) (Z : ZS) (f : Row) (B : Int) (hB : BR Z 1 f) (hR : RO B f) (hBB : B ≤ 60000000) (s b κ : Nat) (mo : Int) (hs : s < 64) (hκ6 : κ < 6) (hb7 : b < 7) (hb2 : (b : Int) < f 6) (hmo : 0 ≤ mo ∧ mo ≤ 12) : ∀ (d : Nat) (i : Nat), 6 - i = d → (i ≤ 6) → Cn G mX10_alikeTo 26 [some (.ref 0), some (.ref (26 + κ)), some (iv ((s : Int))), some (iv ((b : Int))), some (iv (mo)), some (iv (f (14 + b))), some (iv (f (21 + b))), some (iv (alS f s b (κ : Int) mo i)), some (iv ((i : Int))), none] [] Z (qi (fun r W => alS f s b (κ : Int) mo 6 = r ∧ Z = W)) := by
  intro d
  induction d using Nat.strongRecOn with
  | ind d ih =>
    intro i hd hi
    have h6 := hR.2.1
    have hf3 : 1 ≤ f 3 ∧ f 3 ≤ 28 := hR.1.2.2.2.1
    have hf4 : 0 ≤ f 4 ∧ f 4 ≤ B := by have := hR.1.2.2.2.2.1; omega
    have hf0 := hR.1.1
    have hbo := hR.2.2.1 b hb7 hb2
    have hto : 1 ≤ f (14 + b) ∧ f (14 + b) ≤ 28 := hbo.2.1
    have hpo : 1 ≤ f (21 + b) ∧ f (21 + b) ≤ 99 := hbo.2.2
    refine cz_iload (pc' := 28) (g_d dtbX10_alikeTo_0 14 rfl) rfl rfl ?_
    refine nz_bipush (pc' := 30) (g_d dtbX10_alikeTo_0 15 rfl) (by decide) rfl ?_
    refine nz_icmp_ge (tgt := 98) (pc' := 33) (g_d dtbX10_alikeTo_0 16 rfl) (by omega) (by omega) rfl rfl (fun h30 => ?_) (fun h30 => ?_)
    · refine cz_iload (pc' := 100) (g_d dtbX10_alikeTo_0 45 rfl) rfl rfl ?_
      refine nz_ri .int (g_d dtbX10_alikeTo_0 46 rfl) rfl rfl ?_
      rw [show i = 6 by omega]
      exact ⟨rfl, rfl⟩
    · have d1 := dayB_in (κ := (i : Int)) hto
      have d2 := dayB_in (κ := (κ : Int)) hto
      have p1 := pndB_in (κ := (i : Int)) (p := f (21 + b)) (m := mo) (by omega)
      have p2 := pndB_in (κ := (κ : Int)) (p := f (21 + b)) (m := mo) (by omega)
      refine cz_aload_n (pc' := 34) (g_d dtbX10_alikeTo_0 17 rfl) rfl rfl ?_
      refine nz_getf (v := .ref 25) (pc' := 37) (g_d dtbX10_alikeTo_0 18 rfl) gf_X10_44 (by decide) rfl rfl rfl ?_
      refine cz_iload (pc' := 39) (g_d dtbX10_alikeTo_0 19 rfl) rfl rfl ?_
      refine nz_cVr (M' := mX2_numbered) (k := 25) (As := [iv ((i : Int))]) (S := []) (L := [some (.ref 0), some (.ref (26 + κ)), some (iv ((s : Int))), some (iv ((b : Int))), some (iv (mo)), some (iv (f (14 + b))), some (iv (f (21 + b))), some (iv (alS f s b (κ : Int) mo i)), some (iv ((i : Int))), none]) (pc' := 42) (g_d dtbX10_alikeTo_0 20 rfl) lk_X10_121 okX2_numbered (by decide) rfl rfl rfl rfl (Nat.le_of_ble_eq_true rfl) (Nat.le_of_ble_eq_true rfl) (by decide) rfl (c_numbered G Z i (by omega)) ?_
      rintro _ _ ⟨rfl, rfl⟩
      refine cz_astore (L' := [some (.ref 0), some (.ref (26 + κ)), some (iv ((s : Int))), some (iv ((b : Int))), some (iv (mo)), some (iv (f (14 + b))), some (iv (f (21 + b))), some (iv (alS f s b (κ : Int) mo i)), some (iv ((i : Int))), some (.ref (26 + i))]) (pc' := 44) (g_d dtbX10_alikeTo_0 21 rfl) (by decide) rfl rfl ?_
      refine cz_iload_n (pc' := 45) (g_d dtbX10_alikeTo_0 22 rfl) rfl rfl ?_
      refine cz_iload (pc' := 47) (g_d dtbX10_alikeTo_0 23 rfl) rfl rfl ?_
      refine nz_cSi (M' := mX10_hasBit) (As := [iv ((s : Int)), iv ((i : Int))]) (S := []) (L := [some (.ref 0), some (.ref (26 + κ)), some (iv ((s : Int))), some (iv ((b : Int))), some (iv (mo)), some (iv (f (14 + b))), some (iv (f (21 + b))), some (iv (alS f s b (κ : Int) mo i)), some (iv ((i : Int))), some (.ref (26 + i))]) (pc' := 50) (g_d dtbX10_alikeTo_0 24 rfl) lk_X10_262 okX10_hasBit rfl rfl (Nat.le_of_ble_eq_true rfl) (Nat.le_of_ble_eq_true rfl) (by decide) rfl (c_hasBit G Z s i hs (by omega)) ?_
      rintro _ _ ⟨rfl, ⟨rfl, hw47⟩ | ⟨rfl, hw47⟩⟩
      · refine nz_if_eq_f (pc' := 53) (g_d dtbX10_alikeTo_0 25 rfl) (by omega) (by decide) rfl (by omega) ?_
        refine cz_aload (pc' := 55) (g_d dtbX10_alikeTo_0 26 rfl) rfl rfl ?_
        refine cz_iload (pc' := 57) (g_d dtbX10_alikeTo_0 27 rfl) rfl rfl ?_
        refine nz_cD (κ := i) (S := []) (L := [some (.ref 0), some (.ref (26 + κ)), some (iv ((s : Int))), some (iv ((b : Int))), some (iv (mo)), some (iv (f (14 + b))), some (iv (f (21 + b))), some (iv (alS f s b (κ : Int) mo i)), some (iv ((i : Int))), some (.ref (26 + i))]) (pc' := 60) (g_d dtbX10_alikeTo_0 28 rfl) kd_X10 (by omega) (by omega) (Nat.le_of_ble_eq_true rfl) (by decide) (by decide) rfl ?_
        refine cz_aload_n (pc' := 61) (g_d dtbX10_alikeTo_0 29 rfl) rfl rfl ?_
        refine cz_iload (pc' := 63) (g_d dtbX10_alikeTo_0 30 rfl) rfl rfl ?_
        refine nz_cD (κ := κ) (S := [iv (dayB (i : Int) (f (14 + b)))]) (L := [some (.ref 0), some (.ref (26 + κ)), some (iv ((s : Int))), some (iv ((b : Int))), some (iv (mo)), some (iv (f (14 + b))), some (iv (f (21 + b))), some (iv (alS f s b (κ : Int) mo i)), some (iv ((i : Int))), some (.ref (26 + i))]) (pc' := 66) (g_d dtbX10_alikeTo_0 31 rfl) kd_X10 (by omega) (by omega) (Nat.le_of_ble_eq_true rfl) (by decide) (by decide) rfl ?_
        refine nz_icmp_ne (tgt := 92) (pc' := 69) (g_d dtbX10_alikeTo_0 32 rfl) (by omega) (by omega) rfl rfl (fun h66 => ?_) (fun h66 => ?_)
        · refine nz_iinc (L' := [some (.ref 0), some (.ref (26 + κ)), some (iv ((s : Int))), some (iv ((b : Int))), some (iv (mo)), some (iv (f (14 + b))), some (iv (f (21 + b))), some (iv (alS f s b (κ : Int) mo i)), some (iv (((i : Int)) + 1)), some (.ref (26 + i))]) (pc' := 95) (g_d dtbX10_alikeTo_0 43 rfl) (by decide) rfl rfl rfl ?_
          refine cz_goto (pc' := 26) (g_d dtbX10_alikeTo_0 44 rfl) rfl ?_
          refine cz_le [some (.ref 0), some (.ref (26 + κ)), some (iv ((s : Int))), some (iv ((b : Int))), some (iv (mo)), some (iv (f (14 + b))), some (iv (f (21 + b))), some (iv (alS f s b (κ : Int) mo i)), some (iv (((i : Int)) + 1)), none] ⟨rfl, rfl, rfl, rfl, rfl, rfl, rfl, rfl, rfl, trivial⟩ ?_
          have em : alS f s b (κ : Int) mo (i + 1) = alS f s b (κ : Int) mo i := by simp only [alS]; rw [if_neg (fun q => by first | exact hw47 q.1 | exact h86 q.2.2 | exact h66 q.2.1)]
          have q := ih (6 - (i + 1)) (by omega) (i + 1) rfl (by omega)
          rw [em] at q
          exact q
        · refine cz_aload (pc' := 71) (g_d dtbX10_alikeTo_0 33 rfl) rfl rfl ?_
          refine cz_iload (pc' := 73) (g_d dtbX10_alikeTo_0 34 rfl) rfl rfl ?_
          refine cz_iload (pc' := 75) (g_d dtbX10_alikeTo_0 35 rfl) rfl rfl ?_
          refine nz_cP (κ := i) (S := []) (L := [some (.ref 0), some (.ref (26 + κ)), some (iv ((s : Int))), some (iv ((b : Int))), some (iv (mo)), some (iv (f (14 + b))), some (iv (f (21 + b))), some (iv (alS f s b (κ : Int) mo i)), some (iv ((i : Int))), some (.ref (26 + i))]) (pc' := 78) (g_d dtbX10_alikeTo_0 36 rfl) kp_X10 (by omega) (by omega) (by omega) (Nat.le_of_ble_eq_true rfl) (by decide) (by decide) rfl ?_
          refine cz_aload_n (pc' := 79) (g_d dtbX10_alikeTo_0 37 rfl) rfl rfl ?_
          refine cz_iload (pc' := 81) (g_d dtbX10_alikeTo_0 38 rfl) rfl rfl ?_
          refine cz_iload (pc' := 83) (g_d dtbX10_alikeTo_0 39 rfl) rfl rfl ?_
          refine nz_cP (κ := κ) (S := [iv (pndB (i : Int) (f (21 + b)) mo)]) (L := [some (.ref 0), some (.ref (26 + κ)), some (iv ((s : Int))), some (iv ((b : Int))), some (iv (mo)), some (iv (f (14 + b))), some (iv (f (21 + b))), some (iv (alS f s b (κ : Int) mo i)), some (iv ((i : Int))), some (.ref (26 + i))]) (pc' := 86) (g_d dtbX10_alikeTo_0 40 rfl) kp_X10 (by omega) (by omega) (by omega) (Nat.le_of_ble_eq_true rfl) (by decide) (by decide) rfl ?_
          refine nz_icmp_ne (tgt := 92) (pc' := 89) (g_d dtbX10_alikeTo_0 41 rfl) (by omega) (by omega) rfl rfl (fun h86 => ?_) (fun h86 => ?_)
          · refine nz_iinc (L' := [some (.ref 0), some (.ref (26 + κ)), some (iv ((s : Int))), some (iv ((b : Int))), some (iv (mo)), some (iv (f (14 + b))), some (iv (f (21 + b))), some (iv (alS f s b (κ : Int) mo i)), some (iv (((i : Int)) + 1)), some (.ref (26 + i))]) (pc' := 95) (g_d dtbX10_alikeTo_0 43 rfl) (by decide) rfl rfl rfl ?_
            refine cz_goto (pc' := 26) (g_d dtbX10_alikeTo_0 44 rfl) rfl ?_
            refine cz_le [some (.ref 0), some (.ref (26 + κ)), some (iv ((s : Int))), some (iv ((b : Int))), some (iv (mo)), some (iv (f (14 + b))), some (iv (f (21 + b))), some (iv (alS f s b (κ : Int) mo i)), some (iv (((i : Int)) + 1)), none] ⟨rfl, rfl, rfl, rfl, rfl, rfl, rfl, rfl, rfl, trivial⟩ ?_
            have em : alS f s b (κ : Int) mo (i + 1) = alS f s b (κ : Int) mo i := by simp only [alS]; rw [if_neg (fun q => by first | exact hw47 q.1 | exact h86 q.2.2 | exact h66 q.2.1)]
            have q := ih (6 - (i + 1)) (by omega) (i + 1) rfl (by omega)
            rw [em] at q
            exact q
          · refine nz_iinc (L' := [some (.ref 0), some (.ref (26 + κ)), some (iv ((s : Int))), some (iv ((b : Int))), some (iv (mo)), some (iv (f (14 + b))), some (iv (f (21 + b))), some (iv ((alS f s b (κ : Int) mo i) + 1)), some (iv ((i : Int))), some (.ref (26 + i))]) (pc' := 92) (g_d dtbX10_alikeTo_0 42 rfl) (by decide) rfl rfl rfl ?_
            refine nz_iinc (L' := [some (.ref 0), some (.ref (26 + κ)), some (iv ((s : Int))), some (iv ((b : Int))), some (iv (mo)), some (iv (f (14 + b))), some (iv (f (21 + b))), some (iv ((alS f s b (κ : Int) mo i) + 1)), some (iv (((i : Int)) + 1)), some (.ref (26 + i))]) (pc' := 95) (g_d dtbX10_alikeTo_0 43 rfl) (by decide) rfl rfl rfl ?_
            refine cz_goto (pc' := 26) (g_d dtbX10_alikeTo_0 44 rfl) rfl ?_
            refine cz_le [some (.ref 0), some (.ref (26 + κ)), some (iv ((s : Int))), some (iv ((b : Int))), some (iv (mo)), some (iv (f (14 + b))), some (iv (f (21 + b))), some (iv ((alS f s b (κ : Int) mo i) + 1)), some (iv (((i : Int)) + 1)), none] ⟨rfl, rfl, rfl, rfl, rfl, rfl, rfl, rfl, rfl, trivial⟩ ?_
            have em : alS f s b (κ : Int) mo (i + 1) = (alS f s b (κ : Int) mo i) + 1 := by simp only [alS]; rw [if_pos (⟨hw47, h66, h86⟩)]
            have q := ih (6 - (i + 1)) (by omega) (i + 1) rfl (by omega)
            rw [em] at q
            exact q
      · refine nz_if_eq_t (tgt := 92) (g_d dtbX10_alikeTo_0 25 rfl) (by omega) rfl (by omega) ?_
        refine nz_iinc (L' := [some (.ref 0), some (.ref (26 + κ)), some (iv ((s : Int))), some (iv ((b : Int))), some (iv (mo)), some (iv (f (14 + b))), some (iv (f (21 + b))), some (iv (alS f s b (κ : Int) mo i)), some (iv (((i : Int)) + 1)), some (.ref (26 + i))]) (pc' := 95) (g_d dtbX10_alikeTo_0 43 rfl) (by decide) rfl rfl rfl ?_
        refine cz_goto (pc' := 26) (g_d dtbX10_alikeTo_0 44 rfl) rfl ?_
        refine cz_le [some (.ref 0), some (.ref (26 + κ)), some (iv ((s : Int))), some (iv ((b : Int))), some (iv (mo)), some (iv (f (14 + b))), some (iv (f (21 + b))), some (iv (alS f s b (κ : Int) mo i)), some (iv (((i : Int)) + 1)), none] ⟨rfl, rfl, rfl, rfl, rfl, rfl, rfl, rfl, rfl, trivial⟩ ?_
        have em : alS f s b (κ : Int) mo (i + 1) = alS f s b (κ : Int) mo i := by simp only [alS]; rw [if_neg (fun q => by first | exact hw47 q.1 | exact h86 q.2.2 | exact h66 q.2.1)]
        have q := ih (6 - (i + 1)) (by omega) (i + 1) rfl (by omega)
        rw [em] at q
        exact q

set_option maxRecDepth 20000 in
set_option maxHeartbeats 4000000 in
theorem c_alike (G : Wd) (Z : ZS) (f : Row) (B : Int) (hB : BR Z 1 f) (hR : RO B f) (hBB : B ≤ 60000000) (s b κ : Nat) (mo : Int) (hs : s < 64) (hκ6 : κ < 6) (hb7 : b < 7) (hb2 : (b : Int) < f 6) (hmo : 0 ≤ mo ∧ mo ≤ 12) : Cn G mX10_alikeTo 0 [some (.ref 0), some (.ref (26 + κ)), some (iv ((s : Int))), some (iv ((b : Int))), some (iv (mo)), none, none, none, none, none] [] Z (qi (fun r W => alS f s b (κ : Int) mo 6 = r ∧ Z = W)) := by
  have h6 := hR.2.1
  have hf3 : 1 ≤ f 3 ∧ f 3 ≤ 28 := hR.1.2.2.2.1
  have hf4 : 0 ≤ f 4 ∧ f 4 ≤ B := by have := hR.1.2.2.2.2.1; omega
  have hf0 := hR.1.1
  have hbo := hR.2.2.1 b hb7 hb2
  have hto : 1 ≤ f (14 + b) ∧ f (14 + b) ≤ 28 := hbo.2.1
  have hpo : 1 ≤ f (21 + b) ∧ f (21 + b) ≤ 99 := hbo.2.2
  refine cz_aload_n (pc' := 1) (g_d dtbX10_alikeTo_0 0 rfl) rfl rfl ?_
  refine nz_getf (v := .ref 1) (pc' := 4) (g_d dtbX10_alikeTo_0 1 rfl) gf_X10_10 (by decide) rfl rfl rfl ?_
  refine cz_iload_n (pc' := 5) (g_d dtbX10_alikeTo_0 2 rfl) rfl rfl ?_
  refine nz_cVi (M' := mX0_dayAt) (k := 1) (As := [iv ((b : Int))]) (S := []) (L := [some (.ref 0), some (.ref (26 + κ)), some (iv ((s : Int))), some (iv ((b : Int))), some (iv (mo)), none, none, none, none, none]) (pc' := 8) (g_d dtbX10_alikeTo_0 3 rfl) lk_X10_127 okX0_dayAt (by decide) rfl rfl rfl rfl (Nat.le_of_ble_eq_true rfl) (Nat.le_of_ble_eq_true rfl) (by decide) rfl (c_dayR G Z b f (hB) hb7 hb2) ?_
  rintro _ _ ⟨rfl, rfl⟩
  refine cz_istore (L' := [some (.ref 0), some (.ref (26 + κ)), some (iv ((s : Int))), some (iv ((b : Int))), some (iv (mo)), some (iv (f (14 + b))), none, none, none, none]) (pc' := 10) (g_d dtbX10_alikeTo_0 4 rfl) (by decide) rfl rfl ?_
  refine cz_aload_n (pc' := 11) (g_d dtbX10_alikeTo_0 5 rfl) rfl rfl ?_
  refine nz_getf (v := .ref 1) (pc' := 14) (g_d dtbX10_alikeTo_0 6 rfl) gf_X10_10 (by decide) rfl rfl rfl ?_
  refine cz_iload_n (pc' := 15) (g_d dtbX10_alikeTo_0 7 rfl) rfl rfl ?_
  refine nz_cVi (M' := mX0_poundsAt) (k := 1) (As := [iv ((b : Int))]) (S := []) (L := [some (.ref 0), some (.ref (26 + κ)), some (iv ((s : Int))), some (iv ((b : Int))), some (iv (mo)), some (iv (f (14 + b))), none, none, none, none]) (pc' := 18) (g_d dtbX10_alikeTo_0 8 rfl) lk_X10_130 okX0_poundsAt (by decide) rfl rfl rfl rfl (Nat.le_of_ble_eq_true rfl) (Nat.le_of_ble_eq_true rfl) (by decide) rfl (c_poundsR G Z b f (hB) hb7 hb2) ?_
  rintro _ _ ⟨rfl, rfl⟩
  refine cz_istore (L' := [some (.ref 0), some (.ref (26 + κ)), some (iv ((s : Int))), some (iv ((b : Int))), some (iv (mo)), some (iv (f (14 + b))), some (iv (f (21 + b))), none, none, none]) (pc' := 20) (g_d dtbX10_alikeTo_0 9 rfl) (by decide) rfl rfl ?_
  refine nz_iconst (pc' := 21) (g_d dtbX10_alikeTo_0 10 rfl) rfl ?_
  refine cz_istore (L' := [some (.ref 0), some (.ref (26 + κ)), some (iv ((s : Int))), some (iv ((b : Int))), some (iv (mo)), some (iv (f (14 + b))), some (iv (f (21 + b))), some (iv 0), none, none]) (pc' := 23) (g_d dtbX10_alikeTo_0 11 rfl) (by decide) rfl rfl ?_
  refine nz_iconst (pc' := 24) (g_d dtbX10_alikeTo_0 12 rfl) rfl ?_
  refine cz_istore (L' := [some (.ref 0), some (.ref (26 + κ)), some (iv ((s : Int))), some (iv ((b : Int))), some (iv (mo)), some (iv (f (14 + b))), some (iv (f (21 + b))), some (iv 0), some (iv 0), none]) (pc' := 26) (g_d dtbX10_alikeTo_0 13 rfl) (by decide) rfl rfl ?_
  exact l_alike G Z f B hB hR hBB s b κ mo hs hκ6 hb7 hb2 hmo (6 - 0) 0 rfl (by omega)

set_option maxRecDepth 20000 in
set_option maxHeartbeats 4000000 in
theorem l_mostA (G : Wd) (Z : ZS) (f : Row) (B : Int) (hB : BR Z 1 f) (hR : RO B f) (hBB : B ≤ 60000000) (s b : Nat) (mo : Int) (hs : s < 64) (hb7 : b < 7) (hb2 : (b : Int) < f 6) (hmo : 0 ≤ mo ∧ mo ≤ 12) : ∀ (d : Nat) (κ : Nat), 6 - κ = d → (κ ≤ 6) → Cn G mX10_mostAlike 6 [some (.ref 0), some (iv ((s : Int))), some (iv ((b : Int))), some (iv (mo)), some (iv (moS f s b mo κ)), some (iv ((κ : Int)))] [] Z (qi (fun r W => moS f s b mo 6 = r ∧ Z = W)) := by
  intro d
  induction d using Nat.strongRecOn with
  | ind d ih =>
    intro κ hd hκ
    refine cz_iload (pc' := 8) (g_d dtbX10_mostAlike_0 4 rfl) rfl rfl ?_
    refine nz_bipush (pc' := 10) (g_d dtbX10_mostAlike_0 5 rfl) (by decide) rfl ?_
    refine nz_icmp_ge (tgt := 51) (pc' := 13) (g_d dtbX10_mostAlike_0 6 rfl) (by omega) (by omega) rfl rfl (fun h10 => ?_) (fun h10 => ?_)
    · refine cz_iload (pc' := 53) (g_d dtbX10_mostAlike_0 25 rfl) rfl rfl ?_
      refine nz_ri .int (g_d dtbX10_mostAlike_0 26 rfl) rfl rfl ?_
      rw [show κ = 6 by omega]
      exact ⟨rfl, rfl⟩
    · have hal := alS_in (f := f) (s := s) (b := b) (κ := (κ : Int)) (mo := mo) 6
      have hmo2 := moS_in (f := f) (s := s) (b := b) (mo := mo) κ
      refine cz_iload_n (pc' := 14) (g_d dtbX10_mostAlike_0 7 rfl) rfl rfl ?_
      refine cz_iload (pc' := 16) (g_d dtbX10_mostAlike_0 8 rfl) rfl rfl ?_
      refine nz_cSi (M' := mX10_hasBit) (As := [iv ((s : Int)), iv ((κ : Int))]) (S := []) (L := [some (.ref 0), some (iv ((s : Int))), some (iv ((b : Int))), some (iv (mo)), some (iv (moS f s b mo κ)), some (iv ((κ : Int)))]) (pc' := 19) (g_d dtbX10_mostAlike_0 9 rfl) lk_X10_262 okX10_hasBit rfl rfl (Nat.le_of_ble_eq_true rfl) (Nat.le_of_ble_eq_true rfl) (by decide) rfl (c_hasBit G Z s κ hs (by omega)) ?_
      rintro _ _ ⟨rfl, ⟨rfl, hw16⟩ | ⟨rfl, hw16⟩⟩
      · refine nz_if_eq_f (pc' := 22) (g_d dtbX10_mostAlike_0 10 rfl) (by omega) (by decide) rfl (by omega) ?_
        refine cz_iload (pc' := 24) (g_d dtbX10_mostAlike_0 11 rfl) rfl rfl ?_
        refine cz_aload_n (pc' := 25) (g_d dtbX10_mostAlike_0 12 rfl) rfl rfl ?_
        refine cz_aload_n (pc' := 26) (g_d dtbX10_mostAlike_0 13 rfl) rfl rfl ?_
        refine nz_getf (v := .ref 25) (pc' := 29) (g_d dtbX10_mostAlike_0 14 rfl) gf_X10_44 (by decide) rfl rfl rfl ?_
        refine cz_iload (pc' := 31) (g_d dtbX10_mostAlike_0 15 rfl) rfl rfl ?_
        refine nz_cVr (M' := mX2_numbered) (k := 25) (As := [iv ((κ : Int))]) (S := [.ref 0, iv (moS f s b mo κ)]) (L := [some (.ref 0), some (iv ((s : Int))), some (iv ((b : Int))), some (iv (mo)), some (iv (moS f s b mo κ)), some (iv ((κ : Int)))]) (pc' := 34) (g_d dtbX10_mostAlike_0 16 rfl) lk_X10_121 okX2_numbered (by decide) rfl rfl rfl rfl (Nat.le_of_ble_eq_true rfl) (Nat.le_of_ble_eq_true rfl) (by decide) rfl (c_numbered G Z κ (by omega)) ?_
        rintro _ _ ⟨rfl, rfl⟩
        refine cz_iload_n (pc' := 35) (g_d dtbX10_mostAlike_0 17 rfl) rfl rfl ?_
        refine cz_iload_n (pc' := 36) (g_d dtbX10_mostAlike_0 18 rfl) rfl rfl ?_
        refine cz_iload_n (pc' := 37) (g_d dtbX10_mostAlike_0 19 rfl) rfl rfl ?_
        refine nz_cVi (M' := mX10_alikeTo) (k := 0) (As := [.ref (26 + κ), iv ((s : Int)), iv ((b : Int)), iv (mo)]) (S := [iv (moS f s b mo κ)]) (L := [some (.ref 0), some (iv ((s : Int))), some (iv ((b : Int))), some (iv (mo)), some (iv (moS f s b mo κ)), some (iv ((κ : Int)))]) (pc' := 40) (g_d dtbX10_mostAlike_0 20 rfl) lk_X10_265 okX10_alikeTo (by decide) rfl rfl rfl rfl (Nat.le_of_ble_eq_true rfl) (Nat.le_of_ble_eq_true rfl) (by decide) rfl (c_alike G Z f B hB hR hBB s b κ mo hs (by omega) hb7 hb2 hmo) ?_
        rintro _ _ ⟨rfl, rfl⟩
        refine nz_cSi (M' := mJ9_max_7cf53) (As := [iv (moS f s b mo κ), iv (alS f s b (κ : Int) mo 6)]) (S := []) (L := [some (.ref 0), some (iv ((s : Int))), some (iv ((b : Int))), some (iv (mo)), some (iv (moS f s b mo κ)), some (iv ((κ : Int)))]) (pc' := 43) (g_d dtbX10_mostAlike_0 21 rfl) lk_X10_269 okJ9_max_7cf53 rfl rfl (Nat.le_of_ble_eq_true rfl) (Nat.le_of_ble_eq_true rfl) (by decide) rfl (c_max G Z (moS f s b mo κ) (alS f s b (κ : Int) mo 6) (by omega) (by omega)) ?_
        rintro _ _ ⟨rfl, rfl⟩
        refine cz_istore (L' := [some (.ref 0), some (iv ((s : Int))), some (iv ((b : Int))), some (iv (mo)), some (iv (max (moS f s b mo κ) (alS f s b (κ : Int) mo 6))), some (iv ((κ : Int)))]) (pc' := 45) (g_d dtbX10_mostAlike_0 22 rfl) (by decide) rfl rfl ?_
        refine nz_iinc (L' := [some (.ref 0), some (iv ((s : Int))), some (iv ((b : Int))), some (iv (mo)), some (iv (max (moS f s b mo κ) (alS f s b (κ : Int) mo 6))), some (iv (((κ : Int)) + 1))]) (pc' := 48) (g_d dtbX10_mostAlike_0 23 rfl) (by decide) rfl rfl rfl ?_
        refine cz_goto (pc' := 6) (g_d dtbX10_mostAlike_0 24 rfl) rfl ?_
        have em : moS f s b mo (κ + 1) = max (moS f s b mo κ) (alS f s b (κ : Int) mo 6) := by simp only [moS]; rw [if_pos hw16]
        have q := ih (6 - (κ + 1)) (by omega) (κ + 1) rfl (by omega)
        rw [em] at q
        exact q
      · refine nz_if_eq_t (tgt := 45) (g_d dtbX10_mostAlike_0 10 rfl) (by omega) rfl (by omega) ?_
        refine nz_iinc (L' := [some (.ref 0), some (iv ((s : Int))), some (iv ((b : Int))), some (iv (mo)), some (iv (moS f s b mo κ)), some (iv (((κ : Int)) + 1))]) (pc' := 48) (g_d dtbX10_mostAlike_0 23 rfl) (by decide) rfl rfl rfl ?_
        refine cz_goto (pc' := 6) (g_d dtbX10_mostAlike_0 24 rfl) rfl ?_
        have em : moS f s b mo (κ + 1) = moS f s b mo κ := by simp only [moS]; rw [if_neg hw16]
        have q := ih (6 - (κ + 1)) (by omega) (κ + 1) rfl (by omega)
        rw [em] at q
        exact q

set_option maxRecDepth 20000 in
set_option maxHeartbeats 4000000 in
theorem c_mostA (G : Wd) (Z : ZS) (f : Row) (B : Int) (hB : BR Z 1 f) (hR : RO B f) (hBB : B ≤ 60000000) (s b : Nat) (mo : Int) (hs : s < 64) (hb7 : b < 7) (hb2 : (b : Int) < f 6) (hmo : 0 ≤ mo ∧ mo ≤ 12) : Cn G mX10_mostAlike 0 [some (.ref 0), some (iv ((s : Int))), some (iv ((b : Int))), some (iv (mo)), none, none] [] Z (qi (fun r W => moS f s b mo 6 = r ∧ Z = W)) := by
  refine nz_iconst (pc' := 1) (g_d dtbX10_mostAlike_0 0 rfl) rfl ?_
  refine cz_istore (L' := [some (.ref 0), some (iv ((s : Int))), some (iv ((b : Int))), some (iv (mo)), some (iv 0), none]) (pc' := 3) (g_d dtbX10_mostAlike_0 1 rfl) (by decide) rfl rfl ?_
  refine nz_iconst (pc' := 4) (g_d dtbX10_mostAlike_0 2 rfl) rfl ?_
  refine cz_istore (L' := [some (.ref 0), some (iv ((s : Int))), some (iv ((b : Int))), some (iv (mo)), some (iv 0), some (iv 0)]) (pc' := 6) (g_d dtbX10_mostAlike_0 3 rfl) (by decide) rfl rfl ?_
  exact l_mostA G Z f B hB hR hBB s b mo hs hb7 hb2 hmo (6 - 0) 0 rfl (by omega)

set_option maxRecDepth 20000 in
set_option maxHeartbeats 4000000 in
theorem l_look (G : Wd) (Z : ZS) (f : Row) (B : Int) (hB : BR Z 1 f) (hR : RO B f) (hBB : B ≤ 60000000) (s b : Nat) (hs : s < 64) (hb7 : b < 7) (hb2 : (b : Int) < f 6) : ∀ (d : Nat) (i : Nat), 13 - i = d → (i ≤ 13) → Cn G mX10_look 36 [some (.ref 0), some (iv ((b : Int))), some (iv ((s : Int))), some (iv ((lkS f s b i).1)), some (iv ((lkS f s b i).2)), some (iv ((i : Int))), none] [] Z (qi (fun r W => (lkS f s b 13).1 = r ∧ Z = W)) := by
  intro d
  induction d using Nat.strongRecOn with
  | ind d ih =>
    intro i hd hi
    have hlk := lkS_in (f := f) (s := s) (b := b) i
    have hmo := moS_in (f := f) (s := s) (b := b) (mo := (i : Int)) 6
    refine cz_iload (pc' := 38) (g_d dtbX10_look_0 22 rfl) rfl rfl ?_
    refine nz_bipush (pc' := 40) (g_d dtbX10_look_0 23 rfl) (by decide) rfl ?_
    refine nz_icmp_gt (tgt := 73) (pc' := 43) (g_d dtbX10_look_0 24 rfl) (by omega) (by omega) rfl rfl (fun h40 => ?_) (fun h40 => ?_)
    · refine cz_iload_n (pc' := 74) (g_d dtbX10_look_0 40 rfl) rfl rfl ?_
      refine nz_ri .int (g_d dtbX10_look_0 41 rfl) rfl rfl ?_
      rw [show i = 13 by omega]
      exact ⟨rfl, rfl⟩
    · refine cz_aload_n (pc' := 44) (g_d dtbX10_look_0 25 rfl) rfl rfl ?_
      refine cz_iload_n (pc' := 45) (g_d dtbX10_look_0 26 rfl) rfl rfl ?_
      refine cz_iload_n (pc' := 46) (g_d dtbX10_look_0 27 rfl) rfl rfl ?_
      refine cz_iload (pc' := 48) (g_d dtbX10_look_0 28 rfl) rfl rfl ?_
      refine nz_cVi (M' := mX10_mostAlike) (k := 0) (As := [iv ((s : Int)), iv ((b : Int)), iv ((i : Int))]) (S := []) (L := [some (.ref 0), some (iv ((b : Int))), some (iv ((s : Int))), some (iv ((lkS f s b i).1)), some (iv ((lkS f s b i).2)), some (iv ((i : Int))), none]) (pc' := 51) (g_d dtbX10_look_0 29 rfl) lk_X10_188 okX10_mostAlike (by decide) rfl rfl rfl rfl (Nat.le_of_ble_eq_true rfl) (Nat.le_of_ble_eq_true rfl) (by decide) rfl (c_mostA G Z f B hB hR hBB s b (i : Int) hs hb7 hb2 (by omega)) ?_
      rintro _ _ ⟨rfl, rfl⟩
      refine cz_istore (L' := [some (.ref 0), some (iv ((b : Int))), some (iv ((s : Int))), some (iv ((lkS f s b i).1)), some (iv ((lkS f s b i).2)), some (iv ((i : Int))), some (iv (moS f s b (i : Int) 6))]) (pc' := 53) (g_d dtbX10_look_0 30 rfl) (by decide) rfl rfl ?_
      refine cz_iload (pc' := 55) (g_d dtbX10_look_0 31 rfl) rfl rfl ?_
      refine cz_iload (pc' := 57) (g_d dtbX10_look_0 32 rfl) rfl rfl ?_
      refine nz_icmp_ge (tgt := 67) (pc' := 60) (g_d dtbX10_look_0 33 rfl) (by omega) (by omega) rfl rfl (fun h57 => ?_) (fun h57 => ?_)
      · refine nz_iinc (L' := [some (.ref 0), some (iv ((b : Int))), some (iv ((s : Int))), some (iv ((lkS f s b i).1)), some (iv ((lkS f s b i).2)), some (iv (((i : Int)) + 1)), some (iv (moS f s b (i : Int) 6))]) (pc' := 70) (g_d dtbX10_look_0 38 rfl) (by decide) rfl rfl rfl ?_
        refine cz_goto (pc' := 36) (g_d dtbX10_look_0 39 rfl) rfl ?_
        refine cz_le [some (.ref 0), some (iv ((b : Int))), some (iv ((s : Int))), some (iv ((lkS f s b i).1)), some (iv ((lkS f s b i).2)), some (iv (((i : Int)) + 1)), none] ⟨rfl, rfl, rfl, rfl, rfl, rfl, trivial⟩ ?_
        have em : lkS f s b (i + 1) = lkS f s b i := by simp only [lkS]; rw [if_neg (by omega)]
        have q := ih (13 - (i + 1)) (by omega) (i + 1) rfl (by omega)
        rw [em] at q
        exact q
      · refine cz_iload (pc' := 62) (g_d dtbX10_look_0 34 rfl) rfl rfl ?_
        refine cz_istore (L' := [some (.ref 0), some (iv ((b : Int))), some (iv ((s : Int))), some (iv ((lkS f s b i).1)), some (iv (moS f s b (i : Int) 6)), some (iv ((i : Int))), some (iv (moS f s b (i : Int) 6))]) (pc' := 64) (g_d dtbX10_look_0 35 rfl) (by decide) rfl rfl ?_
        refine cz_iload (pc' := 66) (g_d dtbX10_look_0 36 rfl) rfl rfl ?_
        refine cz_istore_n (L' := [some (.ref 0), some (iv ((b : Int))), some (iv ((s : Int))), some (iv ((i : Int))), some (iv (moS f s b (i : Int) 6)), some (iv ((i : Int))), some (iv (moS f s b (i : Int) 6))]) (pc' := 67) (g_d dtbX10_look_0 37 rfl) (by decide) rfl rfl ?_
        refine nz_iinc (L' := [some (.ref 0), some (iv ((b : Int))), some (iv ((s : Int))), some (iv ((i : Int))), some (iv (moS f s b (i : Int) 6)), some (iv (((i : Int)) + 1)), some (iv (moS f s b (i : Int) 6))]) (pc' := 70) (g_d dtbX10_look_0 38 rfl) (by decide) rfl rfl rfl ?_
        refine cz_goto (pc' := 36) (g_d dtbX10_look_0 39 rfl) rfl ?_
        refine cz_le [some (.ref 0), some (iv ((b : Int))), some (iv ((s : Int))), some (iv ((i : Int))), some (iv (moS f s b (i : Int) 6)), some (iv (((i : Int)) + 1)), none] ⟨rfl, rfl, rfl, rfl, rfl, rfl, trivial⟩ ?_
        have em : lkS f s b (i + 1) = ((i : Int), moS f s b (i : Int) 6) := by simp only [lkS]; rw [if_pos (by omega)]
        have q := ih (13 - (i + 1)) (by omega) (i + 1) rfl (by omega)
        rw [em] at q
        exact q

set_option maxRecDepth 20000 in
set_option maxHeartbeats 4000000 in
theorem a_look (G : Wd) (Z : ZS) (A : AS) (B : Int) (hC : CS Z A) (hA : AO B A) (b : Int) (hb : -2147483648 ≤ b ∧ b ≤ 2147483647) : Cn G mX10_look 0 [some (.ref 0), some (iv (b)), none, none, none, none, none] [] Z (qi (fun r W => (xLook A b).1 = r ∧ CS W (xLook A b).2 ∧ FM Z W)) := by
  have hB := hC.1
  have hb0 := hA.1
  have hO := hA.2.1
  have h6 : 0 ≤ A.1 6 ∧ A.1 6 ≤ 7 := hO.2.1
  have h28 : 0 ≤ A.1 28 ∧ A.1 28 ≤ 6 := hO.2.2.2.1
  have h59 : 0 ≤ A.1 59 ∧ A.1 59 ≤ 8 := hO.2.2.2.2.2.1
  have hf := hO.1
  unfold FO at hf
  have hct := hA.2.2.2.2.2.2
  obtain ⟨f, ef⟩ : ∃ f : Row, f = A.1 := ⟨_, rfl⟩
  rw [← ef] at hB hO h6 h28 h59 hf
  have hR := hO
  have hf3 : 1 ≤ f 3 ∧ f 3 ≤ 28 := hR.1.2.2.2.1
  have hf4 : 0 ≤ f 4 ∧ f 4 ≤ B := by have := hR.1.2.2.2.2.1; omega
  refine cz_aload_n (pc' := 1) (g_d dtbX10_look_0 0 rfl) rfl rfl ?_
  refine cz_iload_n (pc' := 2) (g_d dtbX10_look_0 1 rfl) rfl rfl ?_
  refine nz_cVi (M' := mX10_isBillNumber) (k := 0) (As := [iv (b)]) (S := []) (L := [some (.ref 0), some (iv (b)), none, none, none, none, none]) (pc' := 5) (g_d dtbX10_look_0 2 rfl) lk_X10_114 okX10_isBillNumber (by decide) rfl rfl rfl rfl (Nat.le_of_ble_eq_true rfl) (Nat.le_of_ble_eq_true rfl) (by decide) rfl (c_isBN G Z A B hC hA b (by omega)) ?_
  rintro _ _ ⟨rfl, ⟨rfl, hw2⟩ | ⟨rfl, hw2⟩⟩
  · rw [← ef] at hw2
    refine nz_if_ne_t (tgt := 15) (g_d dtbX10_look_0 3 rfl) (by omega) rfl (by omega) ?_
    obtain ⟨n, rfl⟩ : ∃ n : Nat, b = (n : Int) := ⟨b.toNat, by omega⟩
    have hn7 : n < 7 := by omega
    have hn2 : (n : Int) < f 6 := by omega
    have hbo := hR.2.2.1 n hn7 hn2
    have hto : 1 ≤ f (14 + n) ∧ f (14 + n) ≤ 28 := hbo.2.1
    have hpo : 1 ≤ f (21 + n) ∧ f (21 + n) ≤ 99 := hbo.2.2
    obtain ⟨κ, hκ, hκ6⟩ : ∃ κ : Nat, f (7 + n) = (κ : Int) ∧ κ < 6 := ⟨(f (7 + n)).toNat, by have := hbo.1; omega, by have := hbo.1; omega⟩
    have hdI := dayB_in (κ := (κ : Int)) hto
    have hpI := pndB_in (κ := (κ : Int)) (p := f (21 + n)) (m := f 4) (by omega)
    refine cz_aload_n (pc' := 16) (g_d dtbX10_look_0 8 rfl) rfl rfl ?_
    refine cz_iload_n (pc' := 17) (g_d dtbX10_look_0 9 rfl) rfl rfl ?_
    refine nz_cVi (M' := mX10_kindsThatFit) (k := 0) (As := [iv ((n : Int))]) (S := []) (L := [some (.ref 0), some (iv ((n : Int))), none, none, none, none, none]) (pc' := 20) (g_d dtbX10_look_0 10 rfl) lk_X10_185 okX10_kindsThatFit (by decide) rfl rfl rfl rfl (Nat.le_of_ble_eq_true rfl) (Nat.le_of_ble_eq_true rfl) (by decide) rfl (c_kindsF G Z f B hB hR (by omega) n hn7 hn2 hpo) ?_
    rintro _ _ ⟨rfl, rfl⟩
    have hkl : kset f n 6 < 64 := kset_lt 6
    refine cz_istore_n (L' := [some (.ref 0), some (iv ((n : Int))), some (iv (((kset f n 6 : Nat) : Int))), none, none, none, none]) (pc' := 21) (g_d dtbX10_look_0 11 rfl) (by decide) rfl rfl ?_
    refine cz_iload_n (pc' := 22) (g_d dtbX10_look_0 12 rfl) rfl rfl ?_
    refine nz_if_ne (tgt := 27) (pc' := 25) (g_d dtbX10_look_0 13 rfl) (by omega) rfl rfl (fun h22 => ?_) (fun h22 => ?_)
    · refine nz_iconst (pc' := 28) (g_d dtbX10_look_0 16 rfl) rfl ?_
      refine cz_istore_n (L' := [some (.ref 0), some (iv ((n : Int))), some (iv (((kset f n 6 : Nat) : Int))), some (iv 0), none, none, none]) (pc' := 29) (g_d dtbX10_look_0 17 rfl) (by decide) rfl rfl ?_
      refine nz_bipush (pc' := 31) (g_d dtbX10_look_0 18 rfl) (by decide) rfl ?_
      refine cz_istore (L' := [some (.ref 0), some (iv ((n : Int))), some (iv (((kset f n 6 : Nat) : Int))), some (iv 0), some (iv 7), none, none]) (pc' := 33) (g_d dtbX10_look_0 19 rfl) (by decide) rfl rfl ?_
      refine nz_iconst (pc' := 34) (g_d dtbX10_look_0 20 rfl) rfl ?_
      refine cz_istore (L' := [some (.ref 0), some (iv ((n : Int))), some (iv (((kset f n 6 : Nat) : Int))), some (iv 0), some (iv 7), some (iv 0), none]) (pc' := 36) (g_d dtbX10_look_0 21 rfl) (by decide) rfl rfl ?_
      refine nz_wi (l_look G Z f B hB hR (by omega) (kset f n 6) n hkl hn7 hn2 (13 - 0) 0 rfl (by omega)) (fun r W h => ?_)
      rw [show xLook A (n : Int) = ((lkS f (kset f n 6) n 13).1, A) from by unfold xLook; rw [← ef, if_pos (by omega), Int.toNat_natCast, if_neg (by omega)]]
      refine ⟨h.1, ?_, ?_⟩
      · rw [← h.2]; exact hC
      · rw [← h.2]; exact FM.rf
    · refine nz_iconst (pc' := 26) (g_d dtbX10_look_0 14 rfl) rfl ?_
      refine nz_ri .int (g_d dtbX10_look_0 15 rfl) rfl rfl ?_
      rw [show xLook A (n : Int) = (-1, A) from by unfold xLook; rw [← ef, if_pos (by omega), Int.toNat_natCast, if_pos (by omega)]]
      exact ⟨rfl, hC, FM.rf⟩
  · rw [← ef] at hw2
    refine nz_if_ne_f (pc' := 8) (g_d dtbX10_look_0 3 rfl) (by omega) (by decide) rfl (by omega) ?_
    refine cz_aload_n (pc' := 9) (g_d dtbX10_look_0 4 rfl) rfl rfl ?_
    refine nz_bipush (pc' := 11) (g_d dtbX10_look_0 5 rfl) (by decide) rfl ?_
    refine nz_cVi (M' := mX10_refuseBad) (k := 0) (As := [iv (-2)]) (S := []) (L := [some (.ref 0), some (iv (b)), none, none, none, none, none]) (pc' := 14) (g_d dtbX10_look_0 6 rfl) lk_X10_57 okX10_refuseBad (by decide) rfl rfl rfl rfl (Nat.le_of_ble_eq_true rfl) (Nat.le_of_ble_eq_true rfl) (by decide) rfl (c_refuseBad G Z (-2)) ?_
    rintro _ _ ⟨rfl, rfl⟩
    refine nz_ri .int (g_d dtbX10_look_0 7 rfl) rfl rfl ?_
    rw [show xLook A b = (-2, aBad A) from by unfold xLook; rw [← ef, if_neg (by omega)]]
    exact ⟨rfl, cs_bad hC, (FM.u FM.rf (by decide))⟩

set_option maxRecDepth 20000 in
set_option maxHeartbeats 4000000 in
theorem a_is (G : Wd) (Z : ZS) (A : AS) (B : Int) (hC : CS Z A) (hA : AO B A) (b : Int) (hb : -2147483648 ≤ b ∧ b ≤ 2147483647) : Cn G mX10_is 0 [some (.ref 0), some (iv (b))] [] Z (qi (fun r W => (xIs A b).1 = r ∧ CS W (xIs A b).2 ∧ FM Z W)) := by
  have hB := hC.1
  have hb0 := hA.1
  have hO := hA.2.1
  have h6 : 0 ≤ A.1 6 ∧ A.1 6 ≤ 7 := hO.2.1
  have h28 : 0 ≤ A.1 28 ∧ A.1 28 ≤ 6 := hO.2.2.2.1
  have h59 : 0 ≤ A.1 59 ∧ A.1 59 ≤ 8 := hO.2.2.2.2.2.1
  have hf := hO.1
  unfold FO at hf
  have hct := hA.2.2.2.2.2.2
  obtain ⟨f, ef⟩ : ∃ f : Row, f = A.1 := ⟨_, rfl⟩
  rw [← ef] at hB hO h6 h28 h59 hf
  have hR := hO
  have hf3 : 1 ≤ f 3 ∧ f 3 ≤ 28 := hR.1.2.2.2.1
  have hf4 : 0 ≤ f 4 ∧ f 4 ≤ B := by have := hR.1.2.2.2.2.1; omega
  refine cz_aload_n (pc' := 1) (g_d dtbX10_is_0 0 rfl) rfl rfl ?_
  refine cz_iload_n (pc' := 2) (g_d dtbX10_is_0 1 rfl) rfl rfl ?_
  refine nz_cVi (M' := mX10_isBillNumber) (k := 0) (As := [iv (b)]) (S := []) (L := [some (.ref 0), some (iv (b))]) (pc' := 5) (g_d dtbX10_is_0 2 rfl) lk_X10_114 okX10_isBillNumber (by decide) rfl rfl rfl rfl (Nat.le_of_ble_eq_true rfl) (Nat.le_of_ble_eq_true rfl) (by decide) rfl (c_isBN G Z A B hC hA b (by omega)) ?_
  rintro _ _ ⟨rfl, ⟨rfl, hw2⟩ | ⟨rfl, hw2⟩⟩
  · rw [← ef] at hw2
    refine nz_if_eq_f (pc' := 8) (g_d dtbX10_is_0 3 rfl) (by omega) (by decide) rfl (by omega) ?_
    obtain ⟨n, rfl⟩ : ∃ n : Nat, b = (n : Int) := ⟨b.toNat, by omega⟩
    have hn7 : n < 7 := by omega
    have hn2 : (n : Int) < f 6 := by omega
    have hbo := hR.2.2.1 n hn7 hn2
    have hto : 1 ≤ f (14 + n) ∧ f (14 + n) ≤ 28 := hbo.2.1
    have hpo : 1 ≤ f (21 + n) ∧ f (21 + n) ≤ 99 := hbo.2.2
    obtain ⟨κ, hκ, hκ6⟩ : ∃ κ : Nat, f (7 + n) = (κ : Int) ∧ κ < 6 := ⟨(f (7 + n)).toNat, by have := hbo.1; omega, by have := hbo.1; omega⟩
    have hdI := dayB_in (κ := (κ : Int)) hto
    have hpI := pndB_in (κ := (κ : Int)) (p := f (21 + n)) (m := f 4) (by omega)
    refine cz_aload_n (pc' := 9) (g_d dtbX10_is_0 4 rfl) rfl rfl ?_
    refine cz_iload_n (pc' := 10) (g_d dtbX10_is_0 5 rfl) rfl rfl ?_
    refine nz_cVi (M' := mX10_kindsThatFit) (k := 0) (As := [iv ((n : Int))]) (S := []) (L := [some (.ref 0), some (iv ((n : Int)))]) (pc' := 13) (g_d dtbX10_is_0 6 rfl) lk_X10_185 okX10_kindsThatFit (by decide) rfl rfl rfl rfl (Nat.le_of_ble_eq_true rfl) (Nat.le_of_ble_eq_true rfl) (by decide) rfl (c_kindsF G Z f B hB hR (by omega) n hn7 hn2 hpo) ?_
    rintro _ _ ⟨rfl, rfl⟩
    have hkl : kset f n 6 < 64 := kset_lt 6
    refine cz_goto (pc' := 22) (g_d dtbX10_is_0 7 rfl) rfl ?_
    refine nz_ri .int (g_d dtbX10_is_0 11 rfl) rfl rfl ?_
    rw [show xIs A (n : Int) = ((kset f n 6 : Int), A) from by unfold xIs; rw [← ef, if_pos (by omega), Int.toNat_natCast]]
    exact ⟨rfl, hC, FM.rf⟩
  · rw [← ef] at hw2
    refine nz_if_eq_t (tgt := 16) (g_d dtbX10_is_0 3 rfl) (by omega) rfl (by omega) ?_
    refine cz_aload_n (pc' := 17) (g_d dtbX10_is_0 8 rfl) rfl rfl ?_
    refine nz_bipush (pc' := 19) (g_d dtbX10_is_0 9 rfl) (by decide) rfl ?_
    refine nz_cVi (M' := mX10_refuseBad) (k := 0) (As := [iv (-2)]) (S := []) (L := [some (.ref 0), some (iv (b))]) (pc' := 22) (g_d dtbX10_is_0 10 rfl) lk_X10_57 okX10_refuseBad (by decide) rfl rfl rfl rfl (Nat.le_of_ble_eq_true rfl) (Nat.le_of_ble_eq_true rfl) (by decide) rfl (c_refuseBad G Z (-2)) ?_
    rintro _ _ ⟨rfl, rfl⟩
    refine nz_ri .int (g_d dtbX10_is_0 11 rfl) rfl rfl ?_
    rw [show xIs A b = (-2, aBad A) from by unfold xIs; rw [← ef, if_neg (by omega)]]
    exact ⟨rfl, cs_bad hC, (FM.u FM.rf (by decide))⟩

/-! the digest -/
def dgS (h : Int) (g : Row) : Nat → Int
  | 0 => h
  | i + 1 => 31 * dgS h g i + g i
theorem dgS_ext {h : Int} {g g2 : Row} {m : Nat} (e : ∀ i, i < m → g i = g2 i) : ∀ i, i ≤ m → dgS h g i = dgS h g2 i := by
  intro i
  induction i with
  | zero => intro _; rfl
  | succ i ih => intro hi; simp only [dgS]; rw [ih (by omega), e i (by omega)]
def blR (f : Row) : Row := fun x => f (7 + 7 * (x % 3) + x / 3)
def ntR (f : Row) : Row := fun x => f (29 + x)
def xDigest (A : AS) : Int := 31 * (31 * dgS (dgS (dgS (31 * (31 * (31 * (31 * 1373 + A.1 6) + A.1 28) + A.1 59) + (A.2.2.2.1.1 : Int)) A.1 6) (blR A.1) ((A.1 6).toNat * 3)) (ntR A.1) ((A.1 28).toNat * 5) + A.2.2.2.2.1.1) + A.2.2.2.2.1.2

set_option maxRecDepth 20000 in
set_option maxHeartbeats 4000000 in
theorem l_digestOf (G : Wd) (Z : ZS) (k n N : Nat) (h : Int) (hlk : k < 42) (hsk : g_sh k = .inl (0, N)) (hN : N ≤ 1000) (hn : n ≤ N) (hg : ∀ i, i < n → -2147483648 ≤ Z k i ∧ Z k i ≤ 2147483647) : ∀ (d : Nat) (i : Nat), n - i = d → (i ≤ n) → Cn G mX10_digestOf 6 [some (il (h)), none, some (.ref k), some (iv ((n : Int))), some (il (dgS h (Z k) i)), none, some (iv ((i : Int)))] [] Z (ql (fun r W => dgS h (Z k) n = r ∧ Z = W)) := by
  intro d
  induction d using Nat.strongRecOn with
  | ind d ih =>
    intro i hd hi
    refine cz_iload (pc' := 8) (g_d dtbX10_digestOf_0 4 rfl) rfl rfl ?_
    refine cz_iload_n (pc' := 9) (g_d dtbX10_digestOf_0 5 rfl) rfl rfl ?_
    refine nz_icmp_ge (tgt := 39) (pc' := 12) (g_d dtbX10_digestOf_0 6 rfl) (by omega) (by omega) rfl rfl (fun h9 => ?_) (fun h9 => ?_)
    · refine cz_lload (pc' := 41) (g_d dtbX10_digestOf_0 22 rfl) rfl rfl ?_
      refine nz_rl (g_d dtbX10_digestOf_0 23 rfl) rfl ?_
      rw [show i = n by omega]
      exact ⟨rfl, rfl⟩
    · refine cz_iload (pc' := 14) (g_d dtbX10_digestOf_0 7 rfl) rfl rfl ?_
      refine cz_aload_n (pc' := 15) (g_d dtbX10_digestOf_0 8 rfl) rfl rfl ?_
      refine nz_alen (v := (N : Int)) (pc' := 16) (g_d dtbX10_digestOf_0 9 rfl) hlk hsk (by decide) rfl rfl ?_
      refine nz_icmp_ge_f (pc' := 19) (g_d dtbX10_digestOf_0 10 rfl) (by omega) (by omega) (by decide) rfl (by omega) ?_
      have hgi := hg i (by omega)
      refine nz_ldc2 (pc' := 22) (v := 31) (g_d dtbX10_digestOf_0 11 rfl) kn_X10_215 rfl ?_
      refine cz_lload (pc' := 24) (g_d dtbX10_digestOf_0 12 rfl) rfl rfl ?_
      refine nz_lmul (pc' := 25) (g_d dtbX10_digestOf_0 13 rfl) rfl ?_
      refine cz_aload_n (pc' := 26) (g_d dtbX10_digestOf_0 14 rfl) rfl rfl ?_
      refine cz_iload (pc' := 28) (g_d dtbX10_digestOf_0 15 rfl) rfl rfl ?_
      refine nz_iald i (pc' := 29) (g_d dtbX10_digestOf_0 16 rfl) hlk hsk (by omega) (by rfl) (by omega) rfl ?_
      refine nz_i2l (pc' := 30) (g_d dtbX10_digestOf_0 17 rfl) (by omega) rfl ?_
      refine nz_ladd (pc' := 31) (g_d dtbX10_digestOf_0 18 rfl) rfl ?_
      refine cz_lstore (L' := [some (il (h)), none, some (.ref k), some (iv ((n : Int))), some (il ((31 * (dgS h (Z k) i)) + (Z k i))), none, some (iv ((i : Int)))]) (pc' := 33) (g_d dtbX10_digestOf_0 19 rfl) (by decide) rfl rfl ?_
      refine nz_iinc (L' := [some (il (h)), none, some (.ref k), some (iv ((n : Int))), some (il ((31 * (dgS h (Z k) i)) + (Z k i))), none, some (iv (((i : Int)) + 1))]) (pc' := 36) (g_d dtbX10_digestOf_0 20 rfl) (by decide) rfl rfl rfl ?_
      refine cz_goto (pc' := 6) (g_d dtbX10_digestOf_0 21 rfl) rfl ?_
      exact ih (n - (i + 1)) (by omega) (i + 1) rfl (by omega)

set_option maxRecDepth 20000 in
set_option maxHeartbeats 4000000 in
theorem c_digestOf (G : Wd) (Z : ZS) (k n N : Nat) (h : Int) (hlk : k < 42) (hsk : g_sh k = .inl (0, N)) (hN : N ≤ 1000) (hn : n ≤ N) (hg : ∀ i, i < n → -2147483648 ≤ Z k i ∧ Z k i ≤ 2147483647) : Cn G mX10_digestOf 0 [some (il (h)), none, some (.ref k), some (iv ((n : Int))), none, none, none] [] Z (ql (fun r W => dgS h (Z k) n = r ∧ Z = W)) := by
  refine cz_lload_n (pc' := 1) (g_d dtbX10_digestOf_0 0 rfl) rfl rfl ?_
  refine cz_lstore (L' := [some (il (h)), none, some (.ref k), some (iv ((n : Int))), some (il (h)), none, none]) (pc' := 3) (g_d dtbX10_digestOf_0 1 rfl) (by decide) rfl rfl ?_
  refine nz_iconst (pc' := 4) (g_d dtbX10_digestOf_0 2 rfl) rfl ?_
  refine cz_istore (L' := [some (il (h)), none, some (.ref k), some (iv ((n : Int))), some (il (h)), none, some (iv 0)]) (pc' := 6) (g_d dtbX10_digestOf_0 3 rfl) (by decide) rfl rfl ?_
  exact l_digestOf G Z k n N h hlk hsk hN hn hg (n - 0) 0 rfl (Nat.zero_le _)

set_option maxRecDepth 20000 in
set_option maxHeartbeats 4000000 in
theorem a_digest (G : Wd) (Z : ZS) (A : AS) (B : Int) (hC : CS Z A) (hA : AO B A) : Cn G mX10_digest 0 [some (.ref 0), none, none] [] Z (ql (fun r W => xDigest A = r ∧ CS W A ∧ FM Z W)) := by
  have hB := hC.1
  have hb0 := hA.1
  have hO := hA.2.1
  have h6 : 0 ≤ A.1 6 ∧ A.1 6 ≤ 7 := hO.2.1
  have h28 : 0 ≤ A.1 28 ∧ A.1 28 ≤ 6 := hO.2.2.2.1
  have h59 : 0 ≤ A.1 59 ∧ A.1 59 ≤ 8 := hO.2.2.2.2.2.1
  have hf := hO.1
  unfold FO at hf
  have hct := hA.2.2.2.2.2.2
  have hq := hC.2.2.2.2.1
  have hst := hC.2.2.2.2.2
  have ht := hC.2.2.2.1
  have hto := hA.2.2.2.2.1
  have hqo := hA.2.2.2.2.2.1
  have heb : ∀ i, i < (A.1 6).toNat * 3 → Z 3 i = blR A.1 i := fun i hi => by
    have q := hB.2.2.1 (i / 3) (by omega) (by omega)
    unfold blR
    rcases (show i % 3 = 0 ∨ i % 3 = 1 ∨ i % 3 = 2 by omega) with c | c | c
    · rw [c, show i = i / 3 * 3 by omega]; rw [show i / 3 * 3 / 3 = i / 3 by omega]; exact q.1
    · rw [c]; have := q.2.1; rw [show i / 3 * 3 + 1 = i by omega] at this; rw [show 7 + 7 * 1 + i / 3 = 14 + i / 3 by omega]; exact this
    · rw [c]; have := q.2.2; rw [show i / 3 * 3 + 2 = i by omega] at this; rw [show 7 + 7 * 2 + i / 3 = 21 + i / 3 by omega]; exact this
  have hen : ∀ i, i < (A.1 28).toNat * 5 → Z 4 i = ntR A.1 i := fun i hi => by
    have q := hB.2.2.2.2.1 (i / 5) (by omega) (by omega) (i % 5) (by omega)
    rw [show i / 5 * 5 + i % 5 = i by omega, show 29 + 5 * (i / 5) + i % 5 = 29 + i by omega] at q
    exact q
  have hgb : ∀ i, i < (A.1 6).toNat * 3 → -2147483648 ≤ Z 3 i ∧ Z 3 i ≤ 2147483647 := fun i hi => by
    rw [heb i hi]
    have q := hO.2.2.1 (i / 3) (by omega) (by omega)
    unfold BO at q
    unfold blR
    rcases (show i % 3 = 0 ∨ i % 3 = 1 ∨ i % 3 = 2 by omega) with c | c | c <;> rw [c]
    · rw [show 7 + 7 * 0 + i / 3 = 7 + i / 3 by omega]; omega
    · rw [show 7 + 7 * 1 + i / 3 = 14 + i / 3 by omega]; omega
    · rw [show 7 + 7 * 2 + i / 3 = 21 + i / 3 by omega]; omega
  have hgn : ∀ i, i < (A.1 28).toNat * 5 → -2147483648 ≤ Z 4 i ∧ Z 4 i ≤ 2147483647 := fun i hi => by
    rw [hen i hi]
    have q := no_in hO (i := i / 5) (by omega) (by omega)
    unfold ntR
    rcases (show i % 5 = 0 ∨ i % 5 = 1 ∨ i % 5 = 2 ∨ i % 5 = 3 ∨ i % 5 = 4 by omega) with c | c | c | c | c
    · rw [show 29 + i = 29 + 5 * (i / 5) + 0 by omega]; omega
    · rw [show 29 + i = 29 + 5 * (i / 5) + 1 by omega]; omega
    · rw [show 29 + i = 29 + 5 * (i / 5) + 2 by omega]; omega
    · rw [show 29 + i = 29 + 5 * (i / 5) + 3 by omega]; omega
    · rw [show 29 + i = 29 + 5 * (i / 5) + 4 by omega]; omega
  refine nz_ldc2 (pc' := 3) (v := 1373) (g_d dtbX10_digest_0 0 rfl) kn_X10_236 rfl ?_
  refine cz_lstore_n (L' := [some (.ref 0), some (il (1373)), none]) (pc' := 4) (g_d dtbX10_digest_0 1 rfl) (by decide) rfl rfl ?_
  refine nz_ldc2 (pc' := 7) (v := 31) (g_d dtbX10_digest_0 2 rfl) kn_X10_215 rfl ?_
  refine cz_lload_n (pc' := 8) (g_d dtbX10_digest_0 3 rfl) rfl rfl ?_
  refine nz_lmul (pc' := 9) (g_d dtbX10_digest_0 4 rfl) rfl ?_
  refine cz_aload_n (pc' := 10) (g_d dtbX10_digest_0 5 rfl) rfl rfl ?_
  refine nz_getf (v := .ref 1) (pc' := 13) (g_d dtbX10_digest_0 6 rfl) gf_X10_10 (by decide) rfl rfl rfl ?_
  refine nz_getf (v := iv (A.1 6)) (pc' := 16) (g_d dtbX10_digest_0 7 rfl) gf_X10_61 (by decide) rfl (congrArg iv (br1_4 (hB))) rfl ?_
  refine nz_i2l (pc' := 17) (g_d dtbX10_digest_0 8 rfl) (by omega) rfl ?_
  refine nz_ladd (pc' := 18) (g_d dtbX10_digest_0 9 rfl) rfl ?_
  refine cz_lstore_n (L' := [some (.ref 0), some (il ((31 * 1373) + (A.1 6))), none]) (pc' := 19) (g_d dtbX10_digest_0 10 rfl) (by decide) rfl rfl ?_
  refine nz_ldc2 (pc' := 22) (v := 31) (g_d dtbX10_digest_0 11 rfl) kn_X10_215 rfl ?_
  refine cz_lload_n (pc' := 23) (g_d dtbX10_digest_0 12 rfl) rfl rfl ?_
  refine nz_lmul (pc' := 24) (g_d dtbX10_digest_0 13 rfl) rfl ?_
  refine cz_aload_n (pc' := 25) (g_d dtbX10_digest_0 14 rfl) rfl rfl ?_
  refine nz_getf (v := .ref 1) (pc' := 28) (g_d dtbX10_digest_0 15 rfl) gf_X10_10 (by decide) rfl rfl rfl ?_
  refine nz_getf (v := iv (A.1 28)) (pc' := 31) (g_d dtbX10_digest_0 16 rfl) gf_X10_178 (by decide) rfl (congrArg iv (br1_5 (hB))) rfl ?_
  refine nz_i2l (pc' := 32) (g_d dtbX10_digest_0 17 rfl) (by omega) rfl ?_
  refine nz_ladd (pc' := 33) (g_d dtbX10_digest_0 18 rfl) rfl ?_
  refine cz_lstore_n (L' := [some (.ref 0), some (il ((31 * ((31 * 1373) + (A.1 6))) + (A.1 28))), none]) (pc' := 34) (g_d dtbX10_digest_0 19 rfl) (by decide) rfl rfl ?_
  refine nz_ldc2 (pc' := 37) (v := 31) (g_d dtbX10_digest_0 20 rfl) kn_X10_215 rfl ?_
  refine cz_lload_n (pc' := 38) (g_d dtbX10_digest_0 21 rfl) rfl rfl ?_
  refine nz_lmul (pc' := 39) (g_d dtbX10_digest_0 22 rfl) rfl ?_
  refine cz_aload_n (pc' := 40) (g_d dtbX10_digest_0 23 rfl) rfl rfl ?_
  refine nz_getf (v := .ref 1) (pc' := 43) (g_d dtbX10_digest_0 24 rfl) gf_X10_10 (by decide) rfl rfl rfl ?_
  refine nz_getf (v := iv (A.1 59)) (pc' := 46) (g_d dtbX10_digest_0 25 rfl) gf_X10_108 (by decide) rfl (congrArg iv (br1_6 (hB))) rfl ?_
  refine nz_i2l (pc' := 47) (g_d dtbX10_digest_0 26 rfl) (by omega) rfl ?_
  refine nz_ladd (pc' := 48) (g_d dtbX10_digest_0 27 rfl) rfl ?_
  refine cz_lstore_n (L' := [some (.ref 0), some (il ((31 * ((31 * ((31 * 1373) + (A.1 6))) + (A.1 28))) + (A.1 59))), none]) (pc' := 49) (g_d dtbX10_digest_0 28 rfl) (by decide) rfl rfl ?_
  refine nz_ldc2 (pc' := 52) (v := 31) (g_d dtbX10_digest_0 29 rfl) kn_X10_215 rfl ?_
  refine cz_lload_n (pc' := 53) (g_d dtbX10_digest_0 30 rfl) rfl rfl ?_
  refine nz_lmul (pc' := 54) (g_d dtbX10_digest_0 31 rfl) rfl ?_
  refine cz_aload_n (pc' := 55) (g_d dtbX10_digest_0 32 rfl) rfl rfl ?_
  refine nz_getf (v := .ref 17) (pc' := 58) (g_d dtbX10_digest_0 33 rfl) gf_X10_29 (by decide) rfl rfl rfl ?_
  refine nz_getf (v := iv ((A.2.2.2.1.1 : Int))) (pc' := 61) (g_d dtbX10_digest_0 34 rfl) gf_X10_80 (by decide) rfl (congrArg iv (ht.1)) rfl ?_
  refine nz_i2l (pc' := 62) (g_d dtbX10_digest_0 35 rfl) (by omega) rfl ?_
  refine nz_ladd (pc' := 63) (g_d dtbX10_digest_0 36 rfl) rfl ?_
  refine cz_lstore_n (L' := [some (.ref 0), some (il ((31 * ((31 * ((31 * ((31 * 1373) + (A.1 6))) + (A.1 28))) + (A.1 59))) + ((A.2.2.2.1.1 : Int)))), none]) (pc' := 64) (g_d dtbX10_digest_0 37 rfl) (by decide) rfl rfl ?_
  refine cz_lload_n (pc' := 65) (g_d dtbX10_digest_0 38 rfl) rfl rfl ?_
  refine cz_aload_n (pc' := 66) (g_d dtbX10_digest_0 39 rfl) rfl rfl ?_
  refine nz_getf (v := .ref 1) (pc' := 69) (g_d dtbX10_digest_0 40 rfl) gf_X10_10 (by decide) rfl rfl rfl ?_
  refine nz_getf (v := .ref 2) (pc' := 72) (g_d dtbX10_digest_0 41 rfl) gf_X10_99 (by decide) rfl rfl rfl ?_
  refine nz_bipush (pc' := 74) (g_d dtbX10_digest_0 42 rfl) (by decide) rfl ?_
  refine nz_cSl (M' := mX10_digestOf) (As := [il ((31 * ((31 * ((31 * ((31 * 1373) + (A.1 6))) + (A.1 28))) + (A.1 59))) + ((A.2.2.2.1.1 : Int))), .ref 2, iv 6]) (S := []) (L := [some (.ref 0), some (il ((31 * ((31 * ((31 * ((31 * 1373) + (A.1 6))) + (A.1 28))) + (A.1 59))) + ((A.2.2.2.1.1 : Int)))), none]) (pc' := 77) (g_d dtbX10_digest_0 43 rfl) lk_X10_238 okX10_digestOf rfl rfl (Nat.le_of_ble_eq_true rfl) (Nat.le_of_ble_eq_true rfl) (by decide) rfl (c_digestOf G Z 2 6 6 ((31 * ((31 * ((31 * ((31 * 1373) + (A.1 6))) + (A.1 28))) + (A.1 59))) + ((A.2.2.2.1.1 : Int))) (by decide) rfl (by decide) (by omega) (fun i hi => by rw [br1_fig hB hi]; rcases (show i = 0 ∨ i = 1 ∨ i = 2 ∨ i = 3 ∨ i = 4 ∨ i = 5 by omega) with rfl | rfl | rfl | rfl | rfl | rfl <;> omega)) ?_
  rintro _ _ ⟨rfl, rfl⟩
  rw [dgS_ext (m := 6) (fun i hi => br1_fig hB hi) 6 (Nat.le_refl _)]
  refine cz_lstore_n (L' := [some (.ref 0), some (il (dgS ((31 * ((31 * ((31 * ((31 * 1373) + (A.1 6))) + (A.1 28))) + (A.1 59))) + ((A.2.2.2.1.1 : Int))) (A.1) 6)), none]) (pc' := 78) (g_d dtbX10_digest_0 44 rfl) (by decide) rfl rfl ?_
  refine cz_lload_n (pc' := 79) (g_d dtbX10_digest_0 45 rfl) rfl rfl ?_
  refine cz_aload_n (pc' := 80) (g_d dtbX10_digest_0 46 rfl) rfl rfl ?_
  refine nz_getf (v := .ref 1) (pc' := 83) (g_d dtbX10_digest_0 47 rfl) gf_X10_10 (by decide) rfl rfl rfl ?_
  refine nz_getf (v := .ref 3) (pc' := 86) (g_d dtbX10_digest_0 48 rfl) gf_X10_242 (by decide) rfl rfl rfl ?_
  refine cz_aload_n (pc' := 87) (g_d dtbX10_digest_0 49 rfl) rfl rfl ?_
  refine nz_getf (v := .ref 1) (pc' := 90) (g_d dtbX10_digest_0 50 rfl) gf_X10_10 (by decide) rfl rfl rfl ?_
  refine nz_getf (v := iv (A.1 6)) (pc' := 93) (g_d dtbX10_digest_0 51 rfl) gf_X10_61 (by decide) rfl (congrArg iv (br1_4 (hB))) rfl ?_
  refine nz_iconst (pc' := 94) (g_d dtbX10_digest_0 52 rfl) rfl ?_
  refine nz_imul (pc' := 95) (g_d dtbX10_digest_0 53 rfl) rfl ?_
  rw [show A.1 6 * 3 = (((A.1 6).toNat * 3 : Nat) : Int) by push_cast; omega]
  refine nz_cSl (M' := mX10_digestOf) (As := [il (dgS ((31 * ((31 * ((31 * ((31 * 1373) + (A.1 6))) + (A.1 28))) + (A.1 59))) + ((A.2.2.2.1.1 : Int))) (A.1) 6), .ref 3, iv ((((A.1 6).toNat * 3 : Nat) : Int))]) (S := []) (L := [some (.ref 0), some (il (dgS ((31 * ((31 * ((31 * ((31 * 1373) + (A.1 6))) + (A.1 28))) + (A.1 59))) + ((A.2.2.2.1.1 : Int))) (A.1) 6)), none]) (pc' := 98) (g_d dtbX10_digest_0 54 rfl) lk_X10_238 okX10_digestOf rfl rfl (Nat.le_of_ble_eq_true rfl) (Nat.le_of_ble_eq_true rfl) (by decide) rfl (c_digestOf G Z 3 ((A.1 6).toNat * 3) 21 (dgS ((31 * ((31 * ((31 * ((31 * 1373) + (A.1 6))) + (A.1 28))) + (A.1 59))) + ((A.2.2.2.1.1 : Int))) (A.1) 6) (by decide) rfl (by decide) (by omega) (hgb)) ?_
  rintro _ _ ⟨rfl, rfl⟩
  rw [dgS_ext (m := ((A.1 6).toNat * 3)) (heb) ((A.1 6).toNat * 3) (Nat.le_refl _)]
  refine cz_lstore_n (L' := [some (.ref 0), some (il (dgS (dgS ((31 * ((31 * ((31 * ((31 * 1373) + (A.1 6))) + (A.1 28))) + (A.1 59))) + ((A.2.2.2.1.1 : Int))) (A.1) 6) (blR A.1) ((A.1 6).toNat * 3))), none]) (pc' := 99) (g_d dtbX10_digest_0 55 rfl) (by decide) rfl rfl ?_
  refine cz_lload_n (pc' := 100) (g_d dtbX10_digest_0 56 rfl) rfl rfl ?_
  refine cz_aload_n (pc' := 101) (g_d dtbX10_digest_0 57 rfl) rfl rfl ?_
  refine nz_getf (v := .ref 1) (pc' := 104) (g_d dtbX10_digest_0 58 rfl) gf_X10_10 (by decide) rfl rfl rfl ?_
  refine nz_getf (v := .ref 4) (pc' := 107) (g_d dtbX10_digest_0 59 rfl) gf_X10_245 (by decide) rfl rfl rfl ?_
  refine cz_aload_n (pc' := 108) (g_d dtbX10_digest_1 0 rfl) rfl rfl ?_
  refine nz_getf (v := .ref 1) (pc' := 111) (g_d dtbX10_digest_1 1 rfl) gf_X10_10 (by decide) rfl rfl rfl ?_
  refine nz_getf (v := iv (A.1 28)) (pc' := 114) (g_d dtbX10_digest_1 2 rfl) gf_X10_178 (by decide) rfl (congrArg iv (br1_5 (hB))) rfl ?_
  refine nz_iconst (pc' := 115) (g_d dtbX10_digest_1 3 rfl) rfl ?_
  refine nz_imul (pc' := 116) (g_d dtbX10_digest_1 4 rfl) rfl ?_
  rw [show A.1 28 * 5 = (((A.1 28).toNat * 5 : Nat) : Int) by push_cast; omega]
  refine nz_cSl (M' := mX10_digestOf) (As := [il (dgS (dgS ((31 * ((31 * ((31 * ((31 * 1373) + (A.1 6))) + (A.1 28))) + (A.1 59))) + ((A.2.2.2.1.1 : Int))) (A.1) 6) (blR A.1) ((A.1 6).toNat * 3)), .ref 4, iv ((((A.1 28).toNat * 5 : Nat) : Int))]) (S := []) (L := [some (.ref 0), some (il (dgS (dgS ((31 * ((31 * ((31 * ((31 * 1373) + (A.1 6))) + (A.1 28))) + (A.1 59))) + ((A.2.2.2.1.1 : Int))) (A.1) 6) (blR A.1) ((A.1 6).toNat * 3))), none]) (pc' := 119) (g_d dtbX10_digest_1 5 rfl) lk_X10_238 okX10_digestOf rfl rfl (Nat.le_of_ble_eq_true rfl) (Nat.le_of_ble_eq_true rfl) (by decide) rfl (c_digestOf G Z 4 ((A.1 28).toNat * 5) 30 (dgS (dgS ((31 * ((31 * ((31 * ((31 * 1373) + (A.1 6))) + (A.1 28))) + (A.1 59))) + ((A.2.2.2.1.1 : Int))) (A.1) 6) (blR A.1) ((A.1 6).toNat * 3)) (by decide) rfl (by decide) (by omega) (hgn)) ?_
  rintro _ _ ⟨rfl, rfl⟩
  rw [dgS_ext (m := ((A.1 28).toNat * 5)) (hen) ((A.1 28).toNat * 5) (Nat.le_refl _)]
  refine cz_lstore_n (L' := [some (.ref 0), some (il (dgS (dgS (dgS ((31 * ((31 * ((31 * ((31 * 1373) + (A.1 6))) + (A.1 28))) + (A.1 59))) + ((A.2.2.2.1.1 : Int))) (A.1) 6) (blR A.1) ((A.1 6).toNat * 3)) (ntR A.1) ((A.1 28).toNat * 5))), none]) (pc' := 120) (g_d dtbX10_digest_1 6 rfl) (by decide) rfl rfl ?_
  refine nz_ldc2 (pc' := 123) (v := 31) (g_d dtbX10_digest_1 7 rfl) kn_X10_215 rfl ?_
  refine cz_lload_n (pc' := 124) (g_d dtbX10_digest_1 8 rfl) rfl rfl ?_
  refine nz_lmul (pc' := 125) (g_d dtbX10_digest_1 9 rfl) rfl ?_
  refine cz_aload_n (pc' := 126) (g_d dtbX10_digest_1 10 rfl) rfl rfl ?_
  refine nz_getf (v := il (A.2.2.2.2.1.1)) (pc' := 129) (g_d dtbX10_digest_1 11 rfl) gf_X10_220 (by decide) rfl (congrArg il (hq.1)) rfl ?_
  refine nz_ladd (pc' := 130) (g_d dtbX10_digest_1 12 rfl) rfl ?_
  refine cz_lstore_n (L' := [some (.ref 0), some (il ((31 * (dgS (dgS (dgS ((31 * ((31 * ((31 * ((31 * 1373) + (A.1 6))) + (A.1 28))) + (A.1 59))) + ((A.2.2.2.1.1 : Int))) (A.1) 6) (blR A.1) ((A.1 6).toNat * 3)) (ntR A.1) ((A.1 28).toNat * 5))) + A.2.2.2.2.1.1)), none]) (pc' := 131) (g_d dtbX10_digest_1 13 rfl) (by decide) rfl rfl ?_
  refine nz_ldc2 (pc' := 134) (v := 31) (g_d dtbX10_digest_1 14 rfl) kn_X10_215 rfl ?_
  refine cz_lload_n (pc' := 135) (g_d dtbX10_digest_1 15 rfl) rfl rfl ?_
  refine nz_lmul (pc' := 136) (g_d dtbX10_digest_1 16 rfl) rfl ?_
  refine cz_aload_n (pc' := 137) (g_d dtbX10_digest_1 17 rfl) rfl rfl ?_
  refine nz_getf (v := il (A.2.2.2.2.1.2)) (pc' := 140) (g_d dtbX10_digest_1 18 rfl) gf_X10_49 (by decide) rfl (congrArg il (hq.2)) rfl ?_
  refine nz_ladd (pc' := 141) (g_d dtbX10_digest_1 19 rfl) rfl ?_
  refine nz_rl (g_d dtbX10_digest_1 20 rfl) rfl ?_
  exact ⟨rfl, hC, FM.rf⟩
