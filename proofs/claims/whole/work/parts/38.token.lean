/-! the reader takes tokens, numbers, stops -/
set_option maxRecDepth 20000 in
set_option maxHeartbeats 4000000 in
theorem c_takeToken (G : Wd) (Z : ZS) (n : Nat) (t : Row) (hT : TX n t Z) (p : Nat) (hp : p ≤ n) (h4 : Z 17 4 = (p : Int)) : Cn G mX8_takeToken 0 [some (.ref 17), none] [] Z (qv (fun W => W 17 3 = (tS n t p : Int) ∧ W 17 4 = (tE n t p : Int) ∧ W 17 5 = tK n t p ∧ (tK n t p = 2 → W 17 6 = tV n t p) ∧ FT Z W)) := by
  have hn := hT.1.1
  have hL := hT.2.1
  have hs := tS_le (t := t) hp
  refine cz_aload_n (pc' := 1) (g_d dtbX8_takeToken_0 0 rfl) rfl rfl ?_
  refine nz_bipush (pc' := 3) (g_d dtbX8_takeToken_0 1 rfl) (by decide) rfl ?_
  refine nz_bipush (pc' := 5) (g_d dtbX8_takeToken_0 2 rfl) (by decide) rfl ?_
  refine nz_cVv (M' := mX8_skipRun) (k := 17) (As := [iv 32, iv 32]) (S := []) (L := [some (.ref 17), none]) (pc' := 8) (g_d dtbX8_takeToken_0 3 rfl) lk_X8_106 okX8_skipRun (by decide) rfl rfl rfl rfl (Nat.le_of_ble_eq_true rfl) (Nat.le_of_ble_eq_true rfl) (by decide) rfl (c_skipRun G Z n t (hT.ft FT.rf) 32 32 (by decide) (by decide) p (by omega) h4) ?_
  rintro _ rfl
  rw [show sk n t 32 32 p = tS n t p from rfl]
  refine cz_aload_n (pc' := 9) (g_d dtbX8_takeToken_0 4 rfl) rfl rfl ?_
  refine cz_aload_n (pc' := 10) (g_d dtbX8_takeToken_0 5 rfl) rfl rfl ?_
  refine nz_getf (v := iv ((tS n t p : Int))) (pc' := 13) (g_d dtbX8_takeToken_0 6 rfl) gf_X8_26 (by decide) rfl (congrArg iv (by simp [zu])) rfl ?_
  refine nz_puti (pc' := 16) (g_d dtbX8_takeToken_0 7 rfl) pf_X8_43 rfl (by decide) rfl rfl ?_
  refine cz_aload_n (pc' := 17) (g_d dtbX8_takeToken_0 8 rfl) rfl rfl ?_
  refine cz_aload_n (pc' := 18) (g_d dtbX8_takeToken_0 9 rfl) rfl rfl ?_
  refine nz_getf (v := iv ((tS n t p : Int))) (pc' := 21) (g_d dtbX8_takeToken_0 10 rfl) gf_X8_43 (by decide) rfl (congrArg iv (by simp [zu])) rfl ?_
  refine nz_cVi (M' := mX8_byteAt) (k := 17) (As := [iv ((tS n t p : Int))]) (S := []) (L := [some (.ref 17), none]) (pc' := 24) (g_d dtbX8_takeToken_0 11 rfl) lk_X8_98 okX8_byteAt (by decide) rfl rfl rfl rfl (Nat.le_of_ble_eq_true rfl) (Nat.le_of_ble_eq_true rfl) (by decide) rfl (c_byteAt G (zu (zu Z 17 4 ((tS n t p : Int))) 17 3 ((tS n t p : Int))) n t (hT.ft ((FT.rf.u (by decide)).u (by decide))) (tS n t p) (by omega)) ?_
  rintro _ _ ⟨rfl, rfl⟩
  obtain ⟨c, hc⟩ : ∃ c : Int, (if tS n t p < n then t (tS n t p) else -1) = c := ⟨_, rfl⟩
  rw [hc]
  have hcc : (tS n t p < n ∧ c = t (tS n t p)) ∨ (n ≤ tS n t p ∧ c = -1) := by rw [← hc]; split <;> omega
  have hcr := fun q => hT.1.2 (tS n t p) q
  refine cz_istore_n (L' := [some (.ref 17), some (iv (c))]) (pc' := 25) (g_d dtbX8_takeToken_0 12 rfl) (by decide) rfl rfl ?_
  refine cz_iload_n (pc' := 26) (g_d dtbX8_takeToken_0 13 rfl) rfl rfl ?_
  refine nz_iconst (pc' := 27) (g_d dtbX8_takeToken_0 14 rfl) rfl ?_
  refine nz_icmp_ne (tgt := 38) (pc' := 30) (g_d dtbX8_takeToken_0 15 rfl) (by omega) (by omega) rfl rfl (fun h27 => ?_) (fun h27 => ?_)
  · have hcr2 := hcr (by omega)
    refine cz_iload_n (pc' := 39) (g_d dtbX8_takeToken_0 20 rfl) rfl rfl ?_
    refine nz_bipush (pc' := 41) (g_d dtbX8_takeToken_0 21 rfl) (by decide) rfl ?_
    refine nz_bipush (pc' := 43) (g_d dtbX8_takeToken_0 22 rfl) (by decide) rfl ?_
    refine nz_cSi (M' := mX10_within) (As := [iv (c), iv 97, iv 122]) (S := []) (L := [some (.ref 17), some (iv (c))]) (pc' := 46) (g_d dtbX8_takeToken_0 23 rfl) lk_X8_89 okX10_within rfl rfl (Nat.le_of_ble_eq_true rfl) (Nat.le_of_ble_eq_true rfl) (by decide) rfl (c_within G (zu (zu Z 17 4 ((tS n t p : Int))) 17 3 ((tS n t p : Int))) c 97 122 (by omega) (by omega) (by omega)) ?_
    rintro _ _ ⟨rfl, ⟨rfl, hw43⟩ | ⟨rfl, hw43⟩⟩
    · refine nz_if_eq_f (pc' := 49) (g_d dtbX8_takeToken_0 24 rfl) (by omega) (by decide) rfl (by omega) ?_
      refine cz_aload_n (pc' := 50) (g_d dtbX8_takeToken_0 25 rfl) rfl rfl ?_
      refine nz_bipush (pc' := 52) (g_d dtbX8_takeToken_0 26 rfl) (by decide) rfl ?_
      refine nz_bipush (pc' := 54) (g_d dtbX8_takeToken_0 27 rfl) (by decide) rfl ?_
      refine nz_cVv (M' := mX8_skipRun) (k := 17) (As := [iv 97, iv 122]) (S := []) (L := [some (.ref 17), some (iv (c))]) (pc' := 57) (g_d dtbX8_takeToken_0 28 rfl) lk_X8_106 okX8_skipRun (by decide) rfl rfl rfl rfl (Nat.le_of_ble_eq_true rfl) (Nat.le_of_ble_eq_true rfl) (by decide) rfl (c_skipRun G (zu (zu Z 17 4 ((tS n t p : Int))) 17 3 ((tS n t p : Int))) n t (hT.ft ((FT.rf.u (by decide)).u (by decide))) 97 122 (by decide) (by decide) (tS n t p) (by omega) (by simp [zu])) ?_
      rintro _ rfl
      refine cz_aload_n (pc' := 58) (g_d dtbX8_takeToken_0 29 rfl) rfl rfl ?_
      refine nz_iconst (pc' := 59) (g_d dtbX8_takeToken_0 30 rfl) rfl ?_
      refine nz_puti (pc' := 62) (g_d dtbX8_takeToken_0 31 rfl) pf_X8_36 rfl (by decide) rfl rfl ?_
      refine cz_goto (pc' := 179) (g_d dtbX8_takeToken_0 32 rfl) rfl ?_
      refine nz_rv (g_d dtbX8_takeToken_1 36 rfl) rfl ?_
      refine ⟨?_, ?_, ?_, ?_, ((((FT.rf.u (by decide)).u (by decide)).u (by decide)).u (by decide))⟩
      · simp [zu]
      · rw [show tE n t p = sk n t 97 122 (tS n t p) from by unfold tE; rw [if_pos (by omega), if_pos (by omega)]]; simp [zu]
      · rw [show tK n t p = 1 from by unfold tK; rw [if_pos (by omega), if_pos (by omega)]]; simp [zu]
      · intro q
        rw [show tK n t p = 1 from by unfold tK; rw [if_pos (by omega), if_pos (by omega)]] at q
        exact absurd q (by decide)
    · refine nz_if_eq_t (tgt := 65) (g_d dtbX8_takeToken_0 24 rfl) (by omega) rfl (by omega) ?_
      refine cz_iload_n (pc' := 66) (g_d dtbX8_takeToken_0 33 rfl) rfl rfl ?_
      refine nz_bipush (pc' := 68) (g_d dtbX8_takeToken_0 34 rfl) (by decide) rfl ?_
      refine nz_bipush (pc' := 70) (g_d dtbX8_takeToken_0 35 rfl) (by decide) rfl ?_
      refine nz_cSi (M' := mX10_within) (As := [iv (c), iv 48, iv 57]) (S := []) (L := [some (.ref 17), some (iv (c))]) (pc' := 73) (g_d dtbX8_takeToken_0 36 rfl) lk_X8_89 okX10_within rfl rfl (Nat.le_of_ble_eq_true rfl) (Nat.le_of_ble_eq_true rfl) (by decide) rfl (c_within G (zu (zu Z 17 4 ((tS n t p : Int))) 17 3 ((tS n t p : Int))) c 48 57 (by omega) (by omega) (by omega)) ?_
      rintro _ _ ⟨rfl, ⟨rfl, hw70⟩ | ⟨rfl, hw70⟩⟩
      · refine nz_if_eq_f (pc' := 76) (g_d dtbX8_takeToken_0 37 rfl) (by omega) (by decide) rfl (by omega) ?_
        refine cz_aload_n (pc' := 77) (g_d dtbX8_takeToken_0 38 rfl) rfl rfl ?_
        refine nz_bipush (pc' := 79) (g_d dtbX8_takeToken_0 39 rfl) (by decide) rfl ?_
        refine nz_bipush (pc' := 81) (g_d dtbX8_takeToken_0 40 rfl) (by decide) rfl ?_
        refine nz_cVv (M' := mX8_skipRun) (k := 17) (As := [iv 48, iv 57]) (S := []) (L := [some (.ref 17), some (iv (c))]) (pc' := 84) (g_d dtbX8_takeToken_0 41 rfl) lk_X8_106 okX8_skipRun (by decide) rfl rfl rfl rfl (Nat.le_of_ble_eq_true rfl) (Nat.le_of_ble_eq_true rfl) (by decide) rfl (c_skipRun G (zu (zu Z 17 4 ((tS n t p : Int))) 17 3 ((tS n t p : Int))) n t (hT.ft ((FT.rf.u (by decide)).u (by decide))) 48 57 (by decide) (by decide) (tS n t p) (by omega) (by simp [zu])) ?_
        rintro _ rfl
        have hsk := sk_gt (n := n) (t := t) (lo := 48) (hi := 57) (p := tS n t p) (by omega)
        have hsl := sk_le (n := n) (t := t) (lo := 48) (hi := 57) (p := tS n t p) (by omega)
        refine cz_aload_n (pc' := 85) (g_d dtbX8_takeToken_0 42 rfl) rfl rfl ?_
        refine cz_aload_n (pc' := 86) (g_d dtbX8_takeToken_0 43 rfl) rfl rfl ?_
        refine nz_getf (v := iv ((sk n t 48 57 (tS n t p) : Int))) (pc' := 89) (g_d dtbX8_takeToken_0 44 rfl) gf_X8_26 (by decide) rfl (congrArg iv (by simp [zu])) rfl ?_
        refine cz_aload_n (pc' := 90) (g_d dtbX8_takeToken_0 45 rfl) rfl rfl ?_
        refine nz_getf (v := iv ((tS n t p : Int))) (pc' := 93) (g_d dtbX8_takeToken_0 46 rfl) gf_X8_43 (by decide) rfl (congrArg iv (by simp [zu])) rfl ?_
        refine nz_isub (pc' := 94) (g_d dtbX8_takeToken_0 47 rfl) rfl ?_
        refine nz_iconst (pc' := 95) (g_d dtbX8_takeToken_0 48 rfl) rfl ?_
        refine nz_icmp_le (tgt := 102) (pc' := 98) (g_d dtbX8_takeToken_0 49 rfl) (by omega) (by omega) rfl rfl (fun h95 => ?_) (fun h95 => ?_)
        · refine nz_iconst (pc' := 103) (g_d dtbX8_takeToken_0 52 rfl) rfl ?_
          refine nz_puti (pc' := 106) (g_d dtbX8_takeToken_0 53 rfl) pf_X8_36 rfl (by decide) rfl rfl ?_
          refine cz_aload_n (pc' := 107) (g_d dtbX8_takeToken_0 54 rfl) rfl rfl ?_
          refine cz_aload_n (pc' := 108) (g_d dtbX8_takeToken_0 55 rfl) rfl rfl ?_
          refine nz_getf (v := iv ((sk n t 48 57 (tS n t p) : Int))) (pc' := 111) (g_d dtbX8_takeToken_0 56 rfl) gf_X8_26 (by decide) rfl (congrArg iv (by simp [zu])) rfl ?_
          refine cz_aload_n (pc' := 112) (g_d dtbX8_takeToken_0 57 rfl) rfl rfl ?_
          refine nz_getf (v := iv ((tS n t p : Int))) (pc' := 115) (g_d dtbX8_takeToken_0 58 rfl) gf_X8_43 (by decide) rfl (congrArg iv (by simp [zu])) rfl ?_
          refine nz_isub (pc' := 116) (g_d dtbX8_takeToken_0 59 rfl) rfl ?_
          refine nz_iconst (pc' := 117) (g_d dtbX8_takeToken_1 0 rfl) rfl ?_
          refine nz_icmp_ne (tgt := 127) (pc' := 120) (g_d dtbX8_takeToken_1 1 rfl) (by omega) (by omega) rfl rfl (fun h117 => ?_) (fun h117 => ?_)
          · have hs2 : tS n t p + 1 < n := by omega
            have htr := hT.1.2 (tS n t p + 1) hs2
            refine nz_bipush (pc' := 129) (g_d dtbX8_takeToken_1 6 rfl) (by decide) rfl ?_
            refine cz_iload_n (pc' := 130) (g_d dtbX8_takeToken_1 7 rfl) rfl rfl ?_
            refine nz_bipush (pc' := 132) (g_d dtbX8_takeToken_1 8 rfl) (by decide) rfl ?_
            refine nz_isub (pc' := 133) (g_d dtbX8_takeToken_1 9 rfl) rfl ?_
            refine nz_imul (pc' := 134) (g_d dtbX8_takeToken_1 10 rfl) rfl ?_
            refine cz_aload_n (pc' := 135) (g_d dtbX8_takeToken_1 11 rfl) rfl rfl ?_
            refine cz_aload_n (pc' := 136) (g_d dtbX8_takeToken_1 12 rfl) rfl rfl ?_
            refine nz_getf (v := iv ((tS n t p : Int))) (pc' := 139) (g_d dtbX8_takeToken_1 13 rfl) gf_X8_43 (by decide) rfl (congrArg iv (by simp [zu])) rfl ?_
            refine nz_iconst (pc' := 140) (g_d dtbX8_takeToken_1 14 rfl) rfl ?_
            refine nz_iadd (pc' := 141) (g_d dtbX8_takeToken_1 15 rfl) rfl ?_
            refine nz_cVi (M' := mX8_byteAt) (k := 17) (As := [iv (((tS n t p : Int)) + 1)]) (S := [iv (10 * (c - 48)), .ref 17]) (L := [some (.ref 17), some (iv (c))]) (pc' := 144) (g_d dtbX8_takeToken_1 16 rfl) lk_X8_98 okX8_byteAt (by decide) rfl rfl rfl rfl (Nat.le_of_ble_eq_true rfl) (Nat.le_of_ble_eq_true rfl) (by decide) rfl (c_byteAt G (zu (zu (zu (zu Z 17 4 ((tS n t p : Int))) 17 3 ((tS n t p : Int))) 17 4 ((sk n t 48 57 (tS n t p) : Int))) 17 5 2) n t (hT.ft ((((FT.rf.u (by decide)).u (by decide)).u (by decide)).u (by decide))) (tS n t p + 1) (by omega)) ?_
            rintro _ _ ⟨rfl, rfl⟩
            rw [if_pos (show tS n t p + 1 < n from hs2)]
            refine nz_iadd (pc' := 145) (g_d dtbX8_takeToken_1 17 rfl) rfl ?_
            refine nz_bipush (pc' := 147) (g_d dtbX8_takeToken_1 18 rfl) (by decide) rfl ?_
            refine nz_isub (pc' := 148) (g_d dtbX8_takeToken_1 19 rfl) rfl ?_
            refine nz_puti (pc' := 151) (g_d dtbX8_takeToken_1 20 rfl) pf_X8_79 rfl (by decide) rfl rfl ?_
            refine cz_goto (pc' := 179) (g_d dtbX8_takeToken_1 21 rfl) rfl ?_
            refine nz_rv (g_d dtbX8_takeToken_1 36 rfl) rfl ?_
            refine ⟨?_, ?_, ?_, ?_, (((((FT.rf.u (by decide)).u (by decide)).u (by decide)).u (by decide)).u (by decide))⟩
            · simp [zu]
            · rw [show tE n t p = sk n t 48 57 (tS n t p) from by unfold tE; rw [if_pos (by omega), if_neg (by omega), if_pos (by omega)]]; simp [zu]
            · rw [show tK n t p = 2 from by unfold tK; rw [if_pos (by omega), if_neg (by omega), if_pos (by omega), if_neg (by omega)]]; simp [zu]
            · intro _
              rw [show tV n t p = ((10 * (c - 48)) + (t (tS n t p + 1))) - 48 from by unfold tV; rw [show tE n t p = sk n t 48 57 (tS n t p) from by unfold tE; rw [if_pos (by omega), if_neg (by omega), if_pos (by omega)], if_neg (by omega)]; omega]; simp [zu]
          · refine cz_iload_n (pc' := 121) (g_d dtbX8_takeToken_1 2 rfl) rfl rfl ?_
            refine nz_bipush (pc' := 123) (g_d dtbX8_takeToken_1 3 rfl) (by decide) rfl ?_
            refine nz_isub (pc' := 124) (g_d dtbX8_takeToken_1 4 rfl) rfl ?_
            refine cz_goto (pc' := 148) (g_d dtbX8_takeToken_1 5 rfl) rfl ?_
            refine nz_puti (pc' := 151) (g_d dtbX8_takeToken_1 20 rfl) pf_X8_79 rfl (by decide) rfl rfl ?_
            refine cz_goto (pc' := 179) (g_d dtbX8_takeToken_1 21 rfl) rfl ?_
            refine nz_rv (g_d dtbX8_takeToken_1 36 rfl) rfl ?_
            refine ⟨?_, ?_, ?_, ?_, (((((FT.rf.u (by decide)).u (by decide)).u (by decide)).u (by decide)).u (by decide))⟩
            · simp [zu]
            · rw [show tE n t p = sk n t 48 57 (tS n t p) from by unfold tE; rw [if_pos (by omega), if_neg (by omega), if_pos (by omega)]]; simp [zu]
            · rw [show tK n t p = 2 from by unfold tK; rw [if_pos (by omega), if_neg (by omega), if_pos (by omega), if_neg (by omega)]]; simp [zu]
            · intro _
              rw [show tV n t p = c - 48 from by unfold tV; rw [show tE n t p = sk n t 48 57 (tS n t p) from by unfold tE; rw [if_pos (by omega), if_neg (by omega), if_pos (by omega)], if_pos (by omega)]; omega]; simp [zu]
        · refine nz_iconst (pc' := 99) (g_d dtbX8_takeToken_0 50 rfl) rfl ?_
          refine cz_goto (pc' := 103) (g_d dtbX8_takeToken_0 51 rfl) rfl ?_
          refine nz_puti (pc' := 106) (g_d dtbX8_takeToken_0 53 rfl) pf_X8_36 rfl (by decide) rfl rfl ?_
          refine cz_aload_n (pc' := 107) (g_d dtbX8_takeToken_0 54 rfl) rfl rfl ?_
          refine cz_aload_n (pc' := 108) (g_d dtbX8_takeToken_0 55 rfl) rfl rfl ?_
          refine nz_getf (v := iv ((sk n t 48 57 (tS n t p) : Int))) (pc' := 111) (g_d dtbX8_takeToken_0 56 rfl) gf_X8_26 (by decide) rfl (congrArg iv (by simp [zu])) rfl ?_
          refine cz_aload_n (pc' := 112) (g_d dtbX8_takeToken_0 57 rfl) rfl rfl ?_
          refine nz_getf (v := iv ((tS n t p : Int))) (pc' := 115) (g_d dtbX8_takeToken_0 58 rfl) gf_X8_43 (by decide) rfl (congrArg iv (by simp [zu])) rfl ?_
          refine nz_isub (pc' := 116) (g_d dtbX8_takeToken_0 59 rfl) rfl ?_
          refine nz_iconst (pc' := 117) (g_d dtbX8_takeToken_1 0 rfl) rfl ?_
          refine nz_icmp_ne (tgt := 127) (pc' := 120) (g_d dtbX8_takeToken_1 1 rfl) (by omega) (by omega) rfl rfl (fun h117 => ?_) (fun h117 => ?_)
          · have hs2 : tS n t p + 1 < n := by omega
            have htr := hT.1.2 (tS n t p + 1) hs2
            refine nz_bipush (pc' := 129) (g_d dtbX8_takeToken_1 6 rfl) (by decide) rfl ?_
            refine cz_iload_n (pc' := 130) (g_d dtbX8_takeToken_1 7 rfl) rfl rfl ?_
            refine nz_bipush (pc' := 132) (g_d dtbX8_takeToken_1 8 rfl) (by decide) rfl ?_
            refine nz_isub (pc' := 133) (g_d dtbX8_takeToken_1 9 rfl) rfl ?_
            refine nz_imul (pc' := 134) (g_d dtbX8_takeToken_1 10 rfl) rfl ?_
            refine cz_aload_n (pc' := 135) (g_d dtbX8_takeToken_1 11 rfl) rfl rfl ?_
            refine cz_aload_n (pc' := 136) (g_d dtbX8_takeToken_1 12 rfl) rfl rfl ?_
            refine nz_getf (v := iv ((tS n t p : Int))) (pc' := 139) (g_d dtbX8_takeToken_1 13 rfl) gf_X8_43 (by decide) rfl (congrArg iv (by simp [zu])) rfl ?_
            refine nz_iconst (pc' := 140) (g_d dtbX8_takeToken_1 14 rfl) rfl ?_
            refine nz_iadd (pc' := 141) (g_d dtbX8_takeToken_1 15 rfl) rfl ?_
            refine nz_cVi (M' := mX8_byteAt) (k := 17) (As := [iv (((tS n t p : Int)) + 1)]) (S := [iv (10 * (c - 48)), .ref 17]) (L := [some (.ref 17), some (iv (c))]) (pc' := 144) (g_d dtbX8_takeToken_1 16 rfl) lk_X8_98 okX8_byteAt (by decide) rfl rfl rfl rfl (Nat.le_of_ble_eq_true rfl) (Nat.le_of_ble_eq_true rfl) (by decide) rfl (c_byteAt G (zu (zu (zu (zu Z 17 4 ((tS n t p : Int))) 17 3 ((tS n t p : Int))) 17 4 ((sk n t 48 57 (tS n t p) : Int))) 17 5 4) n t (hT.ft ((((FT.rf.u (by decide)).u (by decide)).u (by decide)).u (by decide))) (tS n t p + 1) (by omega)) ?_
            rintro _ _ ⟨rfl, rfl⟩
            rw [if_pos (show tS n t p + 1 < n from hs2)]
            refine nz_iadd (pc' := 145) (g_d dtbX8_takeToken_1 17 rfl) rfl ?_
            refine nz_bipush (pc' := 147) (g_d dtbX8_takeToken_1 18 rfl) (by decide) rfl ?_
            refine nz_isub (pc' := 148) (g_d dtbX8_takeToken_1 19 rfl) rfl ?_
            refine nz_puti (pc' := 151) (g_d dtbX8_takeToken_1 20 rfl) pf_X8_79 rfl (by decide) rfl rfl ?_
            refine cz_goto (pc' := 179) (g_d dtbX8_takeToken_1 21 rfl) rfl ?_
            refine nz_rv (g_d dtbX8_takeToken_1 36 rfl) rfl ?_
            refine ⟨?_, ?_, ?_, ?_, (((((FT.rf.u (by decide)).u (by decide)).u (by decide)).u (by decide)).u (by decide))⟩
            · simp [zu]
            · rw [show tE n t p = sk n t 48 57 (tS n t p) from by unfold tE; rw [if_pos (by omega), if_neg (by omega), if_pos (by omega)]]; simp [zu]
            · rw [show tK n t p = 4 from by unfold tK; rw [if_pos (by omega), if_neg (by omega), if_pos (by omega), if_pos (by omega)]]; simp [zu]
            · intro q
              rw [show tK n t p = 4 from by unfold tK; rw [if_pos (by omega), if_neg (by omega), if_pos (by omega), if_pos (by omega)]] at q
              exact absurd q (by decide)
          · refine cz_iload_n (pc' := 121) (g_d dtbX8_takeToken_1 2 rfl) rfl rfl ?_
            refine nz_bipush (pc' := 123) (g_d dtbX8_takeToken_1 3 rfl) (by decide) rfl ?_
            refine nz_isub (pc' := 124) (g_d dtbX8_takeToken_1 4 rfl) rfl ?_
            refine cz_goto (pc' := 148) (g_d dtbX8_takeToken_1 5 rfl) rfl ?_
            refine nz_puti (pc' := 151) (g_d dtbX8_takeToken_1 20 rfl) pf_X8_79 rfl (by decide) rfl rfl ?_
            refine cz_goto (pc' := 179) (g_d dtbX8_takeToken_1 21 rfl) rfl ?_
            refine nz_rv (g_d dtbX8_takeToken_1 36 rfl) rfl ?_
            refine ⟨?_, ?_, ?_, ?_, (((((FT.rf.u (by decide)).u (by decide)).u (by decide)).u (by decide)).u (by decide))⟩
            · simp [zu]
            · rw [show tE n t p = sk n t 48 57 (tS n t p) from by unfold tE; rw [if_pos (by omega), if_neg (by omega), if_pos (by omega)]]; simp [zu]
            · rw [show tK n t p = 4 from by unfold tK; rw [if_pos (by omega), if_neg (by omega), if_pos (by omega), if_pos (by omega)]]; simp [zu]
            · intro q
              rw [show tK n t p = 4 from by unfold tK; rw [if_pos (by omega), if_neg (by omega), if_pos (by omega), if_pos (by omega)]] at q
              exact absurd q (by decide)
      · refine nz_if_eq_t (tgt := 154) (g_d dtbX8_takeToken_0 37 rfl) (by omega) rfl (by omega) ?_
        refine cz_aload_n (pc' := 155) (g_d dtbX8_takeToken_1 22 rfl) rfl rfl ?_
        refine cz_dup (pc' := 156) (g_d dtbX8_takeToken_1 23 rfl) rfl rfl ?_
        refine nz_getf (v := iv ((tS n t p : Int))) (pc' := 159) (g_d dtbX8_takeToken_1 24 rfl) gf_X8_26 (by decide) rfl (congrArg iv (by simp [zu])) rfl ?_
        refine nz_iconst (pc' := 160) (g_d dtbX8_takeToken_1 25 rfl) rfl ?_
        refine nz_iadd (pc' := 161) (g_d dtbX8_takeToken_1 26 rfl) rfl ?_
        refine nz_puti (pc' := 164) (g_d dtbX8_takeToken_1 27 rfl) pf_X8_26 rfl (by decide) rfl rfl ?_
        refine cz_aload_n (pc' := 165) (g_d dtbX8_takeToken_1 28 rfl) rfl rfl ?_
        refine cz_iload_n (pc' := 166) (g_d dtbX8_takeToken_1 29 rfl) rfl rfl ?_
        refine nz_bipush (pc' := 168) (g_d dtbX8_takeToken_1 30 rfl) (by decide) rfl ?_
        refine nz_icmp_ne (tgt := 175) (pc' := 171) (g_d dtbX8_takeToken_1 31 rfl) (by omega) (by omega) rfl rfl (fun h168 => ?_) (fun h168 => ?_)
        · refine nz_iconst (pc' := 176) (g_d dtbX8_takeToken_1 34 rfl) rfl ?_
          refine nz_puti (pc' := 179) (g_d dtbX8_takeToken_1 35 rfl) pf_X8_36 rfl (by decide) rfl rfl ?_
          refine nz_rv (g_d dtbX8_takeToken_1 36 rfl) rfl ?_
          refine ⟨?_, ?_, ?_, ?_, ((((FT.rf.u (by decide)).u (by decide)).u (by decide)).u (by decide))⟩
          · simp [zu]
          · rw [show tE n t p = tS n t p + 1 from by unfold tE; rw [if_pos (by omega), if_neg (by omega), if_neg (by omega)]]; simp [zu]
          · rw [show tK n t p = 4 from by unfold tK; rw [if_pos (by omega), if_neg (by omega), if_neg (by omega), if_neg (by omega)]]; simp [zu]
          · intro q
            rw [show tK n t p = 4 from by unfold tK; rw [if_pos (by omega), if_neg (by omega), if_neg (by omega), if_neg (by omega)]] at q
            exact absurd q (by decide)
        · refine nz_iconst (pc' := 172) (g_d dtbX8_takeToken_1 32 rfl) rfl ?_
          refine cz_goto (pc' := 176) (g_d dtbX8_takeToken_1 33 rfl) rfl ?_
          refine nz_puti (pc' := 179) (g_d dtbX8_takeToken_1 35 rfl) pf_X8_36 rfl (by decide) rfl rfl ?_
          refine nz_rv (g_d dtbX8_takeToken_1 36 rfl) rfl ?_
          refine ⟨?_, ?_, ?_, ?_, ((((FT.rf.u (by decide)).u (by decide)).u (by decide)).u (by decide))⟩
          · simp [zu]
          · rw [show tE n t p = tS n t p + 1 from by unfold tE; rw [if_pos (by omega), if_neg (by omega), if_neg (by omega)]]; simp [zu]
          · rw [show tK n t p = 3 from by unfold tK; rw [if_pos (by omega), if_neg (by omega), if_neg (by omega), if_pos (by omega)]]; simp [zu]
          · intro q
            rw [show tK n t p = 3 from by unfold tK; rw [if_pos (by omega), if_neg (by omega), if_neg (by omega), if_pos (by omega)]] at q
            exact absurd q (by decide)
  · refine cz_aload_n (pc' := 31) (g_d dtbX8_takeToken_0 16 rfl) rfl rfl ?_
    refine nz_iconst (pc' := 32) (g_d dtbX8_takeToken_0 17 rfl) rfl ?_
    refine nz_puti (pc' := 35) (g_d dtbX8_takeToken_0 18 rfl) pf_X8_36 rfl (by decide) rfl rfl ?_
    refine cz_goto (pc' := 179) (g_d dtbX8_takeToken_0 19 rfl) rfl ?_
    refine nz_rv (g_d dtbX8_takeToken_1 36 rfl) rfl ?_
    refine ⟨?_, ?_, ?_, ?_, (((FT.rf.u (by decide)).u (by decide)).u (by decide))⟩
    · simp [zu]
    · rw [show tE n t p = tS n t p from by unfold tE; rw [if_neg (by omega)]]; simp [zu]
    · rw [show tK n t p = 0 from by unfold tK; rw [if_neg (by omega)]]; simp [zu]
    · intro q
      rw [show tK n t p = 0 from by unfold tK; rw [if_neg (by omega)]] at q
      exact absurd q (by decide)
