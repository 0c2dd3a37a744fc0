/-! the other one: what fits, where to look, the digest -/
set_option maxRecDepth 20000 in
set_option maxHeartbeats 4000000 in
theorem k_fit0 (G : Wd) (Z : ZS) (f : Row) (B : Int) (hR : RO B f) (b : Nat) (hb : b < 7) (hpo : 0 ≤ f (21 + b) ∧ f (21 + b) ≤ 99) (hto : 1 ≤ f (14 + b) ∧ f (14 + b) ≤ 28) (Q : Option Value → ZS → Prop) (se : Int) (κ : Nat) (hκ : κ < 6) (hK : Cn G mX11_kindsOf 137 [some (.ref 34), some (iv (b : Int)), some (iv (se)), some (iv (κ : Int)), some (iv 0), some (iv (f 28)), none, none] [] (zr Z 35 f) Q) : ∀ (d : Nat) (i : Nat), (f 28).toNat - i = d → ((i : Int) ≤ f 28) → Cn G mX11_kindsOf 16 [some (.ref 34), some (iv ((b : Int))), some (iv (se)), some (iv ((κ : Int))), some (iv 0), some (iv ((i : Int))), none, none] [] (zr Z 35 f) (Q) := by
  intro d
  induction d using Nat.strongRecOn with
  | ind d ih =>
    intro i hd hi
    have h28 := hR.2.2.2.1
    refine cz_iload (pc' := 18) (g_d dtbX11_kindsOf_0 11 rfl) rfl rfl ?_
    refine cz_aload_n (pc' := 19) (g_d dtbX11_kindsOf_0 12 rfl) rfl rfl ?_
    refine nz_getf (v := .ref 35) (pc' := 22) (g_d dtbX11_kindsOf_0 13 rfl) gf_X11_7 (by decide) rfl rfl rfl ?_
    refine nz_bipush (pc' := 24) (g_d dtbX11_kindsOf_0 14 rfl) (by decide) rfl ?_
    refine nz_iald 28 (pc' := 25) (g_d dtbX11_kindsOf_0 15 rfl) (by decide) rfl (by omega) (by rfl) (by omega) rfl ?_
    rw [show (zr Z 35 f) 35 28 = f 28 from by simp [zu, zr, ru]]
    refine nz_icmp_ge (tgt := 137) (pc' := 28) (g_d dtbX11_kindsOf_0 16 rfl) (by omega) (by omega) rfl rfl (fun h25 => ?_) (fun h25 => ?_)
    · rw [show (i : Int) = f 28 by omega]
      exact hK
    · have hno := no_in hR (i := i) (by omega) (by omega)
      have hdI := dayB_in (κ := (κ : Int)) (d := f (29 + 5 * i + 1)) (by omega)
      have hpI := pndB_in (κ := (κ : Int)) (p := f (21 + b)) (m := f (29 + 5 * i + 3)) (by omega)
      refine nz_bipush (pc' := 30) (g_d dtbX11_kindsOf_0 17 rfl) (by decide) rfl ?_
      refine nz_iconst (pc' := 31) (g_d dtbX11_kindsOf_0 18 rfl) rfl ?_
      refine cz_iload (pc' := 33) (g_d dtbX11_kindsOf_0 19 rfl) rfl rfl ?_
      refine nz_imul (pc' := 34) (g_d dtbX11_kindsOf_0 20 rfl) rfl ?_
      refine nz_iadd (pc' := 35) (g_d dtbX11_kindsOf_0 21 rfl) rfl ?_
      refine cz_istore (L' := [some (.ref 34), some (iv ((b : Int))), some (iv (se)), some (iv ((κ : Int))), some (iv 0), some (iv ((i : Int))), some (iv (29 + (5 * ((i : Int))))), none]) (pc' := 37) (g_d dtbX11_kindsOf_0 22 rfl) (by decide) rfl rfl ?_
      refine cz_iload_n (pc' := 38) (g_d dtbX11_kindsOf_0 23 rfl) rfl rfl ?_
      refine cz_aload_n (pc' := 39) (g_d dtbX11_kindsOf_0 24 rfl) rfl rfl ?_
      refine nz_getf (v := .ref 35) (pc' := 42) (g_d dtbX11_kindsOf_0 25 rfl) gf_X11_7 (by decide) rfl rfl rfl ?_
      refine cz_iload (pc' := 44) (g_d dtbX11_kindsOf_0 26 rfl) rfl rfl ?_
      refine nz_iconst (pc' := 45) (g_d dtbX11_kindsOf_0 27 rfl) rfl ?_
      refine nz_iadd (pc' := 46) (g_d dtbX11_kindsOf_0 28 rfl) rfl ?_
      refine nz_iald (29 + 5 * i + 1) (pc' := 47) (g_d dtbX11_kindsOf_0 29 rfl) (by decide) rfl (by omega) (by push_cast; omega) (by omega) rfl ?_
      rw [show (zr Z 35 f) 35 (29 + 5 * i + 1) = f (29 + 5 * i + 1) from by simp [zu, zr, ru]]
      refine nz_cSi (M' := mX11_dayBy) (As := [iv ((κ : Int)), iv (f (29 + 5 * i + 1))]) (S := []) (L := [some (.ref 34), some (iv ((b : Int))), some (iv (se)), some (iv ((κ : Int))), some (iv 0), some (iv ((i : Int))), some (iv (29 + (5 * ((i : Int))))), none]) (pc' := 50) (g_d dtbX11_kindsOf_0 30 rfl) lk_X11_121 okX11_dayBy rfl rfl (Nat.le_of_ble_eq_true rfl) (Nat.le_of_ble_eq_true rfl) (by decide) rfl (m_dayBy G (zr Z 35 f) ((κ : Int)) (f (29 + 5 * i + 1)) (by omega) (by omega)) ?_
      rintro _ _ ⟨rfl, rfl⟩
      refine cz_aload_n (pc' := 51) (g_d dtbX11_kindsOf_0 31 rfl) rfl rfl ?_
      refine nz_getf (v := .ref 35) (pc' := 54) (g_d dtbX11_kindsOf_0 32 rfl) gf_X11_7 (by decide) rfl rfl rfl ?_
      refine cz_iload (pc' := 56) (g_d dtbX11_kindsOf_0 33 rfl) rfl rfl ?_
      refine nz_iconst (pc' := 57) (g_d dtbX11_kindsOf_0 34 rfl) rfl ?_
      refine nz_iadd (pc' := 58) (g_d dtbX11_kindsOf_0 35 rfl) rfl ?_
      refine nz_iald (29 + 5 * i + 2) (pc' := 59) (g_d dtbX11_kindsOf_0 36 rfl) (by decide) rfl (by omega) (by push_cast; omega) (by omega) rfl ?_
      rw [show (zr Z 35 f) 35 (29 + 5 * i + 2) = f (29 + 5 * i + 2) from by simp [zu, zr, ru]]
      refine nz_icmp_ne (tgt := 100) (pc' := 62) (g_d dtbX11_kindsOf_0 37 rfl) (by omega) (by omega) rfl rfl (fun h59 => ?_) (fun h59 => ?_)
      · refine nz_iconst (pc' := 101) (g_d dtbX11_kindsOf_1 1 rfl) rfl ?_
        refine cz_istore (L' := [some (.ref 34), some (iv ((b : Int))), some (iv (se)), some (iv ((κ : Int))), some (iv 0), some (iv ((i : Int))), some (iv (29 + (5 * ((i : Int))))), some (iv 0)]) (pc' := 103) (g_d dtbX11_kindsOf_1 2 rfl) (by decide) rfl rfl ?_
        refine cz_iload (pc' := 105) (g_d dtbX11_kindsOf_1 3 rfl) rfl rfl ?_
        refine nz_if_eq_t (tgt := 128) (g_d dtbX11_kindsOf_1 4 rfl) (by omega) rfl (by omega) ?_
        refine nz_iconst (pc' := 129) (g_d dtbX11_kindsOf_1 15 rfl) rfl ?_
        refine cz_istore (L' := [some (.ref 34), some (iv ((b : Int))), some (iv (se)), some (iv ((κ : Int))), some (iv 0), some (iv ((i : Int))), some (iv (29 + (5 * ((i : Int))))), some (iv 0)]) (pc' := 131) (g_d dtbX11_kindsOf_1 16 rfl) (by decide) rfl rfl ?_
        refine nz_iinc (L' := [some (.ref 34), some (iv ((b : Int))), some (iv (se)), some (iv ((κ : Int))), some (iv 0), some (iv (((i : Int)) + 1)), some (iv (29 + (5 * ((i : Int))))), some (iv 0)]) (pc' := 134) (g_d dtbX11_kindsOf_1 17 rfl) (by decide) rfl rfl rfl ?_
        refine cz_goto (pc' := 16) (g_d dtbX11_kindsOf_1 18 rfl) rfl ?_
        refine cz_le [some (.ref 34), some (iv ((b : Int))), some (iv (se)), some (iv ((κ : Int))), some (iv 0), some (iv (((i : Int)) + 1)), none, none] ⟨rfl, rfl, rfl, rfl, rfl, rfl, trivial⟩ ?_
        exact ih ((f 28).toNat - (i + 1)) (by omega) (i + 1) rfl (by omega)
      · refine cz_iload_n (pc' := 63) (g_d dtbX11_kindsOf_0 38 rfl) rfl rfl ?_
        refine cz_aload_n (pc' := 64) (g_d dtbX11_kindsOf_0 39 rfl) rfl rfl ?_
        refine nz_getf (v := .ref 35) (pc' := 67) (g_d dtbX11_kindsOf_0 40 rfl) gf_X11_7 (by decide) rfl rfl rfl ?_
        refine nz_bipush (pc' := 69) (g_d dtbX11_kindsOf_0 41 rfl) (by decide) rfl ?_
        refine cz_iload_n (pc' := 70) (g_d dtbX11_kindsOf_0 42 rfl) rfl rfl ?_
        refine nz_iadd (pc' := 71) (g_d dtbX11_kindsOf_0 43 rfl) rfl ?_
        refine nz_iald (21 + b) (pc' := 72) (g_d dtbX11_kindsOf_0 44 rfl) (by decide) rfl (by omega) (by push_cast; omega) (by omega) rfl ?_
        rw [show (zr Z 35 f) 35 (21 + b) = f (21 + b) from by simp [zu, zr, ru]]
        refine cz_aload_n (pc' := 73) (g_d dtbX11_kindsOf_0 45 rfl) rfl rfl ?_
        refine nz_getf (v := .ref 35) (pc' := 76) (g_d dtbX11_kindsOf_0 46 rfl) gf_X11_7 (by decide) rfl rfl rfl ?_
        refine cz_iload (pc' := 78) (g_d dtbX11_kindsOf_0 47 rfl) rfl rfl ?_
        refine nz_iconst (pc' := 79) (g_d dtbX11_kindsOf_0 48 rfl) rfl ?_
        refine nz_iadd (pc' := 80) (g_d dtbX11_kindsOf_0 49 rfl) rfl ?_
        refine nz_iald (29 + 5 * i + 3) (pc' := 81) (g_d dtbX11_kindsOf_0 50 rfl) (by decide) rfl (by omega) (by push_cast; omega) (by omega) rfl ?_
        rw [show (zr Z 35 f) 35 (29 + 5 * i + 3) = f (29 + 5 * i + 3) from by simp [zu, zr, ru]]
        refine nz_cSi (M' := mX11_poundsBy) (As := [iv ((κ : Int)), iv (f (21 + b)), iv (f (29 + 5 * i + 3))]) (S := []) (L := [some (.ref 34), some (iv ((b : Int))), some (iv (se)), some (iv ((κ : Int))), some (iv 0), some (iv ((i : Int))), some (iv (29 + (5 * ((i : Int))))), none]) (pc' := 84) (g_d dtbX11_kindsOf_0 51 rfl) lk_X11_117 okX11_poundsBy rfl rfl (Nat.le_of_ble_eq_true rfl) (Nat.le_of_ble_eq_true rfl) (by decide) rfl (m_poundsBy G (zr Z 35 f) ((κ : Int)) (f (21 + b)) (f (29 + 5 * i + 3)) (by omega) (by omega) (by omega)) ?_
        rintro _ _ ⟨rfl, rfl⟩
        refine cz_aload_n (pc' := 85) (g_d dtbX11_kindsOf_0 52 rfl) rfl rfl ?_
        refine nz_getf (v := .ref 35) (pc' := 88) (g_d dtbX11_kindsOf_0 53 rfl) gf_X11_7 (by decide) rfl rfl rfl ?_
        refine cz_iload (pc' := 90) (g_d dtbX11_kindsOf_0 54 rfl) rfl rfl ?_
        refine nz_iconst (pc' := 91) (g_d dtbX11_kindsOf_0 55 rfl) rfl ?_
        refine nz_iadd (pc' := 92) (g_d dtbX11_kindsOf_0 56 rfl) rfl ?_
        refine nz_iald (29 + 5 * i + 4) (pc' := 93) (g_d dtbX11_kindsOf_0 57 rfl) (by decide) rfl (by omega) (by push_cast; omega) (by omega) rfl ?_
        rw [show (zr Z 35 f) 35 (29 + 5 * i + 4) = f (29 + 5 * i + 4) from by simp [zu, zr, ru]]
        refine nz_icmp_ne (tgt := 100) (pc' := 96) (g_d dtbX11_kindsOf_0 58 rfl) (by omega) (by omega) rfl rfl (fun h93 => ?_) (fun h93 => ?_)
        · refine nz_iconst (pc' := 101) (g_d dtbX11_kindsOf_1 1 rfl) rfl ?_
          refine cz_istore (L' := [some (.ref 34), some (iv ((b : Int))), some (iv (se)), some (iv ((κ : Int))), some (iv 0), some (iv ((i : Int))), some (iv (29 + (5 * ((i : Int))))), some (iv 0)]) (pc' := 103) (g_d dtbX11_kindsOf_1 2 rfl) (by decide) rfl rfl ?_
          refine cz_iload (pc' := 105) (g_d dtbX11_kindsOf_1 3 rfl) rfl rfl ?_
          refine nz_if_eq_t (tgt := 128) (g_d dtbX11_kindsOf_1 4 rfl) (by omega) rfl (by omega) ?_
          refine nz_iconst (pc' := 129) (g_d dtbX11_kindsOf_1 15 rfl) rfl ?_
          refine cz_istore (L' := [some (.ref 34), some (iv ((b : Int))), some (iv (se)), some (iv ((κ : Int))), some (iv 0), some (iv ((i : Int))), some (iv (29 + (5 * ((i : Int))))), some (iv 0)]) (pc' := 131) (g_d dtbX11_kindsOf_1 16 rfl) (by decide) rfl rfl ?_
          refine nz_iinc (L' := [some (.ref 34), some (iv ((b : Int))), some (iv (se)), some (iv ((κ : Int))), some (iv 0), some (iv (((i : Int)) + 1)), some (iv (29 + (5 * ((i : Int))))), some (iv 0)]) (pc' := 134) (g_d dtbX11_kindsOf_1 17 rfl) (by decide) rfl rfl rfl ?_
          refine cz_goto (pc' := 16) (g_d dtbX11_kindsOf_1 18 rfl) rfl ?_
          refine cz_le [some (.ref 34), some (iv ((b : Int))), some (iv (se)), some (iv ((κ : Int))), some (iv 0), some (iv (((i : Int)) + 1)), none, none] ⟨rfl, rfl, rfl, rfl, rfl, rfl, trivial⟩ ?_
          exact ih ((f 28).toNat - (i + 1)) (by omega) (i + 1) rfl (by omega)
        · refine nz_iconst (pc' := 97) (g_d dtbX11_kindsOf_0 59 rfl) rfl ?_
          refine cz_goto (pc' := 101) (g_d dtbX11_kindsOf_1 0 rfl) rfl ?_
          refine cz_istore (L' := [some (.ref 34), some (iv ((b : Int))), some (iv (se)), some (iv ((κ : Int))), some (iv 0), some (iv ((i : Int))), some (iv (29 + (5 * ((i : Int))))), some (iv 1)]) (pc' := 103) (g_d dtbX11_kindsOf_1 2 rfl) (by decide) rfl rfl ?_
          refine cz_iload (pc' := 105) (g_d dtbX11_kindsOf_1 3 rfl) rfl rfl ?_
          refine nz_if_eq_t (tgt := 128) (g_d dtbX11_kindsOf_1 4 rfl) (by omega) rfl (by omega) ?_
          refine nz_iconst (pc' := 129) (g_d dtbX11_kindsOf_1 15 rfl) rfl ?_
          refine cz_istore (L' := [some (.ref 34), some (iv ((b : Int))), some (iv (se)), some (iv ((κ : Int))), some (iv 0), some (iv ((i : Int))), some (iv (29 + (5 * ((i : Int))))), some (iv 1)]) (pc' := 131) (g_d dtbX11_kindsOf_1 16 rfl) (by decide) rfl rfl ?_
          refine nz_iinc (L' := [some (.ref 34), some (iv ((b : Int))), some (iv (se)), some (iv ((κ : Int))), some (iv 0), some (iv (((i : Int)) + 1)), some (iv (29 + (5 * ((i : Int))))), some (iv 1)]) (pc' := 134) (g_d dtbX11_kindsOf_1 17 rfl) (by decide) rfl rfl rfl ?_
          refine cz_goto (pc' := 16) (g_d dtbX11_kindsOf_1 18 rfl) rfl ?_
          refine cz_le [some (.ref 34), some (iv ((b : Int))), some (iv (se)), some (iv ((κ : Int))), some (iv 0), some (iv (((i : Int)) + 1)), none, none] ⟨rfl, rfl, rfl, rfl, rfl, rfl, trivial⟩ ?_
          exact ih ((f 28).toNat - (i + 1)) (by omega) (i + 1) rfl (by omega)

set_option maxRecDepth 20000 in
set_option maxHeartbeats 4000000 in
theorem k_fit1 (G : Wd) (Z : ZS) (f : Row) (B : Int) (hR : RO B f) (b : Nat) (hb : b < 7) (hpo : 0 ≤ f (21 + b) ∧ f (21 + b) ≤ 99) (hto : 1 ≤ f (14 + b) ∧ f (14 + b) ≤ 28) (Q : Option Value → ZS → Prop) (se : Int) (κ : Nat) (hκ : κ < 6) (hK1 : fts f κ b → Cn G mX11_kindsOf 137 [some (.ref 34), some (iv (b : Int)), some (iv (se)), some (iv (κ : Int)), some (iv 1), some (iv (f 28)), none, none] [] (zr Z 35 f) Q) (hK0 : ¬ fts f κ b → Cn G mX11_kindsOf 137 [some (.ref 34), some (iv (b : Int)), some (iv (se)), some (iv (κ : Int)), some (iv 0), some (iv (f 28)), none, none] [] (zr Z 35 f) Q) : ∀ (d : Nat) (i : Nat), (f 28).toNat - i = d → ((i : Int) ≤ f 28) → (∀ x : Nat, x < i → f (29 + 5 * x + 0) = (b : Int) → ntok f (κ : Int) (f (21 + b)) x) → Cn G mX11_kindsOf 16 [some (.ref 34), some (iv ((b : Int))), some (iv (se)), some (iv ((κ : Int))), some (iv 1), some (iv ((i : Int))), none, none] [] (zr Z 35 f) (Q) := by
  intro d
  induction d using Nat.strongRecOn with
  | ind d ih =>
    intro i hd hi hn
    have h28 := hR.2.2.2.1
    refine cz_iload (pc' := 18) (g_d dtbX11_kindsOf_0 11 rfl) rfl rfl ?_
    refine cz_aload_n (pc' := 19) (g_d dtbX11_kindsOf_0 12 rfl) rfl rfl ?_
    refine nz_getf (v := .ref 35) (pc' := 22) (g_d dtbX11_kindsOf_0 13 rfl) gf_X11_7 (by decide) rfl rfl rfl ?_
    refine nz_bipush (pc' := 24) (g_d dtbX11_kindsOf_0 14 rfl) (by decide) rfl ?_
    refine nz_iald 28 (pc' := 25) (g_d dtbX11_kindsOf_0 15 rfl) (by decide) rfl (by omega) (by rfl) (by omega) rfl ?_
    rw [show (zr Z 35 f) 35 28 = f 28 from by simp [zu, zr, ru]]
    refine nz_icmp_ge (tgt := 137) (pc' := 28) (g_d dtbX11_kindsOf_0 16 rfl) (by omega) (by omega) rfl rfl (fun h25 => ?_) (fun h25 => ?_)
    · rw [show (i : Int) = f 28 by omega]
      exact hK1 (fun x hx hx2 => hn x (by omega))
    · have hno := no_in hR (i := i) (by omega) (by omega)
      have hdI := dayB_in (κ := (κ : Int)) (d := f (29 + 5 * i + 1)) (by omega)
      have hpI := pndB_in (κ := (κ : Int)) (p := f (21 + b)) (m := f (29 + 5 * i + 3)) (by omega)
      refine nz_bipush (pc' := 30) (g_d dtbX11_kindsOf_0 17 rfl) (by decide) rfl ?_
      refine nz_iconst (pc' := 31) (g_d dtbX11_kindsOf_0 18 rfl) rfl ?_
      refine cz_iload (pc' := 33) (g_d dtbX11_kindsOf_0 19 rfl) rfl rfl ?_
      refine nz_imul (pc' := 34) (g_d dtbX11_kindsOf_0 20 rfl) rfl ?_
      refine nz_iadd (pc' := 35) (g_d dtbX11_kindsOf_0 21 rfl) rfl ?_
      refine cz_istore (L' := [some (.ref 34), some (iv ((b : Int))), some (iv (se)), some (iv ((κ : Int))), some (iv 1), some (iv ((i : Int))), some (iv (29 + (5 * ((i : Int))))), none]) (pc' := 37) (g_d dtbX11_kindsOf_0 22 rfl) (by decide) rfl rfl ?_
      refine cz_iload_n (pc' := 38) (g_d dtbX11_kindsOf_0 23 rfl) rfl rfl ?_
      refine cz_aload_n (pc' := 39) (g_d dtbX11_kindsOf_0 24 rfl) rfl rfl ?_
      refine nz_getf (v := .ref 35) (pc' := 42) (g_d dtbX11_kindsOf_0 25 rfl) gf_X11_7 (by decide) rfl rfl rfl ?_
      refine cz_iload (pc' := 44) (g_d dtbX11_kindsOf_0 26 rfl) rfl rfl ?_
      refine nz_iconst (pc' := 45) (g_d dtbX11_kindsOf_0 27 rfl) rfl ?_
      refine nz_iadd (pc' := 46) (g_d dtbX11_kindsOf_0 28 rfl) rfl ?_
      refine nz_iald (29 + 5 * i + 1) (pc' := 47) (g_d dtbX11_kindsOf_0 29 rfl) (by decide) rfl (by omega) (by push_cast; omega) (by omega) rfl ?_
      rw [show (zr Z 35 f) 35 (29 + 5 * i + 1) = f (29 + 5 * i + 1) from by simp [zu, zr, ru]]
      refine nz_cSi (M' := mX11_dayBy) (As := [iv ((κ : Int)), iv (f (29 + 5 * i + 1))]) (S := []) (L := [some (.ref 34), some (iv ((b : Int))), some (iv (se)), some (iv ((κ : Int))), some (iv 1), some (iv ((i : Int))), some (iv (29 + (5 * ((i : Int))))), none]) (pc' := 50) (g_d dtbX11_kindsOf_0 30 rfl) lk_X11_121 okX11_dayBy rfl rfl (Nat.le_of_ble_eq_true rfl) (Nat.le_of_ble_eq_true rfl) (by decide) rfl (m_dayBy G (zr Z 35 f) ((κ : Int)) (f (29 + 5 * i + 1)) (by omega) (by omega)) ?_
      rintro _ _ ⟨rfl, rfl⟩
      refine cz_aload_n (pc' := 51) (g_d dtbX11_kindsOf_0 31 rfl) rfl rfl ?_
      refine nz_getf (v := .ref 35) (pc' := 54) (g_d dtbX11_kindsOf_0 32 rfl) gf_X11_7 (by decide) rfl rfl rfl ?_
      refine cz_iload (pc' := 56) (g_d dtbX11_kindsOf_0 33 rfl) rfl rfl ?_
      refine nz_iconst (pc' := 57) (g_d dtbX11_kindsOf_0 34 rfl) rfl ?_
      refine nz_iadd (pc' := 58) (g_d dtbX11_kindsOf_0 35 rfl) rfl ?_
      refine nz_iald (29 + 5 * i + 2) (pc' := 59) (g_d dtbX11_kindsOf_0 36 rfl) (by decide) rfl (by omega) (by push_cast; omega) (by omega) rfl ?_
      rw [show (zr Z 35 f) 35 (29 + 5 * i + 2) = f (29 + 5 * i + 2) from by simp [zu, zr, ru]]
      refine nz_icmp_ne (tgt := 100) (pc' := 62) (g_d dtbX11_kindsOf_0 37 rfl) (by omega) (by omega) rfl rfl (fun h59 => ?_) (fun h59 => ?_)
      · refine nz_iconst (pc' := 101) (g_d dtbX11_kindsOf_1 1 rfl) rfl ?_
        refine cz_istore (L' := [some (.ref 34), some (iv ((b : Int))), some (iv (se)), some (iv ((κ : Int))), some (iv 1), some (iv ((i : Int))), some (iv (29 + (5 * ((i : Int))))), some (iv 0)]) (pc' := 103) (g_d dtbX11_kindsOf_1 2 rfl) (by decide) rfl rfl ?_
        refine cz_iload (pc' := 105) (g_d dtbX11_kindsOf_1 3 rfl) rfl rfl ?_
        refine nz_if_eq_f (pc' := 108) (g_d dtbX11_kindsOf_1 4 rfl) (by omega) (by decide) rfl (by omega) ?_
        refine cz_aload_n (pc' := 109) (g_d dtbX11_kindsOf_1 5 rfl) rfl rfl ?_
        refine nz_getf (v := .ref 35) (pc' := 112) (g_d dtbX11_kindsOf_1 6 rfl) gf_X11_7 (by decide) rfl rfl rfl ?_
        refine cz_iload (pc' := 114) (g_d dtbX11_kindsOf_1 7 rfl) rfl rfl ?_
        refine nz_iald (29 + 5 * i + 0) (pc' := 115) (g_d dtbX11_kindsOf_1 8 rfl) (by decide) rfl (by omega) (by push_cast; omega) (by omega) rfl ?_
        rw [show (zr Z 35 f) 35 (29 + 5 * i + 0) = f (29 + 5 * i + 0) from by simp [zu, zr, ru]]
        refine cz_iload_n (pc' := 116) (g_d dtbX11_kindsOf_1 9 rfl) rfl rfl ?_
        refine nz_icmp_ne (tgt := 124) (pc' := 119) (g_d dtbX11_kindsOf_1 10 rfl) (by omega) (by omega) rfl rfl (fun h116 => ?_) (fun h116 => ?_)
        · refine nz_iconst (pc' := 125) (g_d dtbX11_kindsOf_1 13 rfl) rfl ?_
          refine cz_goto (pc' := 129) (g_d dtbX11_kindsOf_1 14 rfl) rfl ?_
          refine cz_istore (L' := [some (.ref 34), some (iv ((b : Int))), some (iv (se)), some (iv ((κ : Int))), some (iv 1), some (iv ((i : Int))), some (iv (29 + (5 * ((i : Int))))), some (iv 0)]) (pc' := 131) (g_d dtbX11_kindsOf_1 16 rfl) (by decide) rfl rfl ?_
          refine nz_iinc (L' := [some (.ref 34), some (iv ((b : Int))), some (iv (se)), some (iv ((κ : Int))), some (iv 1), some (iv (((i : Int)) + 1)), some (iv (29 + (5 * ((i : Int))))), some (iv 0)]) (pc' := 134) (g_d dtbX11_kindsOf_1 17 rfl) (by decide) rfl rfl rfl ?_
          refine cz_goto (pc' := 16) (g_d dtbX11_kindsOf_1 18 rfl) rfl ?_
          refine cz_le [some (.ref 34), some (iv ((b : Int))), some (iv (se)), some (iv ((κ : Int))), some (iv 1), some (iv (((i : Int)) + 1)), none, none] ⟨rfl, rfl, rfl, rfl, rfl, rfl, trivial⟩ ?_
          refine ih ((f 28).toNat - (i + 1)) (by omega) (i + 1) rfl (by omega) (fun x hx hq => ?_)
          rcases (show x < i ∨ x = i by omega) with q | rfl
          · exact hn x q hq
          · first | exact ⟨by omega, by omega⟩ | (exfalso; omega)
        · refine cz_iload (pc' := 121) (g_d dtbX11_kindsOf_1 11 rfl) rfl rfl ?_
          refine nz_if_eq_t (tgt := 128) (g_d dtbX11_kindsOf_1 12 rfl) (by omega) rfl (by omega) ?_
          refine nz_iconst (pc' := 129) (g_d dtbX11_kindsOf_1 15 rfl) rfl ?_
          refine cz_istore (L' := [some (.ref 34), some (iv ((b : Int))), some (iv (se)), some (iv ((κ : Int))), some (iv 0), some (iv ((i : Int))), some (iv (29 + (5 * ((i : Int))))), some (iv 0)]) (pc' := 131) (g_d dtbX11_kindsOf_1 16 rfl) (by decide) rfl rfl ?_
          refine nz_iinc (L' := [some (.ref 34), some (iv ((b : Int))), some (iv (se)), some (iv ((κ : Int))), some (iv 0), some (iv (((i : Int)) + 1)), some (iv (29 + (5 * ((i : Int))))), some (iv 0)]) (pc' := 134) (g_d dtbX11_kindsOf_1 17 rfl) (by decide) rfl rfl rfl ?_
          refine cz_goto (pc' := 16) (g_d dtbX11_kindsOf_1 18 rfl) rfl ?_
          refine cz_le [some (.ref 34), some (iv ((b : Int))), some (iv (se)), some (iv ((κ : Int))), some (iv 0), some (iv (((i : Int)) + 1)), none, none] ⟨rfl, rfl, rfl, rfl, rfl, rfl, trivial⟩ ?_
          refine k_fit0 G Z f B hR b hb hpo hto Q se κ hκ (hK0 (fun q => ?_)) ((f 28).toNat - (i + 1)) (i + 1) rfl (by omega)
          have q1 := q i (by omega) (by omega) (by omega)
          unfold ntok at q1
          omega
      · refine cz_iload_n (pc' := 63) (g_d dtbX11_kindsOf_0 38 rfl) rfl rfl ?_
        refine cz_aload_n (pc' := 64) (g_d dtbX11_kindsOf_0 39 rfl) rfl rfl ?_
        refine nz_getf (v := .ref 35) (pc' := 67) (g_d dtbX11_kindsOf_0 40 rfl) gf_X11_7 (by decide) rfl rfl rfl ?_
        refine nz_bipush (pc' := 69) (g_d dtbX11_kindsOf_0 41 rfl) (by decide) rfl ?_
        refine cz_iload_n (pc' := 70) (g_d dtbX11_kindsOf_0 42 rfl) rfl rfl ?_
        refine nz_iadd (pc' := 71) (g_d dtbX11_kindsOf_0 43 rfl) rfl ?_
        refine nz_iald (21 + b) (pc' := 72) (g_d dtbX11_kindsOf_0 44 rfl) (by decide) rfl (by omega) (by push_cast; omega) (by omega) rfl ?_
        rw [show (zr Z 35 f) 35 (21 + b) = f (21 + b) from by simp [zu, zr, ru]]
        refine cz_aload_n (pc' := 73) (g_d dtbX11_kindsOf_0 45 rfl) rfl rfl ?_
        refine nz_getf (v := .ref 35) (pc' := 76) (g_d dtbX11_kindsOf_0 46 rfl) gf_X11_7 (by decide) rfl rfl rfl ?_
        refine cz_iload (pc' := 78) (g_d dtbX11_kindsOf_0 47 rfl) rfl rfl ?_
        refine nz_iconst (pc' := 79) (g_d dtbX11_kindsOf_0 48 rfl) rfl ?_
        refine nz_iadd (pc' := 80) (g_d dtbX11_kindsOf_0 49 rfl) rfl ?_
        refine nz_iald (29 + 5 * i + 3) (pc' := 81) (g_d dtbX11_kindsOf_0 50 rfl) (by decide) rfl (by omega) (by push_cast; omega) (by omega) rfl ?_
        rw [show (zr Z 35 f) 35 (29 + 5 * i + 3) = f (29 + 5 * i + 3) from by simp [zu, zr, ru]]
        refine nz_cSi (M' := mX11_poundsBy) (As := [iv ((κ : Int)), iv (f (21 + b)), iv (f (29 + 5 * i + 3))]) (S := []) (L := [some (.ref 34), some (iv ((b : Int))), some (iv (se)), some (iv ((κ : Int))), some (iv 1), some (iv ((i : Int))), some (iv (29 + (5 * ((i : Int))))), none]) (pc' := 84) (g_d dtbX11_kindsOf_0 51 rfl) lk_X11_117 okX11_poundsBy rfl rfl (Nat.le_of_ble_eq_true rfl) (Nat.le_of_ble_eq_true rfl) (by decide) rfl (m_poundsBy G (zr Z 35 f) ((κ : Int)) (f (21 + b)) (f (29 + 5 * i + 3)) (by omega) (by omega) (by omega)) ?_
        rintro _ _ ⟨rfl, rfl⟩
        refine cz_aload_n (pc' := 85) (g_d dtbX11_kindsOf_0 52 rfl) rfl rfl ?_
        refine nz_getf (v := .ref 35) (pc' := 88) (g_d dtbX11_kindsOf_0 53 rfl) gf_X11_7 (by decide) rfl rfl rfl ?_
        refine cz_iload (pc' := 90) (g_d dtbX11_kindsOf_0 54 rfl) rfl rfl ?_
        refine nz_iconst (pc' := 91) (g_d dtbX11_kindsOf_0 55 rfl) rfl ?_
        refine nz_iadd (pc' := 92) (g_d dtbX11_kindsOf_0 56 rfl) rfl ?_
        refine nz_iald (29 + 5 * i + 4) (pc' := 93) (g_d dtbX11_kindsOf_0 57 rfl) (by decide) rfl (by omega) (by push_cast; omega) (by omega) rfl ?_
        rw [show (zr Z 35 f) 35 (29 + 5 * i + 4) = f (29 + 5 * i + 4) from by simp [zu, zr, ru]]
        refine nz_icmp_ne (tgt := 100) (pc' := 96) (g_d dtbX11_kindsOf_0 58 rfl) (by omega) (by omega) rfl rfl (fun h93 => ?_) (fun h93 => ?_)
        · refine nz_iconst (pc' := 101) (g_d dtbX11_kindsOf_1 1 rfl) rfl ?_
          refine cz_istore (L' := [some (.ref 34), some (iv ((b : Int))), some (iv (se)), some (iv ((κ : Int))), some (iv 1), some (iv ((i : Int))), some (iv (29 + (5 * ((i : Int))))), some (iv 0)]) (pc' := 103) (g_d dtbX11_kindsOf_1 2 rfl) (by decide) rfl rfl ?_
          refine cz_iload (pc' := 105) (g_d dtbX11_kindsOf_1 3 rfl) rfl rfl ?_
          refine nz_if_eq_f (pc' := 108) (g_d dtbX11_kindsOf_1 4 rfl) (by omega) (by decide) rfl (by omega) ?_
          refine cz_aload_n (pc' := 109) (g_d dtbX11_kindsOf_1 5 rfl) rfl rfl ?_
          refine nz_getf (v := .ref 35) (pc' := 112) (g_d dtbX11_kindsOf_1 6 rfl) gf_X11_7 (by decide) rfl rfl rfl ?_
          refine cz_iload (pc' := 114) (g_d dtbX11_kindsOf_1 7 rfl) rfl rfl ?_
          refine nz_iald (29 + 5 * i + 0) (pc' := 115) (g_d dtbX11_kindsOf_1 8 rfl) (by decide) rfl (by omega) (by push_cast; omega) (by omega) rfl ?_
          rw [show (zr Z 35 f) 35 (29 + 5 * i + 0) = f (29 + 5 * i + 0) from by simp [zu, zr, ru]]
          refine cz_iload_n (pc' := 116) (g_d dtbX11_kindsOf_1 9 rfl) rfl rfl ?_
          refine nz_icmp_ne (tgt := 124) (pc' := 119) (g_d dtbX11_kindsOf_1 10 rfl) (by omega) (by omega) rfl rfl (fun h116 => ?_) (fun h116 => ?_)
          · refine nz_iconst (pc' := 125) (g_d dtbX11_kindsOf_1 13 rfl) rfl ?_
            refine cz_goto (pc' := 129) (g_d dtbX11_kindsOf_1 14 rfl) rfl ?_
            refine cz_istore (L' := [some (.ref 34), some (iv ((b : Int))), some (iv (se)), some (iv ((κ : Int))), some (iv 1), some (iv ((i : Int))), some (iv (29 + (5 * ((i : Int))))), some (iv 0)]) (pc' := 131) (g_d dtbX11_kindsOf_1 16 rfl) (by decide) rfl rfl ?_
            refine nz_iinc (L' := [some (.ref 34), some (iv ((b : Int))), some (iv (se)), some (iv ((κ : Int))), some (iv 1), some (iv (((i : Int)) + 1)), some (iv (29 + (5 * ((i : Int))))), some (iv 0)]) (pc' := 134) (g_d dtbX11_kindsOf_1 17 rfl) (by decide) rfl rfl rfl ?_
            refine cz_goto (pc' := 16) (g_d dtbX11_kindsOf_1 18 rfl) rfl ?_
            refine cz_le [some (.ref 34), some (iv ((b : Int))), some (iv (se)), some (iv ((κ : Int))), some (iv 1), some (iv (((i : Int)) + 1)), none, none] ⟨rfl, rfl, rfl, rfl, rfl, rfl, trivial⟩ ?_
            refine ih ((f 28).toNat - (i + 1)) (by omega) (i + 1) rfl (by omega) (fun x hx hq => ?_)
            rcases (show x < i ∨ x = i by omega) with q | rfl
            · exact hn x q hq
            · first | exact ⟨by omega, by omega⟩ | (exfalso; omega)
          · refine cz_iload (pc' := 121) (g_d dtbX11_kindsOf_1 11 rfl) rfl rfl ?_
            refine nz_if_eq_t (tgt := 128) (g_d dtbX11_kindsOf_1 12 rfl) (by omega) rfl (by omega) ?_
            refine nz_iconst (pc' := 129) (g_d dtbX11_kindsOf_1 15 rfl) rfl ?_
            refine cz_istore (L' := [some (.ref 34), some (iv ((b : Int))), some (iv (se)), some (iv ((κ : Int))), some (iv 0), some (iv ((i : Int))), some (iv (29 + (5 * ((i : Int))))), some (iv 0)]) (pc' := 131) (g_d dtbX11_kindsOf_1 16 rfl) (by decide) rfl rfl ?_
            refine nz_iinc (L' := [some (.ref 34), some (iv ((b : Int))), some (iv (se)), some (iv ((κ : Int))), some (iv 0), some (iv (((i : Int)) + 1)), some (iv (29 + (5 * ((i : Int))))), some (iv 0)]) (pc' := 134) (g_d dtbX11_kindsOf_1 17 rfl) (by decide) rfl rfl rfl ?_
            refine cz_goto (pc' := 16) (g_d dtbX11_kindsOf_1 18 rfl) rfl ?_
            refine cz_le [some (.ref 34), some (iv ((b : Int))), some (iv (se)), some (iv ((κ : Int))), some (iv 0), some (iv (((i : Int)) + 1)), none, none] ⟨rfl, rfl, rfl, rfl, rfl, rfl, trivial⟩ ?_
            refine k_fit0 G Z f B hR b hb hpo hto Q se κ hκ (hK0 (fun q => ?_)) ((f 28).toNat - (i + 1)) (i + 1) rfl (by omega)
            have q1 := q i (by omega) (by omega) (by omega)
            unfold ntok at q1
            omega
        · refine nz_iconst (pc' := 97) (g_d dtbX11_kindsOf_0 59 rfl) rfl ?_
          refine cz_goto (pc' := 101) (g_d dtbX11_kindsOf_1 0 rfl) rfl ?_
          refine cz_istore (L' := [some (.ref 34), some (iv ((b : Int))), some (iv (se)), some (iv ((κ : Int))), some (iv 1), some (iv ((i : Int))), some (iv (29 + (5 * ((i : Int))))), some (iv 1)]) (pc' := 103) (g_d dtbX11_kindsOf_1 2 rfl) (by decide) rfl rfl ?_
          refine cz_iload (pc' := 105) (g_d dtbX11_kindsOf_1 3 rfl) rfl rfl ?_
          refine nz_if_eq_f (pc' := 108) (g_d dtbX11_kindsOf_1 4 rfl) (by omega) (by decide) rfl (by omega) ?_
          refine cz_aload_n (pc' := 109) (g_d dtbX11_kindsOf_1 5 rfl) rfl rfl ?_
          refine nz_getf (v := .ref 35) (pc' := 112) (g_d dtbX11_kindsOf_1 6 rfl) gf_X11_7 (by decide) rfl rfl rfl ?_
          refine cz_iload (pc' := 114) (g_d dtbX11_kindsOf_1 7 rfl) rfl rfl ?_
          refine nz_iald (29 + 5 * i + 0) (pc' := 115) (g_d dtbX11_kindsOf_1 8 rfl) (by decide) rfl (by omega) (by push_cast; omega) (by omega) rfl ?_
          rw [show (zr Z 35 f) 35 (29 + 5 * i + 0) = f (29 + 5 * i + 0) from by simp [zu, zr, ru]]
          refine cz_iload_n (pc' := 116) (g_d dtbX11_kindsOf_1 9 rfl) rfl rfl ?_
          refine nz_icmp_ne (tgt := 124) (pc' := 119) (g_d dtbX11_kindsOf_1 10 rfl) (by omega) (by omega) rfl rfl (fun h116 => ?_) (fun h116 => ?_)
          · refine nz_iconst (pc' := 125) (g_d dtbX11_kindsOf_1 13 rfl) rfl ?_
            refine cz_goto (pc' := 129) (g_d dtbX11_kindsOf_1 14 rfl) rfl ?_
            refine cz_istore (L' := [some (.ref 34), some (iv ((b : Int))), some (iv (se)), some (iv ((κ : Int))), some (iv 1), some (iv ((i : Int))), some (iv (29 + (5 * ((i : Int))))), some (iv 1)]) (pc' := 131) (g_d dtbX11_kindsOf_1 16 rfl) (by decide) rfl rfl ?_
            refine nz_iinc (L' := [some (.ref 34), some (iv ((b : Int))), some (iv (se)), some (iv ((κ : Int))), some (iv 1), some (iv (((i : Int)) + 1)), some (iv (29 + (5 * ((i : Int))))), some (iv 1)]) (pc' := 134) (g_d dtbX11_kindsOf_1 17 rfl) (by decide) rfl rfl rfl ?_
            refine cz_goto (pc' := 16) (g_d dtbX11_kindsOf_1 18 rfl) rfl ?_
            refine cz_le [some (.ref 34), some (iv ((b : Int))), some (iv (se)), some (iv ((κ : Int))), some (iv 1), some (iv (((i : Int)) + 1)), none, none] ⟨rfl, rfl, rfl, rfl, rfl, rfl, trivial⟩ ?_
            refine ih ((f 28).toNat - (i + 1)) (by omega) (i + 1) rfl (by omega) (fun x hx hq => ?_)
            rcases (show x < i ∨ x = i by omega) with q | rfl
            · exact hn x q hq
            · first | exact ⟨by omega, by omega⟩ | (exfalso; omega)
          · refine cz_iload (pc' := 121) (g_d dtbX11_kindsOf_1 11 rfl) rfl rfl ?_
            refine nz_if_eq_f (pc' := 124) (g_d dtbX11_kindsOf_1 12 rfl) (by omega) (by decide) rfl (by omega) ?_
            refine nz_iconst (pc' := 125) (g_d dtbX11_kindsOf_1 13 rfl) rfl ?_
            refine cz_goto (pc' := 129) (g_d dtbX11_kindsOf_1 14 rfl) rfl ?_
            refine cz_istore (L' := [some (.ref 34), some (iv ((b : Int))), some (iv (se)), some (iv ((κ : Int))), some (iv 1), some (iv ((i : Int))), some (iv (29 + (5 * ((i : Int))))), some (iv 1)]) (pc' := 131) (g_d dtbX11_kindsOf_1 16 rfl) (by decide) rfl rfl ?_
            refine nz_iinc (L' := [some (.ref 34), some (iv ((b : Int))), some (iv (se)), some (iv ((κ : Int))), some (iv 1), some (iv (((i : Int)) + 1)), some (iv (29 + (5 * ((i : Int))))), some (iv 1)]) (pc' := 134) (g_d dtbX11_kindsOf_1 17 rfl) (by decide) rfl rfl rfl ?_
            refine cz_goto (pc' := 16) (g_d dtbX11_kindsOf_1 18 rfl) rfl ?_
            refine cz_le [some (.ref 34), some (iv ((b : Int))), some (iv (se)), some (iv ((κ : Int))), some (iv 1), some (iv (((i : Int)) + 1)), none, none] ⟨rfl, rfl, rfl, rfl, rfl, rfl, trivial⟩ ?_
            refine ih ((f 28).toNat - (i + 1)) (by omega) (i + 1) rfl (by omega) (fun x hx hq => ?_)
            rcases (show x < i ∨ x = i by omega) with q | rfl
            · exact hn x q hq
            · first | exact ⟨by omega, by omega⟩ | (exfalso; omega)

set_option maxRecDepth 20000 in
set_option maxHeartbeats 4000000 in
theorem k_kindsOf (G : Wd) (Z : ZS) (f : Row) (B : Int) (hR : RO B f) (b : Nat) (hb : b < 7) (hpo : 0 ≤ f (21 + b) ∧ f (21 + b) ≤ 99) (hto : 1 ≤ f (14 + b) ∧ f (14 + b) ≤ 28) : ∀ (d : Nat) (κ : Nat), 6 - κ = d → (κ ≤ 6) → Cn G mX11_kindsOf 4 [some (.ref 34), some (iv ((b : Int))), some (iv ((kset f b κ : Int))), some (iv ((κ : Int))), none, none, none, none] [] (zr Z 35 f) (qi (fun r W => (kset f b 6 : Int) = r ∧ zr Z 35 f = W)) := by
  intro d
  induction d using Nat.strongRecOn with
  | ind d ih =>
    intro κ hd hκ
    have h28 := hR.2.2.2.1
    refine cz_iload_n (pc' := 5) (g_d dtbX11_kindsOf_0 4 rfl) rfl rfl ?_
    refine nz_bipush (pc' := 7) (g_d dtbX11_kindsOf_0 5 rfl) (by decide) rfl ?_
    refine nz_icmp_ge (tgt := 158) (pc' := 10) (g_d dtbX11_kindsOf_0 6 rfl) (by omega) (by omega) rfl rfl (fun h7 => ?_) (fun h7 => ?_)
    · refine cz_iload_n (pc' := 159) (g_d dtbX11_kindsOf_1 31 rfl) rfl rfl ?_
      refine nz_ri .int (g_d dtbX11_kindsOf_1 32 rfl) rfl rfl ?_
      rw [show κ = 6 by omega]; exact ⟨rfl, rfl⟩
    · have h7 : κ < 6 := by omega
      refine nz_iconst (pc' := 11) (g_d dtbX11_kindsOf_0 7 rfl) rfl ?_
      refine cz_istore (L' := [some (.ref 34), some (iv ((b : Int))), some (iv ((kset f b κ : Int))), some (iv ((κ : Int))), some (iv 1), none, none, none]) (pc' := 13) (g_d dtbX11_kindsOf_0 8 rfl) (by decide) rfl rfl ?_
      refine nz_iconst (pc' := 14) (g_d dtbX11_kindsOf_0 9 rfl) rfl ?_
      refine cz_istore (L' := [some (.ref 34), some (iv ((b : Int))), some (iv ((kset f b κ : Int))), some (iv ((κ : Int))), some (iv 1), some (iv 0), none, none]) (pc' := 16) (g_d dtbX11_kindsOf_0 10 rfl) (by decide) rfl rfl ?_
      refine k_fit1 G Z f B hR b hb hpo hto _ _ κ h7 (fun hft => ?_) (fun hft => ?_) ((f 28).toNat - 0) 0 rfl (by omega) (fun x hx => absurd hx (Nat.not_lt_zero x))
      · refine cz_iload_n (pc' := 138) (g_d dtbX11_kindsOf_1 19 rfl) rfl rfl ?_
        refine cz_iload (pc' := 140) (g_d dtbX11_kindsOf_1 20 rfl) rfl rfl ?_
        refine nz_if_eq_f (pc' := 143) (g_d dtbX11_kindsOf_1 21 rfl) (by omega) (by decide) rfl (by omega) ?_
        refine nz_iconst (pc' := 144) (g_d dtbX11_kindsOf_1 22 rfl) rfl ?_
        refine cz_iload_n (pc' := 145) (g_d dtbX11_kindsOf_1 23 rfl) rfl rfl ?_
        refine nz_shl1 (pc' := 146) (g_d dtbX11_kindsOf_1 24 rfl) (by omega) rfl ?_
        refine cz_goto (pc' := 150) (g_d dtbX11_kindsOf_1 25 rfl) rfl ?_
        refine nz_orp (pc' := 151) (g_d dtbX11_kindsOf_1 27 rfl) ⟨by omega, kset_lt κ⟩ rfl ?_
        refine cz_istore_n (L' := [some (.ref 34), some (iv ((b : Int))), some (iv (((kset f b κ + 2 ^ κ : Nat) : Int))), some (iv ((κ : Int))), some (iv 1), some (iv (f 28)), none, none]) (pc' := 152) (g_d dtbX11_kindsOf_1 28 rfl) (by decide) rfl rfl ?_
        refine nz_iinc (L' := [some (.ref 34), some (iv ((b : Int))), some (iv (((kset f b κ + 2 ^ κ : Nat) : Int))), some (iv (((κ : Int)) + 1)), some (iv 1), some (iv (f 28)), none, none]) (pc' := 155) (g_d dtbX11_kindsOf_1 29 rfl) (by decide) rfl rfl rfl ?_
        refine cz_goto (pc' := 4) (g_d dtbX11_kindsOf_1 30 rfl) rfl ?_
        refine cz_le [some (.ref 34), some (iv ((b : Int))), some (iv (((kset f b κ + 2 ^ κ : Nat) : Int))), some (iv (((κ : Int)) + 1)), none, none, none, none] ⟨rfl, rfl, rfl, rfl, trivial⟩ ?_
        have q := ih (6 - (κ + 1)) (by omega) (κ + 1) rfl (by omega)
        rw [kset_y hft] at q
        exact q
      · refine cz_iload_n (pc' := 138) (g_d dtbX11_kindsOf_1 19 rfl) rfl rfl ?_
        refine cz_iload (pc' := 140) (g_d dtbX11_kindsOf_1 20 rfl) rfl rfl ?_
        refine nz_if_eq_t (tgt := 149) (g_d dtbX11_kindsOf_1 21 rfl) (by omega) rfl (by omega) ?_
        refine nz_iconst (pc' := 150) (g_d dtbX11_kindsOf_1 26 rfl) rfl ?_
        refine nz_or0 (pc' := 151) (g_d dtbX11_kindsOf_1 27 rfl) trivial rfl ?_
        refine cz_istore_n (L' := [some (.ref 34), some (iv ((b : Int))), some (iv ((kset f b κ : Int))), some (iv ((κ : Int))), some (iv 0), some (iv (f 28)), none, none]) (pc' := 152) (g_d dtbX11_kindsOf_1 28 rfl) (by decide) rfl rfl ?_
        refine nz_iinc (L' := [some (.ref 34), some (iv ((b : Int))), some (iv ((kset f b κ : Int))), some (iv (((κ : Int)) + 1)), some (iv 0), some (iv (f 28)), none, none]) (pc' := 155) (g_d dtbX11_kindsOf_1 29 rfl) (by decide) rfl rfl rfl ?_
        refine cz_goto (pc' := 4) (g_d dtbX11_kindsOf_1 30 rfl) rfl ?_
        refine cz_le [some (.ref 34), some (iv ((b : Int))), some (iv ((kset f b κ : Int))), some (iv (((κ : Int)) + 1)), none, none, none, none] ⟨rfl, rfl, rfl, rfl, trivial⟩ ?_
        have q := ih (6 - (κ + 1)) (by omega) (κ + 1) rfl (by omega)
        rw [kset_n hft] at q
        exact q

set_option maxRecDepth 20000 in
set_option maxHeartbeats 4000000 in
theorem m_kindsOf (G : Wd) (Z : ZS) (f : Row) (B : Int) (hR : RO B f) (b : Nat) (hb : b < 7) (hpo : 0 ≤ f (21 + b) ∧ f (21 + b) ≤ 99) (hto : 1 ≤ f (14 + b) ∧ f (14 + b) ≤ 28) : Cn G mX11_kindsOf 0 [some (.ref 34), some (iv ((b : Int))), none, none, none, none, none, none] [] (zr Z 35 f) (qi (fun r W => (kset f b 6 : Int) = r ∧ zr Z 35 f = W)) := by
  refine nz_iconst (pc' := 1) (g_d dtbX11_kindsOf_0 0 rfl) rfl ?_
  refine cz_istore_n (L' := [some (.ref 34), some (iv ((b : Int))), some (iv 0), none, none, none, none, none]) (pc' := 2) (g_d dtbX11_kindsOf_0 1 rfl) (by decide) rfl rfl ?_
  refine nz_iconst (pc' := 3) (g_d dtbX11_kindsOf_0 2 rfl) rfl ?_
  refine cz_istore_n (L' := [some (.ref 34), some (iv ((b : Int))), some (iv 0), some (iv 0), none, none, none, none]) (pc' := 4) (g_d dtbX11_kindsOf_0 3 rfl) (by decide) rfl rfl ?_
  exact k_kindsOf G Z f B hR b hb hpo hto (6 - 0) 0 rfl (by omega)

set_option maxRecDepth 20000 in
set_option maxHeartbeats 4000000 in
theorem b_is (G : Wd) (Z : ZS) (A : AS) (B : Int) (hM : MS Z A) (hA : AO B A) (b : Int) (hb : -2147483648 ≤ b ∧ b ≤ 2147483647) : Cn G mX11_is 0 [some (.ref 34), some (iv (b))] [] Z (qi (fun r W => (xIs A b).1 = r ∧ MS W (xIs A b).2 ∧ FC Z W)) := by
  have hb0 := hA.1
  have hO := hA.2.1
  have h6 : 0 ≤ A.1 6 ∧ A.1 6 ≤ 7 := hO.2.1
  have h28 : 0 ≤ A.1 28 ∧ A.1 28 ≤ 6 := hO.2.2.2.1
  have h59 : 0 ≤ A.1 59 ∧ A.1 59 ≤ 8 := hO.2.2.2.2.2.1
  have hf := hO.1
  unfold FO at hf
  have hct := hA.2.2.2.2.2.2
  refine nz_st (zr_self hM.1) ?_
  refine cz_aload_n (pc' := 1) (g_d dtbX11_is_0 0 rfl) rfl rfl ?_
  refine cz_iload_n (pc' := 2) (g_d dtbX11_is_0 1 rfl) rfl rfl ?_
  refine nz_cVi (M' := mX11_isBill) (k := 34) (As := [iv (b)]) (S := []) (L := [some (.ref 34), some (iv (b))]) (pc' := 5) (g_d dtbX11_is_0 2 rfl) lk_X11_139 okX11_isBill (by decide) rfl rfl rfl rfl (Nat.le_of_ble_eq_true rfl) (Nat.le_of_ble_eq_true rfl) (by decide) rfl (m_isBill G Z A.1 b (by omega) (by omega)) ?_
  rintro _ _ ⟨rfl, ⟨rfl, hw2⟩ | ⟨rfl, hw2⟩⟩
  · refine nz_if_eq_f (pc' := 8) (g_d dtbX11_is_0 3 rfl) (by omega) (by decide) rfl (by omega) ?_
    obtain ⟨n, rfl⟩ : ∃ n : Nat, b = (n : Int) := ⟨b.toNat, by omega⟩
    have hn7 : n < 7 := by omega
    have hbo := hO.2.2.1 n hn7 (by omega)
    unfold BO at hbo
    have hdI := dayB_in (κ := A.1 (7 + n)) (d := A.1 (14 + n)) (by omega)
    have hpI := pndB_in (κ := A.1 (7 + n)) (p := A.1 (21 + n)) (m := A.1 4) (by omega)
    refine cz_aload_n (pc' := 9) (g_d dtbX11_is_0 4 rfl) rfl rfl ?_
    refine cz_iload_n (pc' := 10) (g_d dtbX11_is_0 5 rfl) rfl rfl ?_
    refine nz_cVi (M' := mX11_kindsOf) (k := 34) (As := [iv ((n : Int))]) (S := []) (L := [some (.ref 34), some (iv ((n : Int)))]) (pc' := 13) (g_d dtbX11_is_0 6 rfl) lk_X11_156 okX11_kindsOf (by decide) rfl rfl rfl rfl (Nat.le_of_ble_eq_true rfl) (Nat.le_of_ble_eq_true rfl) (by decide) rfl (m_kindsOf G Z A.1 B hO n hn7 (by omega) (by omega)) ?_
    rintro _ _ ⟨rfl, rfl⟩
    have hk64 := kset_lt (f := A.1) (b := n) 6
    have e64 : (2 : Nat) ^ 6 = 64 := by decide
    rw [e64] at hk64
    refine cz_goto (pc' := 20) (g_d dtbX11_is_0 7 rfl) rfl ?_
    refine nz_ri .int (g_d dtbX11_is_0 10 rfl) rfl rfl ?_
    rw [show xIs A (n : Int) = ((kset A.1 n 6 : Int), A) from if_pos (by omega)]
    exact ⟨rfl, hM.row, (FC.r FC.rf (by decide))⟩
  · refine nz_if_eq_t (tgt := 16) (g_d dtbX11_is_0 3 rfl) (by omega) rfl (by omega) ?_
    refine cz_aload_n (pc' := 17) (g_d dtbX11_is_0 8 rfl) rfl rfl ?_
    refine nz_cVi (M' := mX11_bad) (k := 34) (As := []) (S := []) (L := [some (.ref 34), some (iv (b))]) (pc' := 20) (g_d dtbX11_is_0 9 rfl) lk_X11_44 okX11_bad (by decide) rfl rfl rfl rfl (Nat.le_of_ble_eq_true rfl) (Nat.le_of_ble_eq_true rfl) (by decide) rfl (m_bad G (zr Z 35 A.1)) ?_
    rintro _ _ ⟨rfl, rfl⟩
    refine nz_ri .int (g_d dtbX11_is_0 10 rfl) rfl rfl ?_
    rw [show xIs A b = (-2, aBad A) from if_neg (by omega)]
    exact ⟨rfl, ms_bad hM.row, (FC.u (FC.r FC.rf (by decide)) (by decide))⟩

set_option maxRecDepth 20000 in
set_option maxHeartbeats 4000000 in
theorem k_alikeBy (G : Wd) (Z : ZS) (f : Row) (B : Int) (hR : RO B f) (b : Nat) (hb : b < 7) (hpo : 0 ≤ f (21 + b) ∧ f (21 + b) ≤ 99) (hto : 1 ≤ f (14 + b) ∧ f (14 + b) ≤ 28) (s : Nat) (hs : s < 64) (κ : Nat) (hκ : κ < 6) (mo : Int) (hmo : 0 ≤ mo ∧ mo ≤ 100) : ∀ (d : Nat) (i : Nat), 6 - i = d → (i ≤ 6) → Cn G mX11_alikeBy 6 [some (.ref 34), some (iv ((s : Int))), some (iv ((b : Int))), some (iv ((κ : Int))), some (iv (mo)), some (iv (alS f s b (κ : Int) mo i)), some (iv ((i : Int))), none] [] (zr Z 35 f) (qi (fun r W => alS f s b (κ : Int) mo 6 = r ∧ zr Z 35 f = W)) := by
  intro d
  induction d using Nat.strongRecOn with
  | ind d ih =>
    intro i hd hi
    refine cz_iload (pc' := 8) (g_d dtbX11_alikeBy_0 4 rfl) rfl rfl ?_
    refine nz_bipush (pc' := 10) (g_d dtbX11_alikeBy_0 5 rfl) (by decide) rfl ?_
    refine nz_icmp_ge (tgt := 115) (pc' := 13) (g_d dtbX11_alikeBy_0 6 rfl) (by omega) (by omega) rfl rfl (fun h10 => ?_) (fun h10 => ?_)
    · refine cz_iload (pc' := 117) (g_d dtbX11_alikeBy_1 4 rfl) rfl rfl ?_
      refine nz_ri .int (g_d dtbX11_alikeBy_1 5 rfl) rfl rfl ?_
      rw [show i = 6 by omega]; exact ⟨rfl, rfl⟩
    · have hi6 : i < 6 := by omega
      have hd1 := dayB_in (κ := (i : Int)) (d := f (14 + b)) (by omega)
      have hd2 := dayB_in (κ := (κ : Int)) (d := f (14 + b)) (by omega)
      have hp1 := pndB_in (κ := (i : Int)) (p := f (21 + b)) (m := mo) (by omega)
      have hp2 := pndB_in (κ := (κ : Int)) (p := f (21 + b)) (m := mo) (by omega)
      have hal := alS_in (f := f) (s := s) (b := b) (κ := (κ : Int)) (mo := mo) i
      refine cz_iload (pc' := 15) (g_d dtbX11_alikeBy_0 7 rfl) rfl rfl ?_
      refine cz_aload_n (pc' := 16) (g_d dtbX11_alikeBy_0 8 rfl) rfl rfl ?_
      refine nz_getf (v := .ref 35) (pc' := 19) (g_d dtbX11_alikeBy_0 9 rfl) gf_X11_7 (by decide) rfl rfl rfl ?_
      refine nz_bipush (pc' := 21) (g_d dtbX11_alikeBy_0 10 rfl) (by decide) rfl ?_
      refine cz_iload_n (pc' := 22) (g_d dtbX11_alikeBy_0 11 rfl) rfl rfl ?_
      refine nz_iadd (pc' := 23) (g_d dtbX11_alikeBy_0 12 rfl) rfl ?_
      refine nz_iald (14 + b) (pc' := 24) (g_d dtbX11_alikeBy_0 13 rfl) (by decide) rfl (by omega) (by push_cast; omega) (by omega) rfl ?_
      rw [show (zr Z 35 f) 35 (14 + b) = f (14 + b) from by simp [zu, zr, ru]]
      refine nz_cSi (M' := mX11_dayBy) (As := [iv ((i : Int)), iv (f (14 + b))]) (S := []) (L := [some (.ref 34), some (iv ((s : Int))), some (iv ((b : Int))), some (iv ((κ : Int))), some (iv (mo)), some (iv (alS f s b (κ : Int) mo i)), some (iv ((i : Int))), none]) (pc' := 27) (g_d dtbX11_alikeBy_0 14 rfl) lk_X11_121 okX11_dayBy rfl rfl (Nat.le_of_ble_eq_true rfl) (Nat.le_of_ble_eq_true rfl) (by decide) rfl (m_dayBy G (zr Z 35 f) ((i : Int)) (f (14 + b)) (by omega) (by omega)) ?_
      rintro _ _ ⟨rfl, rfl⟩
      refine cz_iload_n (pc' := 28) (g_d dtbX11_alikeBy_0 15 rfl) rfl rfl ?_
      refine cz_aload_n (pc' := 29) (g_d dtbX11_alikeBy_0 16 rfl) rfl rfl ?_
      refine nz_getf (v := .ref 35) (pc' := 32) (g_d dtbX11_alikeBy_0 17 rfl) gf_X11_7 (by decide) rfl rfl rfl ?_
      refine nz_bipush (pc' := 34) (g_d dtbX11_alikeBy_0 18 rfl) (by decide) rfl ?_
      refine cz_iload_n (pc' := 35) (g_d dtbX11_alikeBy_0 19 rfl) rfl rfl ?_
      refine nz_iadd (pc' := 36) (g_d dtbX11_alikeBy_0 20 rfl) rfl ?_
      refine nz_iald (14 + b) (pc' := 37) (g_d dtbX11_alikeBy_0 21 rfl) (by decide) rfl (by omega) (by push_cast; omega) (by omega) rfl ?_
      rw [show (zr Z 35 f) 35 (14 + b) = f (14 + b) from by simp [zu, zr, ru]]
      refine nz_cSi (M' := mX11_dayBy) (As := [iv ((κ : Int)), iv (f (14 + b))]) (S := [iv (dayB ((i : Int)) (f (14 + b)))]) (L := [some (.ref 34), some (iv ((s : Int))), some (iv ((b : Int))), some (iv ((κ : Int))), some (iv (mo)), some (iv (alS f s b (κ : Int) mo i)), some (iv ((i : Int))), none]) (pc' := 40) (g_d dtbX11_alikeBy_0 22 rfl) lk_X11_121 okX11_dayBy rfl rfl (Nat.le_of_ble_eq_true rfl) (Nat.le_of_ble_eq_true rfl) (by decide) rfl (m_dayBy G (zr Z 35 f) ((κ : Int)) (f (14 + b)) (by omega) (by omega)) ?_
      rintro _ _ ⟨rfl, rfl⟩
      refine nz_icmp_ne (tgt := 81) (pc' := 43) (g_d dtbX11_alikeBy_0 23 rfl) (by omega) (by omega) rfl rfl (fun h40 => ?_) (fun h40 => ?_)
      · refine nz_iconst (pc' := 82) (g_d dtbX11_alikeBy_0 45 rfl) rfl ?_
        refine cz_istore (L' := [some (.ref 34), some (iv ((s : Int))), some (iv ((b : Int))), some (iv ((κ : Int))), some (iv (mo)), some (iv (alS f s b (κ : Int) mo i)), some (iv ((i : Int))), some (iv 0)]) (pc' := 84) (g_d dtbX11_alikeBy_0 46 rfl) (by decide) rfl rfl ?_
        refine cz_iload (pc' := 86) (g_d dtbX11_alikeBy_0 47 rfl) rfl rfl ?_
        refine cz_iload_n (pc' := 87) (g_d dtbX11_alikeBy_0 48 rfl) rfl rfl ?_
        refine cz_iload (pc' := 89) (g_d dtbX11_alikeBy_0 49 rfl) rfl rfl ?_
        refine nz_shrb (pc' := 90) (g_d dtbX11_alikeBy_0 50 rfl) ⟨hi6, hs⟩ rfl ?_
        refine nz_iconst (pc' := 91) (g_d dtbX11_alikeBy_0 51 rfl) rfl ?_
        refine nz_and1 (pc' := 92) (g_d dtbX11_alikeBy_0 52 rfl) (Nat.lt_of_le_of_lt (Nat.div_le_self _ _) hs) rfl ?_
        refine nz_iconst (pc' := 93) (g_d dtbX11_alikeBy_0 53 rfl) rfl ?_
        refine nz_icmp_ne (tgt := 105) (pc' := 96) (g_d dtbX11_alikeBy_0 54 rfl) (by have := Nat.mod_lt (s / 2 ^ i) (show 0 < 2 by decide); omega) (by have := Nat.mod_lt (s / 2 ^ i) (show 0 < 2 by decide); omega) rfl rfl (fun h93 => ?_) (fun h93 => ?_)
        · refine nz_iconst (pc' := 106) (g_d dtbX11_alikeBy_0 59 rfl) rfl ?_
          refine nz_iadd (pc' := 107) (g_d dtbX11_alikeBy_1 0 rfl) rfl ?_
          refine cz_istore (L' := [some (.ref 34), some (iv ((s : Int))), some (iv ((b : Int))), some (iv ((κ : Int))), some (iv (mo)), some (iv ((alS f s b (κ : Int) mo i) + 0)), some (iv ((i : Int))), some (iv 0)]) (pc' := 109) (g_d dtbX11_alikeBy_1 1 rfl) (by decide) rfl rfl ?_
          refine nz_iinc (L' := [some (.ref 34), some (iv ((s : Int))), some (iv ((b : Int))), some (iv ((κ : Int))), some (iv (mo)), some (iv ((alS f s b (κ : Int) mo i) + 0)), some (iv (((i : Int)) + 1)), some (iv 0)]) (pc' := 112) (g_d dtbX11_alikeBy_1 2 rfl) (by decide) rfl rfl rfl ?_
          refine cz_goto (pc' := 6) (g_d dtbX11_alikeBy_1 3 rfl) rfl ?_
          refine cz_le [some (.ref 34), some (iv ((s : Int))), some (iv ((b : Int))), some (iv ((κ : Int))), some (iv (mo)), some (iv ((alS f s b (κ : Int) mo i) + 0)), some (iv (((i : Int)) + 1)), none] ⟨rfl, rfl, rfl, rfl, rfl, rfl, rfl, trivial⟩ ?_
          have e1 : alS f s b (κ : Int) mo (i + 1) = (alS f s b (κ : Int) mo i) + 0 := by rw [alS, if_neg (by omega)]; omega
          have q := ih (6 - (i + 1)) (by omega) (i + 1) rfl (by omega)
          rw [e1] at q
          exact q
        · refine cz_iload (pc' := 98) (g_d dtbX11_alikeBy_0 55 rfl) rfl rfl ?_
          refine nz_if_eq_t (tgt := 105) (g_d dtbX11_alikeBy_0 56 rfl) (by omega) rfl (by omega) ?_
          refine nz_iconst (pc' := 106) (g_d dtbX11_alikeBy_0 59 rfl) rfl ?_
          refine nz_iadd (pc' := 107) (g_d dtbX11_alikeBy_1 0 rfl) rfl ?_
          refine cz_istore (L' := [some (.ref 34), some (iv ((s : Int))), some (iv ((b : Int))), some (iv ((κ : Int))), some (iv (mo)), some (iv ((alS f s b (κ : Int) mo i) + 0)), some (iv ((i : Int))), some (iv 0)]) (pc' := 109) (g_d dtbX11_alikeBy_1 1 rfl) (by decide) rfl rfl ?_
          refine nz_iinc (L' := [some (.ref 34), some (iv ((s : Int))), some (iv ((b : Int))), some (iv ((κ : Int))), some (iv (mo)), some (iv ((alS f s b (κ : Int) mo i) + 0)), some (iv (((i : Int)) + 1)), some (iv 0)]) (pc' := 112) (g_d dtbX11_alikeBy_1 2 rfl) (by decide) rfl rfl rfl ?_
          refine cz_goto (pc' := 6) (g_d dtbX11_alikeBy_1 3 rfl) rfl ?_
          refine cz_le [some (.ref 34), some (iv ((s : Int))), some (iv ((b : Int))), some (iv ((κ : Int))), some (iv (mo)), some (iv ((alS f s b (κ : Int) mo i) + 0)), some (iv (((i : Int)) + 1)), none] ⟨rfl, rfl, rfl, rfl, rfl, rfl, rfl, trivial⟩ ?_
          have e1 : alS f s b (κ : Int) mo (i + 1) = (alS f s b (κ : Int) mo i) + 0 := by rw [alS, if_neg (by omega)]; omega
          have q := ih (6 - (i + 1)) (by omega) (i + 1) rfl (by omega)
          rw [e1] at q
          exact q
      · refine cz_iload (pc' := 45) (g_d dtbX11_alikeBy_0 24 rfl) rfl rfl ?_
        refine cz_aload_n (pc' := 46) (g_d dtbX11_alikeBy_0 25 rfl) rfl rfl ?_
        refine nz_getf (v := .ref 35) (pc' := 49) (g_d dtbX11_alikeBy_0 26 rfl) gf_X11_7 (by decide) rfl rfl rfl ?_
        refine nz_bipush (pc' := 51) (g_d dtbX11_alikeBy_0 27 rfl) (by decide) rfl ?_
        refine cz_iload_n (pc' := 52) (g_d dtbX11_alikeBy_0 28 rfl) rfl rfl ?_
        refine nz_iadd (pc' := 53) (g_d dtbX11_alikeBy_0 29 rfl) rfl ?_
        refine nz_iald (21 + b) (pc' := 54) (g_d dtbX11_alikeBy_0 30 rfl) (by decide) rfl (by omega) (by push_cast; omega) (by omega) rfl ?_
        rw [show (zr Z 35 f) 35 (21 + b) = f (21 + b) from by simp [zu, zr, ru]]
        refine cz_iload (pc' := 56) (g_d dtbX11_alikeBy_0 31 rfl) rfl rfl ?_
        refine nz_cSi (M' := mX11_poundsBy) (As := [iv ((i : Int)), iv (f (21 + b)), iv (mo)]) (S := []) (L := [some (.ref 34), some (iv ((s : Int))), some (iv ((b : Int))), some (iv ((κ : Int))), some (iv (mo)), some (iv (alS f s b (κ : Int) mo i)), some (iv ((i : Int))), none]) (pc' := 59) (g_d dtbX11_alikeBy_0 32 rfl) lk_X11_117 okX11_poundsBy rfl rfl (Nat.le_of_ble_eq_true rfl) (Nat.le_of_ble_eq_true rfl) (by decide) rfl (m_poundsBy G (zr Z 35 f) ((i : Int)) (f (21 + b)) mo (by omega) (by omega) (by omega)) ?_
        rintro _ _ ⟨rfl, rfl⟩
        refine cz_iload_n (pc' := 60) (g_d dtbX11_alikeBy_0 33 rfl) rfl rfl ?_
        refine cz_aload_n (pc' := 61) (g_d dtbX11_alikeBy_0 34 rfl) rfl rfl ?_
        refine nz_getf (v := .ref 35) (pc' := 64) (g_d dtbX11_alikeBy_0 35 rfl) gf_X11_7 (by decide) rfl rfl rfl ?_
        refine nz_bipush (pc' := 66) (g_d dtbX11_alikeBy_0 36 rfl) (by decide) rfl ?_
        refine cz_iload_n (pc' := 67) (g_d dtbX11_alikeBy_0 37 rfl) rfl rfl ?_
        refine nz_iadd (pc' := 68) (g_d dtbX11_alikeBy_0 38 rfl) rfl ?_
        refine nz_iald (21 + b) (pc' := 69) (g_d dtbX11_alikeBy_0 39 rfl) (by decide) rfl (by omega) (by push_cast; omega) (by omega) rfl ?_
        rw [show (zr Z 35 f) 35 (21 + b) = f (21 + b) from by simp [zu, zr, ru]]
        refine cz_iload (pc' := 71) (g_d dtbX11_alikeBy_0 40 rfl) rfl rfl ?_
        refine nz_cSi (M' := mX11_poundsBy) (As := [iv ((κ : Int)), iv (f (21 + b)), iv (mo)]) (S := [iv (pndB ((i : Int)) (f (21 + b)) mo)]) (L := [some (.ref 34), some (iv ((s : Int))), some (iv ((b : Int))), some (iv ((κ : Int))), some (iv (mo)), some (iv (alS f s b (κ : Int) mo i)), some (iv ((i : Int))), none]) (pc' := 74) (g_d dtbX11_alikeBy_0 41 rfl) lk_X11_117 okX11_poundsBy rfl rfl (Nat.le_of_ble_eq_true rfl) (Nat.le_of_ble_eq_true rfl) (by decide) rfl (m_poundsBy G (zr Z 35 f) ((κ : Int)) (f (21 + b)) mo (by omega) (by omega) (by omega)) ?_
        rintro _ _ ⟨rfl, rfl⟩
        refine nz_icmp_ne (tgt := 81) (pc' := 77) (g_d dtbX11_alikeBy_0 42 rfl) (by omega) (by omega) rfl rfl (fun h74 => ?_) (fun h74 => ?_)
        · refine nz_iconst (pc' := 82) (g_d dtbX11_alikeBy_0 45 rfl) rfl ?_
          refine cz_istore (L' := [some (.ref 34), some (iv ((s : Int))), some (iv ((b : Int))), some (iv ((κ : Int))), some (iv (mo)), some (iv (alS f s b (κ : Int) mo i)), some (iv ((i : Int))), some (iv 0)]) (pc' := 84) (g_d dtbX11_alikeBy_0 46 rfl) (by decide) rfl rfl ?_
          refine cz_iload (pc' := 86) (g_d dtbX11_alikeBy_0 47 rfl) rfl rfl ?_
          refine cz_iload_n (pc' := 87) (g_d dtbX11_alikeBy_0 48 rfl) rfl rfl ?_
          refine cz_iload (pc' := 89) (g_d dtbX11_alikeBy_0 49 rfl) rfl rfl ?_
          refine nz_shrb (pc' := 90) (g_d dtbX11_alikeBy_0 50 rfl) ⟨hi6, hs⟩ rfl ?_
          refine nz_iconst (pc' := 91) (g_d dtbX11_alikeBy_0 51 rfl) rfl ?_
          refine nz_and1 (pc' := 92) (g_d dtbX11_alikeBy_0 52 rfl) (Nat.lt_of_le_of_lt (Nat.div_le_self _ _) hs) rfl ?_
          refine nz_iconst (pc' := 93) (g_d dtbX11_alikeBy_0 53 rfl) rfl ?_
          refine nz_icmp_ne (tgt := 105) (pc' := 96) (g_d dtbX11_alikeBy_0 54 rfl) (by have := Nat.mod_lt (s / 2 ^ i) (show 0 < 2 by decide); omega) (by have := Nat.mod_lt (s / 2 ^ i) (show 0 < 2 by decide); omega) rfl rfl (fun h93 => ?_) (fun h93 => ?_)
          · refine nz_iconst (pc' := 106) (g_d dtbX11_alikeBy_0 59 rfl) rfl ?_
            refine nz_iadd (pc' := 107) (g_d dtbX11_alikeBy_1 0 rfl) rfl ?_
            refine cz_istore (L' := [some (.ref 34), some (iv ((s : Int))), some (iv ((b : Int))), some (iv ((κ : Int))), some (iv (mo)), some (iv ((alS f s b (κ : Int) mo i) + 0)), some (iv ((i : Int))), some (iv 0)]) (pc' := 109) (g_d dtbX11_alikeBy_1 1 rfl) (by decide) rfl rfl ?_
            refine nz_iinc (L' := [some (.ref 34), some (iv ((s : Int))), some (iv ((b : Int))), some (iv ((κ : Int))), some (iv (mo)), some (iv ((alS f s b (κ : Int) mo i) + 0)), some (iv (((i : Int)) + 1)), some (iv 0)]) (pc' := 112) (g_d dtbX11_alikeBy_1 2 rfl) (by decide) rfl rfl rfl ?_
            refine cz_goto (pc' := 6) (g_d dtbX11_alikeBy_1 3 rfl) rfl ?_
            refine cz_le [some (.ref 34), some (iv ((s : Int))), some (iv ((b : Int))), some (iv ((κ : Int))), some (iv (mo)), some (iv ((alS f s b (κ : Int) mo i) + 0)), some (iv (((i : Int)) + 1)), none] ⟨rfl, rfl, rfl, rfl, rfl, rfl, rfl, trivial⟩ ?_
            have e1 : alS f s b (κ : Int) mo (i + 1) = (alS f s b (κ : Int) mo i) + 0 := by rw [alS, if_neg (by omega)]; omega
            have q := ih (6 - (i + 1)) (by omega) (i + 1) rfl (by omega)
            rw [e1] at q
            exact q
          · refine cz_iload (pc' := 98) (g_d dtbX11_alikeBy_0 55 rfl) rfl rfl ?_
            refine nz_if_eq_t (tgt := 105) (g_d dtbX11_alikeBy_0 56 rfl) (by omega) rfl (by omega) ?_
            refine nz_iconst (pc' := 106) (g_d dtbX11_alikeBy_0 59 rfl) rfl ?_
            refine nz_iadd (pc' := 107) (g_d dtbX11_alikeBy_1 0 rfl) rfl ?_
            refine cz_istore (L' := [some (.ref 34), some (iv ((s : Int))), some (iv ((b : Int))), some (iv ((κ : Int))), some (iv (mo)), some (iv ((alS f s b (κ : Int) mo i) + 0)), some (iv ((i : Int))), some (iv 0)]) (pc' := 109) (g_d dtbX11_alikeBy_1 1 rfl) (by decide) rfl rfl ?_
            refine nz_iinc (L' := [some (.ref 34), some (iv ((s : Int))), some (iv ((b : Int))), some (iv ((κ : Int))), some (iv (mo)), some (iv ((alS f s b (κ : Int) mo i) + 0)), some (iv (((i : Int)) + 1)), some (iv 0)]) (pc' := 112) (g_d dtbX11_alikeBy_1 2 rfl) (by decide) rfl rfl rfl ?_
            refine cz_goto (pc' := 6) (g_d dtbX11_alikeBy_1 3 rfl) rfl ?_
            refine cz_le [some (.ref 34), some (iv ((s : Int))), some (iv ((b : Int))), some (iv ((κ : Int))), some (iv (mo)), some (iv ((alS f s b (κ : Int) mo i) + 0)), some (iv (((i : Int)) + 1)), none] ⟨rfl, rfl, rfl, rfl, rfl, rfl, rfl, trivial⟩ ?_
            have e1 : alS f s b (κ : Int) mo (i + 1) = (alS f s b (κ : Int) mo i) + 0 := by rw [alS, if_neg (by omega)]; omega
            have q := ih (6 - (i + 1)) (by omega) (i + 1) rfl (by omega)
            rw [e1] at q
            exact q
        · refine nz_iconst (pc' := 78) (g_d dtbX11_alikeBy_0 43 rfl) rfl ?_
          refine cz_goto (pc' := 82) (g_d dtbX11_alikeBy_0 44 rfl) rfl ?_
          refine cz_istore (L' := [some (.ref 34), some (iv ((s : Int))), some (iv ((b : Int))), some (iv ((κ : Int))), some (iv (mo)), some (iv (alS f s b (κ : Int) mo i)), some (iv ((i : Int))), some (iv 1)]) (pc' := 84) (g_d dtbX11_alikeBy_0 46 rfl) (by decide) rfl rfl ?_
          refine cz_iload (pc' := 86) (g_d dtbX11_alikeBy_0 47 rfl) rfl rfl ?_
          refine cz_iload_n (pc' := 87) (g_d dtbX11_alikeBy_0 48 rfl) rfl rfl ?_
          refine cz_iload (pc' := 89) (g_d dtbX11_alikeBy_0 49 rfl) rfl rfl ?_
          refine nz_shrb (pc' := 90) (g_d dtbX11_alikeBy_0 50 rfl) ⟨hi6, hs⟩ rfl ?_
          refine nz_iconst (pc' := 91) (g_d dtbX11_alikeBy_0 51 rfl) rfl ?_
          refine nz_and1 (pc' := 92) (g_d dtbX11_alikeBy_0 52 rfl) (Nat.lt_of_le_of_lt (Nat.div_le_self _ _) hs) rfl ?_
          refine nz_iconst (pc' := 93) (g_d dtbX11_alikeBy_0 53 rfl) rfl ?_
          refine nz_icmp_ne (tgt := 105) (pc' := 96) (g_d dtbX11_alikeBy_0 54 rfl) (by have := Nat.mod_lt (s / 2 ^ i) (show 0 < 2 by decide); omega) (by have := Nat.mod_lt (s / 2 ^ i) (show 0 < 2 by decide); omega) rfl rfl (fun h93 => ?_) (fun h93 => ?_)
          · refine nz_iconst (pc' := 106) (g_d dtbX11_alikeBy_0 59 rfl) rfl ?_
            refine nz_iadd (pc' := 107) (g_d dtbX11_alikeBy_1 0 rfl) rfl ?_
            refine cz_istore (L' := [some (.ref 34), some (iv ((s : Int))), some (iv ((b : Int))), some (iv ((κ : Int))), some (iv (mo)), some (iv ((alS f s b (κ : Int) mo i) + 0)), some (iv ((i : Int))), some (iv 1)]) (pc' := 109) (g_d dtbX11_alikeBy_1 1 rfl) (by decide) rfl rfl ?_
            refine nz_iinc (L' := [some (.ref 34), some (iv ((s : Int))), some (iv ((b : Int))), some (iv ((κ : Int))), some (iv (mo)), some (iv ((alS f s b (κ : Int) mo i) + 0)), some (iv (((i : Int)) + 1)), some (iv 1)]) (pc' := 112) (g_d dtbX11_alikeBy_1 2 rfl) (by decide) rfl rfl rfl ?_
            refine cz_goto (pc' := 6) (g_d dtbX11_alikeBy_1 3 rfl) rfl ?_
            refine cz_le [some (.ref 34), some (iv ((s : Int))), some (iv ((b : Int))), some (iv ((κ : Int))), some (iv (mo)), some (iv ((alS f s b (κ : Int) mo i) + 0)), some (iv (((i : Int)) + 1)), none] ⟨rfl, rfl, rfl, rfl, rfl, rfl, rfl, trivial⟩ ?_
            have e1 : alS f s b (κ : Int) mo (i + 1) = (alS f s b (κ : Int) mo i) + 0 := by rw [alS, if_neg (by omega)]; omega
            have q := ih (6 - (i + 1)) (by omega) (i + 1) rfl (by omega)
            rw [e1] at q
            exact q
          · refine cz_iload (pc' := 98) (g_d dtbX11_alikeBy_0 55 rfl) rfl rfl ?_
            refine nz_if_eq_f (pc' := 101) (g_d dtbX11_alikeBy_0 56 rfl) (by omega) (by decide) rfl (by omega) ?_
            refine nz_iconst (pc' := 102) (g_d dtbX11_alikeBy_0 57 rfl) rfl ?_
            refine cz_goto (pc' := 106) (g_d dtbX11_alikeBy_0 58 rfl) rfl ?_
            refine nz_iadd (pc' := 107) (g_d dtbX11_alikeBy_1 0 rfl) rfl ?_
            refine cz_istore (L' := [some (.ref 34), some (iv ((s : Int))), some (iv ((b : Int))), some (iv ((κ : Int))), some (iv (mo)), some (iv ((alS f s b (κ : Int) mo i) + 1)), some (iv ((i : Int))), some (iv 1)]) (pc' := 109) (g_d dtbX11_alikeBy_1 1 rfl) (by decide) rfl rfl ?_
            refine nz_iinc (L' := [some (.ref 34), some (iv ((s : Int))), some (iv ((b : Int))), some (iv ((κ : Int))), some (iv (mo)), some (iv ((alS f s b (κ : Int) mo i) + 1)), some (iv (((i : Int)) + 1)), some (iv 1)]) (pc' := 112) (g_d dtbX11_alikeBy_1 2 rfl) (by decide) rfl rfl rfl ?_
            refine cz_goto (pc' := 6) (g_d dtbX11_alikeBy_1 3 rfl) rfl ?_
            refine cz_le [some (.ref 34), some (iv ((s : Int))), some (iv ((b : Int))), some (iv ((κ : Int))), some (iv (mo)), some (iv ((alS f s b (κ : Int) mo i) + 1)), some (iv (((i : Int)) + 1)), none] ⟨rfl, rfl, rfl, rfl, rfl, rfl, rfl, trivial⟩ ?_
            have e1 : alS f s b (κ : Int) mo (i + 1) = (alS f s b (κ : Int) mo i) + 1 := by rw [alS, if_pos (by omega)]
            have q := ih (6 - (i + 1)) (by omega) (i + 1) rfl (by omega)
            rw [e1] at q
            exact q

set_option maxRecDepth 20000 in
set_option maxHeartbeats 4000000 in
theorem m_alikeBy (G : Wd) (Z : ZS) (f : Row) (B : Int) (hR : RO B f) (b : Nat) (hb : b < 7) (hpo : 0 ≤ f (21 + b) ∧ f (21 + b) ≤ 99) (hto : 1 ≤ f (14 + b) ∧ f (14 + b) ≤ 28) (s : Nat) (hs : s < 64) (κ : Nat) (hκ : κ < 6) (mo : Int) (hmo : 0 ≤ mo ∧ mo ≤ 100) : Cn G mX11_alikeBy 0 [some (.ref 34), some (iv ((s : Int))), some (iv ((b : Int))), some (iv ((κ : Int))), some (iv (mo)), none, none, none] [] (zr Z 35 f) (qi (fun r W => alS f s b (κ : Int) mo 6 = r ∧ zr Z 35 f = W)) := by
  refine nz_iconst (pc' := 1) (g_d dtbX11_alikeBy_0 0 rfl) rfl ?_
  refine cz_istore (L' := [some (.ref 34), some (iv ((s : Int))), some (iv ((b : Int))), some (iv ((κ : Int))), some (iv (mo)), some (iv 0), none, none]) (pc' := 3) (g_d dtbX11_alikeBy_0 1 rfl) (by decide) rfl rfl ?_
  refine nz_iconst (pc' := 4) (g_d dtbX11_alikeBy_0 2 rfl) rfl ?_
  refine cz_istore (L' := [some (.ref 34), some (iv ((s : Int))), some (iv ((b : Int))), some (iv ((κ : Int))), some (iv (mo)), some (iv 0), some (iv 0), none]) (pc' := 6) (g_d dtbX11_alikeBy_0 3 rfl) (by decide) rfl rfl ?_
  exact k_alikeBy G Z f B hR b hb hpo hto s hs κ hκ mo hmo (6 - 0) 0 rfl (by omega)

set_option maxRecDepth 20000 in
set_option maxHeartbeats 4000000 in
theorem k_moIn (G : Wd) (Z : ZS) (f : Row) (B : Int) (hR : RO B f) (b : Nat) (hb : b < 7) (hpo : 0 ≤ f (21 + b) ∧ f (21 + b) ≤ 99) (hto : 1 ≤ f (14 + b) ∧ f (14 + b) ≤ 28) (s : Nat) (hs : s < 64) (Q : Option Value → ZS → Prop) (be fe mo : Int) (hmo : 0 ≤ mo ∧ mo ≤ 100) (hK : Cn G mX11_look 100 [some (.ref 34), some (iv (b : Int)), some (iv (s : Int)), some (iv be), some (iv fe), some (iv mo), some (iv (moS f s b mo 6)), none, none] [] (zr Z 35 f) Q) : ∀ (d : Nat) (κ : Nat), 6 - κ = d → (κ ≤ 6) → Cn G mX11_look 45 [some (.ref 34), some (iv ((b : Int))), some (iv ((s : Int))), some (iv (be)), some (iv (fe)), some (iv (mo)), some (iv (moS f s b mo κ)), some (iv ((κ : Int))), none] [] (zr Z 35 f) (Q) := by
  intro d
  induction d using Nat.strongRecOn with
  | ind d ih =>
    intro κ hd hi
    refine cz_iload (pc' := 47) (g_d dtbX11_look_0 26 rfl) rfl rfl ?_
    refine nz_bipush (pc' := 49) (g_d dtbX11_look_0 27 rfl) (by decide) rfl ?_
    refine nz_icmp_ge (tgt := 100) (pc' := 52) (g_d dtbX11_look_0 28 rfl) (by omega) (by omega) rfl rfl (fun h49 => ?_) (fun h49 => ?_)
    · refine cz_le [some (.ref 34), some (iv ((b : Int))), some (iv ((s : Int))), some (iv (be)), some (iv (fe)), some (iv (mo)), some (iv (moS f s b mo κ)), none, none] ⟨rfl, rfl, rfl, rfl, rfl, rfl, rfl, trivial⟩ ?_
      rw [show κ = 6 by omega]
      exact hK
    · have hk6 : κ < 6 := by omega
      have hmi := moS_in (f := f) (s := s) (b := b) (mo := mo) κ
      refine cz_iload_n (pc' := 53) (g_d dtbX11_look_0 29 rfl) rfl rfl ?_
      refine cz_iload (pc' := 55) (g_d dtbX11_look_0 30 rfl) rfl rfl ?_
      refine nz_shrb (pc' := 56) (g_d dtbX11_look_0 31 rfl) ⟨hk6, hs⟩ rfl ?_
      refine nz_iconst (pc' := 57) (g_d dtbX11_look_0 32 rfl) rfl ?_
      refine nz_and1 (pc' := 58) (g_d dtbX11_look_0 33 rfl) (Nat.lt_of_le_of_lt (Nat.div_le_self _ _) hs) rfl ?_
      refine nz_iconst (pc' := 59) (g_d dtbX11_look_0 34 rfl) rfl ?_
      refine nz_icmp_ne (tgt := 75) (pc' := 62) (g_d dtbX11_look_0 35 rfl) (by have := Nat.mod_lt (s / 2 ^ κ) (show 0 < 2 by decide); omega) (by have := Nat.mod_lt (s / 2 ^ κ) (show 0 < 2 by decide); omega) rfl rfl (fun h59 => ?_) (fun h59 => ?_)
      · refine nz_iconst (pc' := 76) (g_d dtbX11_look_0 43 rfl) rfl ?_
        refine cz_istore (L' := [some (.ref 34), some (iv ((b : Int))), some (iv ((s : Int))), some (iv (be)), some (iv (fe)), some (iv (mo)), some (iv (moS f s b mo κ)), some (iv ((κ : Int))), some (iv 0)]) (pc' := 78) (g_d dtbX11_look_0 44 rfl) (by decide) rfl rfl ?_
        refine cz_iload (pc' := 80) (g_d dtbX11_look_0 45 rfl) rfl rfl ?_
        refine cz_iload (pc' := 82) (g_d dtbX11_look_0 46 rfl) rfl rfl ?_
        refine nz_icmp_le (tgt := 90) (pc' := 85) (g_d dtbX11_look_0 47 rfl) (by omega) (by omega) rfl rfl (fun h82 => ?_) (fun h82 => ?_)
        · refine cz_iload (pc' := 92) (g_d dtbX11_look_0 50 rfl) rfl rfl ?_
          refine cz_istore (L' := [some (.ref 34), some (iv ((b : Int))), some (iv ((s : Int))), some (iv (be)), some (iv (fe)), some (iv (mo)), some (iv (moS f s b mo κ)), some (iv ((κ : Int))), some (iv 0)]) (pc' := 94) (g_d dtbX11_look_0 51 rfl) (by decide) rfl rfl ?_
          refine nz_iinc (L' := [some (.ref 34), some (iv ((b : Int))), some (iv ((s : Int))), some (iv (be)), some (iv (fe)), some (iv (mo)), some (iv (moS f s b mo κ)), some (iv (((κ : Int)) + 1)), some (iv 0)]) (pc' := 97) (g_d dtbX11_look_0 52 rfl) (by decide) rfl rfl rfl ?_
          refine cz_goto (pc' := 45) (g_d dtbX11_look_0 53 rfl) rfl ?_
          refine cz_le [some (.ref 34), some (iv ((b : Int))), some (iv ((s : Int))), some (iv (be)), some (iv (fe)), some (iv (mo)), some (iv (moS f s b mo κ)), some (iv (((κ : Int)) + 1)), none] ⟨rfl, rfl, rfl, rfl, rfl, rfl, rfl, rfl, trivial⟩ ?_
          have e1 : moS f s b mo (κ + 1) = moS f s b mo κ := by rw [moS]; split <;> omega
          have q := ih (6 - (κ + 1)) (by omega) (κ + 1) rfl (by omega)
          rw [e1] at q
          exact q
        · refine cz_iload (pc' := 87) (g_d dtbX11_look_0 48 rfl) rfl rfl ?_
          refine cz_goto (pc' := 92) (g_d dtbX11_look_0 49 rfl) rfl ?_
          refine cz_istore (L' := [some (.ref 34), some (iv ((b : Int))), some (iv ((s : Int))), some (iv (be)), some (iv (fe)), some (iv (mo)), some (iv 0), some (iv ((κ : Int))), some (iv 0)]) (pc' := 94) (g_d dtbX11_look_0 51 rfl) (by decide) rfl rfl ?_
          refine nz_iinc (L' := [some (.ref 34), some (iv ((b : Int))), some (iv ((s : Int))), some (iv (be)), some (iv (fe)), some (iv (mo)), some (iv 0), some (iv (((κ : Int)) + 1)), some (iv 0)]) (pc' := 97) (g_d dtbX11_look_0 52 rfl) (by decide) rfl rfl rfl ?_
          refine cz_goto (pc' := 45) (g_d dtbX11_look_0 53 rfl) rfl ?_
          refine cz_le [some (.ref 34), some (iv ((b : Int))), some (iv ((s : Int))), some (iv (be)), some (iv (fe)), some (iv (mo)), some (iv 0), some (iv (((κ : Int)) + 1)), none] ⟨rfl, rfl, rfl, rfl, rfl, rfl, rfl, rfl, trivial⟩ ?_
          have e1 : moS f s b mo (κ + 1) = 0 := by rw [moS]; split <;> omega
          have q := ih (6 - (κ + 1)) (by omega) (κ + 1) rfl (by omega)
          rw [e1] at q
          exact q
      · refine cz_aload_n (pc' := 63) (g_d dtbX11_look_0 36 rfl) rfl rfl ?_
        refine cz_iload_n (pc' := 64) (g_d dtbX11_look_0 37 rfl) rfl rfl ?_
        refine cz_iload_n (pc' := 65) (g_d dtbX11_look_0 38 rfl) rfl rfl ?_
        refine cz_iload (pc' := 67) (g_d dtbX11_look_0 39 rfl) rfl rfl ?_
        refine cz_iload (pc' := 69) (g_d dtbX11_look_0 40 rfl) rfl rfl ?_
        refine nz_cVi (M' := mX11_alikeBy) (k := 34) (As := [iv ((s : Int)), iv ((b : Int)), iv ((κ : Int)), iv (mo)]) (S := []) (L := [some (.ref 34), some (iv ((b : Int))), some (iv ((s : Int))), some (iv (be)), some (iv (fe)), some (iv (mo)), some (iv (moS f s b mo κ)), some (iv ((κ : Int))), none]) (pc' := 72) (g_d dtbX11_look_0 41 rfl) lk_X11_159 okX11_alikeBy (by decide) rfl rfl rfl rfl (Nat.le_of_ble_eq_true rfl) (Nat.le_of_ble_eq_true rfl) (by decide) rfl (m_alikeBy G Z f B hR b hb hpo hto s hs κ hk6 mo hmo) ?_
        rintro _ _ ⟨rfl, rfl⟩
        have hal := alS_in (f := f) (s := s) (b := b) (κ := (κ : Int)) (mo := mo) 6
        refine cz_goto (pc' := 76) (g_d dtbX11_look_0 42 rfl) rfl ?_
        refine cz_istore (L' := [some (.ref 34), some (iv ((b : Int))), some (iv ((s : Int))), some (iv (be)), some (iv (fe)), some (iv (mo)), some (iv (moS f s b mo κ)), some (iv ((κ : Int))), some (iv (alS f s b (κ : Int) mo 6))]) (pc' := 78) (g_d dtbX11_look_0 44 rfl) (by decide) rfl rfl ?_
        refine cz_iload (pc' := 80) (g_d dtbX11_look_0 45 rfl) rfl rfl ?_
        refine cz_iload (pc' := 82) (g_d dtbX11_look_0 46 rfl) rfl rfl ?_
        refine nz_icmp_le (tgt := 90) (pc' := 85) (g_d dtbX11_look_0 47 rfl) (by omega) (by omega) rfl rfl (fun h82 => ?_) (fun h82 => ?_)
        · refine cz_iload (pc' := 92) (g_d dtbX11_look_0 50 rfl) rfl rfl ?_
          refine cz_istore (L' := [some (.ref 34), some (iv ((b : Int))), some (iv ((s : Int))), some (iv (be)), some (iv (fe)), some (iv (mo)), some (iv (moS f s b mo κ)), some (iv ((κ : Int))), some (iv (alS f s b (κ : Int) mo 6))]) (pc' := 94) (g_d dtbX11_look_0 51 rfl) (by decide) rfl rfl ?_
          refine nz_iinc (L' := [some (.ref 34), some (iv ((b : Int))), some (iv ((s : Int))), some (iv (be)), some (iv (fe)), some (iv (mo)), some (iv (moS f s b mo κ)), some (iv (((κ : Int)) + 1)), some (iv (alS f s b (κ : Int) mo 6))]) (pc' := 97) (g_d dtbX11_look_0 52 rfl) (by decide) rfl rfl rfl ?_
          refine cz_goto (pc' := 45) (g_d dtbX11_look_0 53 rfl) rfl ?_
          refine cz_le [some (.ref 34), some (iv ((b : Int))), some (iv ((s : Int))), some (iv (be)), some (iv (fe)), some (iv (mo)), some (iv (moS f s b mo κ)), some (iv (((κ : Int)) + 1)), none] ⟨rfl, rfl, rfl, rfl, rfl, rfl, rfl, rfl, trivial⟩ ?_
          have e1 : moS f s b mo (κ + 1) = moS f s b mo κ := by rw [moS]; split <;> omega
          have q := ih (6 - (κ + 1)) (by omega) (κ + 1) rfl (by omega)
          rw [e1] at q
          exact q
        · refine cz_iload (pc' := 87) (g_d dtbX11_look_0 48 rfl) rfl rfl ?_
          refine cz_goto (pc' := 92) (g_d dtbX11_look_0 49 rfl) rfl ?_
          refine cz_istore (L' := [some (.ref 34), some (iv ((b : Int))), some (iv ((s : Int))), some (iv (be)), some (iv (fe)), some (iv (mo)), some (iv (alS f s b (κ : Int) mo 6)), some (iv ((κ : Int))), some (iv (alS f s b (κ : Int) mo 6))]) (pc' := 94) (g_d dtbX11_look_0 51 rfl) (by decide) rfl rfl ?_
          refine nz_iinc (L' := [some (.ref 34), some (iv ((b : Int))), some (iv ((s : Int))), some (iv (be)), some (iv (fe)), some (iv (mo)), some (iv (alS f s b (κ : Int) mo 6)), some (iv (((κ : Int)) + 1)), some (iv (alS f s b (κ : Int) mo 6))]) (pc' := 97) (g_d dtbX11_look_0 52 rfl) (by decide) rfl rfl rfl ?_
          refine cz_goto (pc' := 45) (g_d dtbX11_look_0 53 rfl) rfl ?_
          refine cz_le [some (.ref 34), some (iv ((b : Int))), some (iv ((s : Int))), some (iv (be)), some (iv (fe)), some (iv (mo)), some (iv (alS f s b (κ : Int) mo 6)), some (iv (((κ : Int)) + 1)), none] ⟨rfl, rfl, rfl, rfl, rfl, rfl, rfl, rfl, trivial⟩ ?_
          have e1 : moS f s b mo (κ + 1) = alS f s b (κ : Int) mo 6 := by rw [moS]; split <;> omega
          have q := ih (6 - (κ + 1)) (by omega) (κ + 1) rfl (by omega)
          rw [e1] at q
          exact q

set_option maxRecDepth 20000 in
set_option maxHeartbeats 4000000 in
theorem k_look (G : Wd) (Z : ZS) (f : Row) (B : Int) (hR : RO B f) (b : Nat) (hb : b < 7) (hpo : 0 ≤ f (21 + b) ∧ f (21 + b) ≤ 99) (hto : 1 ≤ f (14 + b) ∧ f (14 + b) ≤ 28) (s : Nat) (hs : s < 64) (hs0 : s ≠ 0) : ∀ (d : Nat) (i : Nat), 13 - i = d → (i ≤ 13) → Cn G mX11_look 28 [some (.ref 34), some (iv ((b : Int))), some (iv ((s : Int))), some (iv ((lkS f s b i).1)), some (iv ((lkS f s b i).2)), some (iv ((i : Int))), none, none, none] [] (zr Z 35 f) (qi (fun r W => (lkS f s b 13).1 = r ∧ zr Z 35 f = W)) := by
  intro d
  induction d using Nat.strongRecOn with
  | ind d ih =>
    intro i hd hi
    have hlk := lkS_in (f := f) (s := s) (b := b) i
    refine cz_iload (pc' := 30) (g_d dtbX11_look_0 17 rfl) rfl rfl ?_
    refine nz_bipush (pc' := 32) (g_d dtbX11_look_0 18 rfl) (by decide) rfl ?_
    refine nz_icmp_gt (tgt := 136) (pc' := 35) (g_d dtbX11_look_0 19 rfl) (by omega) (by omega) rfl rfl (fun h32 => ?_) (fun h32 => ?_)
    · refine cz_iload_n (pc' := 137) (g_d dtbX11_look_1 10 rfl) rfl rfl ?_
      refine nz_ri .int (g_d dtbX11_look_1 11 rfl) rfl rfl ?_
      rw [show i = 13 by omega]; exact ⟨rfl, rfl⟩
    · refine cz_iload_n (pc' := 36) (g_d dtbX11_look_0 20 rfl) rfl rfl ?_
      refine nz_if_eq_f (pc' := 39) (g_d dtbX11_look_0 21 rfl) (by omega) (by decide) rfl (by omega) ?_
      refine nz_iconst (pc' := 40) (g_d dtbX11_look_0 22 rfl) rfl ?_
      refine cz_istore (L' := [some (.ref 34), some (iv ((b : Int))), some (iv ((s : Int))), some (iv ((lkS f s b i).1)), some (iv ((lkS f s b i).2)), some (iv ((i : Int))), some (iv 0), none, none]) (pc' := 42) (g_d dtbX11_look_0 23 rfl) (by decide) rfl rfl ?_
      refine nz_iconst (pc' := 43) (g_d dtbX11_look_0 24 rfl) rfl ?_
      refine cz_istore (L' := [some (.ref 34), some (iv ((b : Int))), some (iv ((s : Int))), some (iv ((lkS f s b i).1)), some (iv ((lkS f s b i).2)), some (iv ((i : Int))), some (iv 0), some (iv 0), none]) (pc' := 45) (g_d dtbX11_look_0 25 rfl) (by decide) rfl rfl ?_
      refine k_moIn G Z f B hR b hb hpo hto s hs _ _ _ _ (by omega) ?_ (6 - 0) 0 rfl (by omega)
      have hmi := moS_in (f := f) (s := s) (b := b) (mo := (i : Int)) 6
      refine cz_iload (pc' := 102) (g_d dtbX11_look_0 54 rfl) rfl rfl ?_
      refine cz_iload (pc' := 104) (g_d dtbX11_look_0 55 rfl) rfl rfl ?_
      refine nz_icmp_ge (tgt := 112) (pc' := 107) (g_d dtbX11_look_0 56 rfl) (by omega) (by omega) rfl rfl (fun h104 => ?_) (fun h104 => ?_)
      · refine cz_iload_n (pc' := 113) (g_d dtbX11_look_0 59 rfl) rfl rfl ?_
        refine cz_istore_n (L' := [some (.ref 34), some (iv ((b : Int))), some (iv ((s : Int))), some (iv ((lkS f s b i).1)), some (iv ((lkS f s b i).2)), some (iv ((i : Int))), some (iv (moS f s b ((i : Int)) 6)), none, none]) (pc' := 114) (g_d dtbX11_look_1 0 rfl) (by decide) rfl rfl ?_
        refine cz_iload (pc' := 116) (g_d dtbX11_look_1 1 rfl) rfl rfl ?_
        refine cz_iload (pc' := 118) (g_d dtbX11_look_1 2 rfl) rfl rfl ?_
        refine nz_icmp_ge_t (tgt := 126) (g_d dtbX11_look_1 3 rfl) (by omega) (by omega) rfl (by omega) ?_
        refine cz_iload (pc' := 128) (g_d dtbX11_look_1 6 rfl) rfl rfl ?_
        refine cz_istore (L' := [some (.ref 34), some (iv ((b : Int))), some (iv ((s : Int))), some (iv ((lkS f s b i).1)), some (iv ((lkS f s b i).2)), some (iv ((i : Int))), some (iv (moS f s b ((i : Int)) 6)), none, none]) (pc' := 130) (g_d dtbX11_look_1 7 rfl) (by decide) rfl rfl ?_
        refine nz_iinc (L' := [some (.ref 34), some (iv ((b : Int))), some (iv ((s : Int))), some (iv ((lkS f s b i).1)), some (iv ((lkS f s b i).2)), some (iv (((i : Int)) + 1)), some (iv (moS f s b ((i : Int)) 6)), none, none]) (pc' := 133) (g_d dtbX11_look_1 8 rfl) (by decide) rfl rfl rfl ?_
        refine cz_goto (pc' := 28) (g_d dtbX11_look_1 9 rfl) rfl ?_
        refine cz_le [some (.ref 34), some (iv ((b : Int))), some (iv ((s : Int))), some (iv ((lkS f s b i).1)), some (iv ((lkS f s b i).2)), some (iv (((i : Int)) + 1)), none, none, none] ⟨rfl, rfl, rfl, rfl, rfl, rfl, trivial⟩ ?_
        have e1 : lkS f s b (i + 1) = lkS f s b i := by rw [lkS, if_neg (by omega)]
        have q := ih (13 - (i + 1)) (by omega) (i + 1) rfl (by omega)
        rw [e1] at q
        exact q
      · refine cz_iload (pc' := 109) (g_d dtbX11_look_0 57 rfl) rfl rfl ?_
        refine cz_goto (pc' := 113) (g_d dtbX11_look_0 58 rfl) rfl ?_
        refine cz_istore_n (L' := [some (.ref 34), some (iv ((b : Int))), some (iv ((s : Int))), some (iv ((i : Int))), some (iv ((lkS f s b i).2)), some (iv ((i : Int))), some (iv (moS f s b ((i : Int)) 6)), none, none]) (pc' := 114) (g_d dtbX11_look_1 0 rfl) (by decide) rfl rfl ?_
        refine cz_iload (pc' := 116) (g_d dtbX11_look_1 1 rfl) rfl rfl ?_
        refine cz_iload (pc' := 118) (g_d dtbX11_look_1 2 rfl) rfl rfl ?_
        refine nz_icmp_ge_f (pc' := 121) (g_d dtbX11_look_1 3 rfl) (by omega) (by omega) (by decide) rfl (by omega) ?_
        refine cz_iload (pc' := 123) (g_d dtbX11_look_1 4 rfl) rfl rfl ?_
        refine cz_goto (pc' := 128) (g_d dtbX11_look_1 5 rfl) rfl ?_
        refine cz_istore (L' := [some (.ref 34), some (iv ((b : Int))), some (iv ((s : Int))), some (iv ((i : Int))), some (iv (moS f s b ((i : Int)) 6)), some (iv ((i : Int))), some (iv (moS f s b ((i : Int)) 6)), none, none]) (pc' := 130) (g_d dtbX11_look_1 7 rfl) (by decide) rfl rfl ?_
        refine nz_iinc (L' := [some (.ref 34), some (iv ((b : Int))), some (iv ((s : Int))), some (iv ((i : Int))), some (iv (moS f s b ((i : Int)) 6)), some (iv (((i : Int)) + 1)), some (iv (moS f s b ((i : Int)) 6)), none, none]) (pc' := 133) (g_d dtbX11_look_1 8 rfl) (by decide) rfl rfl rfl ?_
        refine cz_goto (pc' := 28) (g_d dtbX11_look_1 9 rfl) rfl ?_
        refine cz_le [some (.ref 34), some (iv ((b : Int))), some (iv ((s : Int))), some (iv ((i : Int))), some (iv (moS f s b ((i : Int)) 6)), some (iv (((i : Int)) + 1)), none, none, none] ⟨rfl, rfl, rfl, rfl, rfl, rfl, trivial⟩ ?_
        have e1 : lkS f s b (i + 1) = ((i : Int), moS f s b (i : Int) 6) := by rw [lkS, if_pos (by omega)]
        have q := ih (13 - (i + 1)) (by omega) (i + 1) rfl (by omega)
        rw [e1] at q
        exact q

set_option maxRecDepth 20000 in
set_option maxHeartbeats 4000000 in
theorem k_look0 (G : Wd) (Z : ZS) (f : Row) (B : Int) (hR : RO B f) (b : Nat) (hb : b < 7) (hpo : 0 ≤ f (21 + b) ∧ f (21 + b) ≤ 99) (hto : 1 ≤ f (14 + b) ∧ f (14 + b) ≤ 28) (s : Nat) (hs : s < 64) (hs0 : s ≠ 0) : Cn G mX11_look 28 [some (.ref 34), some (iv ((b : Int))), some (iv ((s : Int))), some (iv (-1)), some (iv 99), some (iv 0), none, none, none] [] (zr Z 35 f) (qi (fun r W => (lkS f s b 13).1 = r ∧ zr Z 35 f = W)) := by
  refine cz_iload (pc' := 30) (g_d dtbX11_look_0 17 rfl) rfl rfl ?_
  refine nz_bipush (pc' := 32) (g_d dtbX11_look_0 18 rfl) (by decide) rfl ?_
  refine nz_icmp_gt_f (pc' := 35) (g_d dtbX11_look_0 19 rfl) (by omega) (by omega) (by decide) rfl (by omega) ?_
  refine cz_iload_n (pc' := 36) (g_d dtbX11_look_0 20 rfl) rfl rfl ?_
  refine nz_if_eq_f (pc' := 39) (g_d dtbX11_look_0 21 rfl) (by omega) (by decide) rfl (by omega) ?_
  refine nz_iconst (pc' := 40) (g_d dtbX11_look_0 22 rfl) rfl ?_
  refine cz_istore (L' := [some (.ref 34), some (iv ((b : Int))), some (iv ((s : Int))), some (iv (-1)), some (iv 99), some (iv 0), some (iv 0), none, none]) (pc' := 42) (g_d dtbX11_look_0 23 rfl) (by decide) rfl rfl ?_
  refine nz_iconst (pc' := 43) (g_d dtbX11_look_0 24 rfl) rfl ?_
  refine cz_istore (L' := [some (.ref 34), some (iv ((b : Int))), some (iv ((s : Int))), some (iv (-1)), some (iv 99), some (iv 0), some (iv 0), some (iv 0), none]) (pc' := 45) (g_d dtbX11_look_0 25 rfl) (by decide) rfl rfl ?_
  refine k_moIn G Z f B hR b hb hpo hto s hs _ _ _ _ (by omega) ?_ (6 - 0) 0 rfl (by omega)
  have hmi := moS_in (f := f) (s := s) (b := b) (mo := 0) 6
  refine cz_iload (pc' := 102) (g_d dtbX11_look_0 54 rfl) rfl rfl ?_
  refine cz_iload (pc' := 104) (g_d dtbX11_look_0 55 rfl) rfl rfl ?_
  refine nz_icmp_ge_f (pc' := 107) (g_d dtbX11_look_0 56 rfl) (by omega) (by omega) (by decide) rfl (by omega) ?_
  refine cz_iload (pc' := 109) (g_d dtbX11_look_0 57 rfl) rfl rfl ?_
  refine cz_goto (pc' := 113) (g_d dtbX11_look_0 58 rfl) rfl ?_
  refine cz_istore_n (L' := [some (.ref 34), some (iv ((b : Int))), some (iv ((s : Int))), some (iv 0), some (iv 99), some (iv 0), some (iv (moS f s b 0 6)), none, none]) (pc' := 114) (g_d dtbX11_look_1 0 rfl) (by decide) rfl rfl ?_
  refine cz_iload (pc' := 116) (g_d dtbX11_look_1 1 rfl) rfl rfl ?_
  refine cz_iload (pc' := 118) (g_d dtbX11_look_1 2 rfl) rfl rfl ?_
  refine nz_icmp_ge_f (pc' := 121) (g_d dtbX11_look_1 3 rfl) (by omega) (by omega) (by decide) rfl (by omega) ?_
  refine cz_iload (pc' := 123) (g_d dtbX11_look_1 4 rfl) rfl rfl ?_
  refine cz_goto (pc' := 128) (g_d dtbX11_look_1 5 rfl) rfl ?_
  refine cz_istore (L' := [some (.ref 34), some (iv ((b : Int))), some (iv ((s : Int))), some (iv 0), some (iv (moS f s b 0 6)), some (iv 0), some (iv (moS f s b 0 6)), none, none]) (pc' := 130) (g_d dtbX11_look_1 7 rfl) (by decide) rfl rfl ?_
  refine nz_iinc (L' := [some (.ref 34), some (iv ((b : Int))), some (iv ((s : Int))), some (iv 0), some (iv (moS f s b 0 6)), some (iv (0 + 1)), some (iv (moS f s b 0 6)), none, none]) (pc' := 133) (g_d dtbX11_look_1 8 rfl) (by decide) rfl rfl rfl ?_
  refine cz_goto (pc' := 28) (g_d dtbX11_look_1 9 rfl) rfl ?_
  refine cz_le [some (.ref 34), some (iv ((b : Int))), some (iv ((s : Int))), some (iv 0), some (iv (moS f s b 0 6)), some (iv (0 + 1)), none, none, none] ⟨rfl, rfl, rfl, rfl, rfl, rfl, trivial⟩ ?_
  have e1 : lkS f s b 1 = (0, moS f s b 0 6) := by rw [lkS, if_pos (by simp only [lkS]; have := moS_in (f := f) (s := s) (b := b) (mo := 0) 6; exact Int.lt_of_le_of_lt this.2 (by decide))]; rfl
  have q := k_look G Z f B hR b hb hpo hto s hs hs0 (13 - 1) 1 rfl (by omega)
  rw [e1] at q
  exact q

set_option maxRecDepth 20000 in
set_option maxHeartbeats 4000000 in
theorem b_look (G : Wd) (Z : ZS) (A : AS) (B : Int) (hM : MS Z A) (hA : AO B A) (b : Int) (hb : -2147483648 ≤ b ∧ b ≤ 2147483647) : Cn G mX11_look 0 [some (.ref 34), some (iv (b)), none, none, none, none, none, none, none] [] Z (qi (fun r W => (xLook A b).1 = r ∧ MS W (xLook A b).2 ∧ FC Z W)) := by
  have hb0 := hA.1
  have hO := hA.2.1
  have h6 : 0 ≤ A.1 6 ∧ A.1 6 ≤ 7 := hO.2.1
  have h28 : 0 ≤ A.1 28 ∧ A.1 28 ≤ 6 := hO.2.2.2.1
  have h59 : 0 ≤ A.1 59 ∧ A.1 59 ≤ 8 := hO.2.2.2.2.2.1
  have hf := hO.1
  unfold FO at hf
  have hct := hA.2.2.2.2.2.2
  refine nz_st (zr_self hM.1) ?_
  refine cz_aload_n (pc' := 1) (g_d dtbX11_look_0 0 rfl) rfl rfl ?_
  refine cz_iload_n (pc' := 2) (g_d dtbX11_look_0 1 rfl) rfl rfl ?_
  refine nz_cVi (M' := mX11_isBill) (k := 34) (As := [iv (b)]) (S := []) (L := [some (.ref 34), some (iv (b)), none, none, none, none, none, none, none]) (pc' := 5) (g_d dtbX11_look_0 2 rfl) lk_X11_139 okX11_isBill (by decide) rfl rfl rfl rfl (Nat.le_of_ble_eq_true rfl) (Nat.le_of_ble_eq_true rfl) (by decide) rfl (m_isBill G Z A.1 b (by omega) (by omega)) ?_
  rintro _ _ ⟨rfl, ⟨rfl, hw2⟩ | ⟨rfl, hw2⟩⟩
  · refine nz_if_ne_t (tgt := 13) (g_d dtbX11_look_0 3 rfl) (by omega) rfl (by omega) ?_
    obtain ⟨n, rfl⟩ : ∃ n : Nat, b = (n : Int) := ⟨b.toNat, by omega⟩
    have hn7 : n < 7 := by omega
    have hbo := hO.2.2.1 n hn7 (by omega)
    unfold BO at hbo
    have hdI := dayB_in (κ := A.1 (7 + n)) (d := A.1 (14 + n)) (by omega)
    have hpI := pndB_in (κ := A.1 (7 + n)) (p := A.1 (21 + n)) (m := A.1 4) (by omega)
    refine cz_aload_n (pc' := 14) (g_d dtbX11_look_0 7 rfl) rfl rfl ?_
    refine cz_iload_n (pc' := 15) (g_d dtbX11_look_0 8 rfl) rfl rfl ?_
    refine nz_cVi (M' := mX11_kindsOf) (k := 34) (As := [iv ((n : Int))]) (S := []) (L := [some (.ref 34), some (iv ((n : Int))), none, none, none, none, none, none, none]) (pc' := 18) (g_d dtbX11_look_0 9 rfl) lk_X11_156 okX11_kindsOf (by decide) rfl rfl rfl rfl (Nat.le_of_ble_eq_true rfl) (Nat.le_of_ble_eq_true rfl) (by decide) rfl (m_kindsOf G Z A.1 B hO n hn7 (by omega) (by omega)) ?_
    rintro _ _ ⟨rfl, rfl⟩
    have hk64 := kset_lt (f := A.1) (b := n) 6
    have e64 : (2 : Nat) ^ 6 = 64 := by decide
    rw [e64] at hk64
    refine cz_istore_n (L' := [some (.ref 34), some (iv ((n : Int))), some (iv ((kset A.1 n 6 : Int))), none, none, none, none, none, none]) (pc' := 19) (g_d dtbX11_look_0 10 rfl) (by decide) rfl rfl ?_
    refine nz_iconst (pc' := 20) (g_d dtbX11_look_0 11 rfl) rfl ?_
    refine cz_istore_n (L' := [some (.ref 34), some (iv ((n : Int))), some (iv ((kset A.1 n 6 : Int))), some (iv (-1)), none, none, none, none, none]) (pc' := 21) (g_d dtbX11_look_0 12 rfl) (by decide) rfl rfl ?_
    refine nz_bipush (pc' := 23) (g_d dtbX11_look_0 13 rfl) (by decide) rfl ?_
    refine cz_istore (L' := [some (.ref 34), some (iv ((n : Int))), some (iv ((kset A.1 n 6 : Int))), some (iv (-1)), some (iv 99), none, none, none, none]) (pc' := 25) (g_d dtbX11_look_0 14 rfl) (by decide) rfl rfl ?_
    refine nz_iconst (pc' := 26) (g_d dtbX11_look_0 15 rfl) rfl ?_
    refine cz_istore (L' := [some (.ref 34), some (iv ((n : Int))), some (iv ((kset A.1 n 6 : Int))), some (iv (-1)), some (iv 99), some (iv 0), none, none, none]) (pc' := 28) (g_d dtbX11_look_0 16 rfl) (by decide) rfl rfl ?_
    by_cases hz : kset A.1 n 6 = 0
    · refine cz_iload (pc' := 30) (g_d dtbX11_look_0 17 rfl) rfl rfl ?_
      refine nz_bipush (pc' := 32) (g_d dtbX11_look_0 18 rfl) (by decide) rfl ?_
      refine nz_icmp_gt_f (pc' := 35) (g_d dtbX11_look_0 19 rfl) (by omega) (by omega) (by decide) rfl (by omega) ?_
      refine cz_iload_n (pc' := 36) (g_d dtbX11_look_0 20 rfl) rfl rfl ?_
      refine nz_if_eq_t (tgt := 136) (g_d dtbX11_look_0 21 rfl) (by omega) rfl (by omega) ?_
      refine cz_iload_n (pc' := 137) (g_d dtbX11_look_1 10 rfl) rfl rfl ?_
      refine nz_ri .int (g_d dtbX11_look_1 11 rfl) rfl rfl ?_
      rw [show xLook A (n : Int) = (-1, A) from by unfold xLook; rw [if_pos (by omega), Int.toNat_natCast, if_pos hz]]
      exact ⟨rfl, hM.row, (FC.r FC.rf (by decide))⟩
    · refine nz_wi (k_look0 G Z A.1 B hO n hn7 (by omega) (by omega) (kset A.1 n 6) hk64 hz) (fun r W h => ?_)
      rw [show xLook A (n : Int) = ((lkS A.1 (kset A.1 n 6) n 13).1, A) from by unfold xLook; rw [if_pos (by omega), Int.toNat_natCast, if_neg hz]]
      exact ⟨h.1, h.2 ▸ hM.row, h.2 ▸ (FC.r FC.rf (by decide))⟩
  · refine nz_if_ne_f (pc' := 8) (g_d dtbX11_look_0 3 rfl) (by omega) (by decide) rfl (by omega) ?_
    refine cz_aload_n (pc' := 9) (g_d dtbX11_look_0 4 rfl) rfl rfl ?_
    refine nz_cVi (M' := mX11_bad) (k := 34) (As := []) (S := []) (L := [some (.ref 34), some (iv (b)), none, none, none, none, none, none, none]) (pc' := 12) (g_d dtbX11_look_0 5 rfl) lk_X11_44 okX11_bad (by decide) rfl rfl rfl rfl (Nat.le_of_ble_eq_true rfl) (Nat.le_of_ble_eq_true rfl) (by decide) rfl (m_bad G (zr Z 35 A.1)) ?_
    rintro _ _ ⟨rfl, rfl⟩
    refine nz_ri .int (g_d dtbX11_look_0 6 rfl) rfl rfl ?_
    rw [show xLook A b = (-2, aBad A) from if_neg (by omega)]
    exact ⟨rfl, ms_bad hM.row, (FC.u (FC.r FC.rf (by decide)) (by decide))⟩

set_option maxRecDepth 20000 in
set_option maxHeartbeats 4000000 in
theorem k_dgN (G : Wd) (Z : ZS) (f : Row) (B : Int) (hR : RO B f) (hBB : B ≤ 60000000) (Q : Option Value → ZS → Prop) (h0 : Int) (hK : Cn G mX11_digest 166 [some (.ref 34), some (il (dgS h0 (ntR f) ((f 28).toNat * 5))), none, some (iv (5 * f 28))] [] (zr Z 35 f) Q) : ∀ (d : Nat) (i : Nat), (f 28).toNat * 5 - i = d → (i ≤ (f 28).toNat * 5) → Cn G mX11_digest 130 [some (.ref 34), some (il (dgS h0 (ntR f) i)), none, some (iv ((i : Int)))] [] (zr Z 35 f) (Q) := by
  intro d
  induction d using Nat.strongRecOn with
  | ind d ih =>
    intro i hd hi
    have h6 := hR.2.1
    have h28 := hR.2.2.2.1
    refine cz_iload_n (pc' := 131) (g_d dtbX11_digest_1 23 rfl) rfl rfl ?_
    refine nz_iconst (pc' := 132) (g_d dtbX11_digest_1 24 rfl) rfl ?_
    refine cz_aload_n (pc' := 133) (g_d dtbX11_digest_1 25 rfl) rfl rfl ?_
    refine nz_getf (v := .ref 35) (pc' := 136) (g_d dtbX11_digest_1 26 rfl) gf_X11_7 (by decide) rfl rfl rfl ?_
    refine nz_bipush (pc' := 138) (g_d dtbX11_digest_1 27 rfl) (by decide) rfl ?_
    refine nz_iald 28 (pc' := 139) (g_d dtbX11_digest_1 28 rfl) (by decide) rfl (by omega) (by rfl) (by omega) rfl ?_
    rw [show (zr Z 35 f) 35 28 = f 28 from by simp [zu, zr, ru]]
    refine nz_imul (pc' := 140) (g_d dtbX11_digest_1 29 rfl) rfl ?_
    refine nz_icmp_ge (tgt := 166) (pc' := 143) (g_d dtbX11_digest_1 30 rfl) (by omega) (by omega) rfl rfl (fun h140 => ?_) (fun h140 => ?_)
    · rw [show (i : Int) = 5 * f 28 by omega, show i = (f 28).toNat * 5 by omega]
      exact hK
    · have hno := no_in hR (i := i / 5) (by omega) (by omega)
      have hni : -2147483648 ≤ f (29 + i) ∧ f (29 + i) ≤ 2147483647 := by
        rcases (show i % 5 = 0 ∨ i % 5 = 1 ∨ i % 5 = 2 ∨ i % 5 = 3 ∨ i % 5 = 4 by omega) with c | c | c | c | c
        · rw [show 29 + i = 29 + 5 * (i / 5) + 0 by omega]; omega
        · rw [show 29 + i = 29 + 5 * (i / 5) + 1 by omega]; omega
        · rw [show 29 + i = 29 + 5 * (i / 5) + 2 by omega]; omega
        · rw [show 29 + i = 29 + 5 * (i / 5) + 3 by omega]; omega
        · rw [show 29 + i = 29 + 5 * (i / 5) + 4 by omega]; omega
      refine nz_ldc2 (pc' := 146) (v := 31) (g_d dtbX11_digest_1 31 rfl) kn_X11_183 rfl ?_
      refine cz_lload_n (pc' := 147) (g_d dtbX11_digest_1 32 rfl) rfl rfl ?_
      refine nz_lmul (pc' := 148) (g_d dtbX11_digest_1 33 rfl) rfl ?_
      refine cz_aload_n (pc' := 149) (g_d dtbX11_digest_1 34 rfl) rfl rfl ?_
      refine nz_getf (v := .ref 35) (pc' := 152) (g_d dtbX11_digest_1 35 rfl) gf_X11_7 (by decide) rfl rfl rfl ?_
      refine nz_bipush (pc' := 154) (g_d dtbX11_digest_1 36 rfl) (by decide) rfl ?_
      refine cz_iload_n (pc' := 155) (g_d dtbX11_digest_1 37 rfl) rfl rfl ?_
      refine nz_iadd (pc' := 156) (g_d dtbX11_digest_1 38 rfl) rfl ?_
      refine nz_iald (29 + i) (pc' := 157) (g_d dtbX11_digest_1 39 rfl) (by decide) rfl (by omega) (by push_cast; omega) (by omega) rfl ?_
      rw [show (zr Z 35 f) 35 (29 + i) = f (29 + i) from by simp [zu, zr, ru]]
      refine nz_i2l (pc' := 158) (g_d dtbX11_digest_1 40 rfl) (by omega) rfl ?_
      refine nz_ladd (pc' := 159) (g_d dtbX11_digest_1 41 rfl) rfl ?_
      refine cz_lstore_n (L' := [some (.ref 34), some (il ((31 * (dgS h0 (ntR f) i)) + (f (29 + i)))), none, some (iv ((i : Int)))]) (pc' := 160) (g_d dtbX11_digest_1 42 rfl) (by decide) rfl rfl ?_
      refine nz_iinc (L' := [some (.ref 34), some (il ((31 * (dgS h0 (ntR f) i)) + (f (29 + i)))), none, some (iv (((i : Int)) + 1))]) (pc' := 163) (g_d dtbX11_digest_1 43 rfl) (by decide) rfl rfl rfl ?_
      refine cz_goto (pc' := 130) (g_d dtbX11_digest_1 44 rfl) rfl ?_
      exact ih ((f 28).toNat * 5 - (i + 1)) (by omega) (i + 1) rfl (by omega)

theorem bl_3 {h : Int} {f : Row} {n : Nat} : dgS h (blR f) ((n + 1) * 3) = 31 * (31 * (31 * dgS h (blR f) (n * 3) + f (7 + n)) + f (14 + n)) + f (21 + n) := by
  rw [show (n + 1) * 3 = n * 3 + 1 + 1 + 1 by omega, dgS, dgS, dgS]
  unfold blR
  rw [show 7 + 7 * (n * 3 % 3) + n * 3 / 3 = 7 + n by omega, show 7 + 7 * ((n * 3 + 1) % 3) + (n * 3 + 1) / 3 = 14 + n by omega, show 7 + 7 * ((n * 3 + 1 + 1) % 3) + (n * 3 + 1 + 1) / 3 = 21 + n by omega]

set_option maxRecDepth 20000 in
set_option maxHeartbeats 4000000 in
theorem k_dgB (G : Wd) (Z : ZS) (f : Row) (B : Int) (hR : RO B f) (hBB : B ≤ 60000000) (Q : Option Value → ZS → Prop) (h0 : Int) (hK : Cn G mX11_digest 128 [some (.ref 34), some (il (dgS h0 (blR f) ((f 6).toNat * 3))), none, some (iv (f 6))] [] (zr Z 35 f) Q) : ∀ (d : Nat) (n : Nat), (f 6).toNat - n = d → ((n : Int) ≤ f 6) → Cn G mX11_digest 60 [some (.ref 34), some (il (dgS h0 (blR f) (n * 3))), none, some (iv ((n : Int)))] [] (zr Z 35 f) (Q) := by
  intro d
  induction d using Nat.strongRecOn with
  | ind d ih =>
    intro n hd hi
    have h6 := hR.2.1
    have h28 := hR.2.2.2.1
    refine cz_iload_n (pc' := 61) (g_d dtbX11_digest_0 37 rfl) rfl rfl ?_
    refine cz_aload_n (pc' := 62) (g_d dtbX11_digest_0 38 rfl) rfl rfl ?_
    refine nz_getf (v := .ref 35) (pc' := 65) (g_d dtbX11_digest_0 39 rfl) gf_X11_7 (by decide) rfl rfl rfl ?_
    refine nz_bipush (pc' := 67) (g_d dtbX11_digest_0 40 rfl) (by decide) rfl ?_
    refine nz_iald 6 (pc' := 68) (g_d dtbX11_digest_0 41 rfl) (by decide) rfl (by omega) (by rfl) (by omega) rfl ?_
    rw [show (zr Z 35 f) 35 6 = f 6 from by simp [zu, zr, ru]]
    refine nz_icmp_ge (tgt := 128) (pc' := 71) (g_d dtbX11_digest_0 42 rfl) (by omega) (by omega) rfl rfl (fun h68 => ?_) (fun h68 => ?_)
    · rw [show (n : Int) = f 6 by omega, show n = (f 6).toNat by omega]
      exact hK
    · have hbo := hR.2.2.1 n (by omega) (by omega)
      unfold BO at hbo
      refine nz_ldc2 (pc' := 74) (v := 31) (g_d dtbX11_digest_0 43 rfl) kn_X11_183 rfl ?_
      refine cz_lload_n (pc' := 75) (g_d dtbX11_digest_0 44 rfl) rfl rfl ?_
      refine nz_lmul (pc' := 76) (g_d dtbX11_digest_0 45 rfl) rfl ?_
      refine cz_aload_n (pc' := 77) (g_d dtbX11_digest_0 46 rfl) rfl rfl ?_
      refine nz_getf (v := .ref 35) (pc' := 80) (g_d dtbX11_digest_0 47 rfl) gf_X11_7 (by decide) rfl rfl rfl ?_
      refine nz_bipush (pc' := 82) (g_d dtbX11_digest_0 48 rfl) (by decide) rfl ?_
      refine cz_iload_n (pc' := 83) (g_d dtbX11_digest_0 49 rfl) rfl rfl ?_
      refine nz_iadd (pc' := 84) (g_d dtbX11_digest_0 50 rfl) rfl ?_
      refine nz_iald (7 + n) (pc' := 85) (g_d dtbX11_digest_0 51 rfl) (by decide) rfl (by omega) (by push_cast; omega) (by omega) rfl ?_
      rw [show (zr Z 35 f) 35 (7 + n) = f (7 + n) from by simp [zu, zr, ru]]
      refine nz_i2l (pc' := 86) (g_d dtbX11_digest_0 52 rfl) (by omega) rfl ?_
      refine nz_ladd (pc' := 87) (g_d dtbX11_digest_0 53 rfl) rfl ?_
      refine cz_lstore_n (L' := [some (.ref 34), some (il ((31 * (dgS h0 (blR f) (n * 3))) + (f (7 + n)))), none, some (iv ((n : Int)))]) (pc' := 88) (g_d dtbX11_digest_0 54 rfl) (by decide) rfl rfl ?_
      refine nz_ldc2 (pc' := 91) (v := 31) (g_d dtbX11_digest_0 55 rfl) kn_X11_183 rfl ?_
      refine cz_lload_n (pc' := 92) (g_d dtbX11_digest_0 56 rfl) rfl rfl ?_
      refine nz_lmul (pc' := 93) (g_d dtbX11_digest_0 57 rfl) rfl ?_
      refine cz_aload_n (pc' := 94) (g_d dtbX11_digest_0 58 rfl) rfl rfl ?_
      refine nz_getf (v := .ref 35) (pc' := 97) (g_d dtbX11_digest_0 59 rfl) gf_X11_7 (by decide) rfl rfl rfl ?_
      refine nz_bipush (pc' := 99) (g_d dtbX11_digest_1 0 rfl) (by decide) rfl ?_
      refine cz_iload_n (pc' := 100) (g_d dtbX11_digest_1 1 rfl) rfl rfl ?_
      refine nz_iadd (pc' := 101) (g_d dtbX11_digest_1 2 rfl) rfl ?_
      refine nz_iald (14 + n) (pc' := 102) (g_d dtbX11_digest_1 3 rfl) (by decide) rfl (by omega) (by push_cast; omega) (by omega) rfl ?_
      rw [show (zr Z 35 f) 35 (14 + n) = f (14 + n) from by simp [zu, zr, ru]]
      refine nz_i2l (pc' := 103) (g_d dtbX11_digest_1 4 rfl) (by omega) rfl ?_
      refine nz_ladd (pc' := 104) (g_d dtbX11_digest_1 5 rfl) rfl ?_
      refine cz_lstore_n (L' := [some (.ref 34), some (il ((31 * ((31 * (dgS h0 (blR f) (n * 3))) + (f (7 + n)))) + (f (14 + n)))), none, some (iv ((n : Int)))]) (pc' := 105) (g_d dtbX11_digest_1 6 rfl) (by decide) rfl rfl ?_
      refine nz_ldc2 (pc' := 108) (v := 31) (g_d dtbX11_digest_1 7 rfl) kn_X11_183 rfl ?_
      refine cz_lload_n (pc' := 109) (g_d dtbX11_digest_1 8 rfl) rfl rfl ?_
      refine nz_lmul (pc' := 110) (g_d dtbX11_digest_1 9 rfl) rfl ?_
      refine cz_aload_n (pc' := 111) (g_d dtbX11_digest_1 10 rfl) rfl rfl ?_
      refine nz_getf (v := .ref 35) (pc' := 114) (g_d dtbX11_digest_1 11 rfl) gf_X11_7 (by decide) rfl rfl rfl ?_
      refine nz_bipush (pc' := 116) (g_d dtbX11_digest_1 12 rfl) (by decide) rfl ?_
      refine cz_iload_n (pc' := 117) (g_d dtbX11_digest_1 13 rfl) rfl rfl ?_
      refine nz_iadd (pc' := 118) (g_d dtbX11_digest_1 14 rfl) rfl ?_
      refine nz_iald (21 + n) (pc' := 119) (g_d dtbX11_digest_1 15 rfl) (by decide) rfl (by omega) (by push_cast; omega) (by omega) rfl ?_
      rw [show (zr Z 35 f) 35 (21 + n) = f (21 + n) from by simp [zu, zr, ru]]
      refine nz_i2l (pc' := 120) (g_d dtbX11_digest_1 16 rfl) (by omega) rfl ?_
      refine nz_ladd (pc' := 121) (g_d dtbX11_digest_1 17 rfl) rfl ?_
      refine cz_lstore_n (L' := [some (.ref 34), some (il ((31 * ((31 * ((31 * (dgS h0 (blR f) (n * 3))) + (f (7 + n)))) + (f (14 + n)))) + (f (21 + n)))), none, some (iv ((n : Int)))]) (pc' := 122) (g_d dtbX11_digest_1 18 rfl) (by decide) rfl rfl ?_
      refine nz_iinc (L' := [some (.ref 34), some (il ((31 * ((31 * ((31 * (dgS h0 (blR f) (n * 3))) + (f (7 + n)))) + (f (14 + n)))) + (f (21 + n)))), none, some (iv (((n : Int)) + 1))]) (pc' := 125) (g_d dtbX11_digest_1 19 rfl) (by decide) rfl rfl rfl ?_
      refine cz_goto (pc' := 60) (g_d dtbX11_digest_1 20 rfl) rfl ?_
      have q := ih ((f 6).toNat - (n + 1)) (by omega) (n + 1) rfl (by omega)
      rw [bl_3] at q
      exact q

set_option maxRecDepth 20000 in
set_option maxHeartbeats 4000000 in
theorem k_dgF (G : Wd) (Z : ZS) (f : Row) (B : Int) (hR : RO B f) (hBB : B ≤ 60000000) (Q : Option Value → ZS → Prop) (h0 : Int) (hK : Cn G mX11_digest 58 [some (.ref 34), some (il (dgS h0 f 6)), none, some (iv (((6 : Nat) : Int)))] [] (zr Z 35 f) Q) : ∀ (d : Nat) (i : Nat), 6 - i = d → (i ≤ 6) → Cn G mX11_digest 32 [some (.ref 34), some (il (dgS h0 f i)), none, some (iv ((i : Int)))] [] (zr Z 35 f) (Q) := by
  intro d
  induction d using Nat.strongRecOn with
  | ind d ih =>
    intro i hd hi
    have h6 := hR.2.1
    have h28 := hR.2.2.2.1
    have hf := hR.1
    unfold FO at hf
    refine cz_iload_n (pc' := 33) (g_d dtbX11_digest_0 20 rfl) rfl rfl ?_
    refine nz_bipush (pc' := 35) (g_d dtbX11_digest_0 21 rfl) (by decide) rfl ?_
    refine nz_icmp_ge (tgt := 58) (pc' := 38) (g_d dtbX11_digest_0 22 rfl) (by omega) (by omega) rfl rfl (fun h35 => ?_) (fun h35 => ?_)
    · rw [show i = 6 by omega]
      exact hK
    · have hfi : -2147483648 ≤ f i ∧ f i ≤ 2147483647 := by
        rcases (show i = 0 ∨ i = 1 ∨ i = 2 ∨ i = 3 ∨ i = 4 ∨ i = 5 by omega) with rfl | rfl | rfl | rfl | rfl | rfl <;> omega
      refine nz_ldc2 (pc' := 41) (v := 31) (g_d dtbX11_digest_0 23 rfl) kn_X11_183 rfl ?_
      refine cz_lload_n (pc' := 42) (g_d dtbX11_digest_0 24 rfl) rfl rfl ?_
      refine nz_lmul (pc' := 43) (g_d dtbX11_digest_0 25 rfl) rfl ?_
      refine cz_aload_n (pc' := 44) (g_d dtbX11_digest_0 26 rfl) rfl rfl ?_
      refine nz_getf (v := .ref 35) (pc' := 47) (g_d dtbX11_digest_0 27 rfl) gf_X11_7 (by decide) rfl rfl rfl ?_
      refine cz_iload_n (pc' := 48) (g_d dtbX11_digest_0 28 rfl) rfl rfl ?_
      refine nz_iald i (pc' := 49) (g_d dtbX11_digest_0 29 rfl) (by decide) rfl (by omega) (by rfl) (by omega) rfl ?_
      rw [show (zr Z 35 f) 35 i = f i from by simp [zu, zr, ru]]
      refine nz_i2l (pc' := 50) (g_d dtbX11_digest_0 30 rfl) (by omega) rfl ?_
      refine nz_ladd (pc' := 51) (g_d dtbX11_digest_0 31 rfl) rfl ?_
      refine cz_lstore_n (L' := [some (.ref 34), some (il ((31 * (dgS h0 f i)) + (f i))), none, some (iv ((i : Int)))]) (pc' := 52) (g_d dtbX11_digest_0 32 rfl) (by decide) rfl rfl ?_
      refine nz_iinc (L' := [some (.ref 34), some (il ((31 * (dgS h0 f i)) + (f i))), none, some (iv (((i : Int)) + 1))]) (pc' := 55) (g_d dtbX11_digest_0 33 rfl) (by decide) rfl rfl rfl ?_
      refine cz_goto (pc' := 32) (g_d dtbX11_digest_0 34 rfl) rfl ?_
      exact ih (6 - (i + 1)) (by omega) (i + 1) rfl (by omega)

set_option maxRecDepth 20000 in
set_option maxHeartbeats 4000000 in
theorem b_digest (G : Wd) (Z : ZS) (A : AS) (B : Int) (hM : MS Z A) (hA : AO B A) : Cn G mX11_digest 0 [some (.ref 34), none, none, none] [] Z (ql (fun r W => xDigest A = r ∧ MS W A ∧ FC Z W)) := by
  have hb0 := hA.1
  have hO := hA.2.1
  have h6 : 0 ≤ A.1 6 ∧ A.1 6 ≤ 7 := hO.2.1
  have h28 : 0 ≤ A.1 28 ∧ A.1 28 ≤ 6 := hO.2.2.2.1
  have h59 : 0 ≤ A.1 59 ∧ A.1 59 ≤ 8 := hO.2.2.2.2.2.1
  have hf := hO.1
  unfold FO at hf
  have hct := hA.2.2.2.2.2.2
  have ht := hM.2.2.2.1
  have hto := hA.2.2.2.2.1
  have hq := hM.2.2.2.2.1
  have hst := hM.2.2.2.2.2
  refine nz_st (zr_self hM.1) ?_
  refine nz_ldc2 (pc' := 3) (v := 1373) (g_d dtbX11_digest_0 0 rfl) kn_X11_188 rfl ?_
  refine cz_lstore_n (L' := [some (.ref 34), some (il (1373)), none, none]) (pc' := 4) (g_d dtbX11_digest_0 1 rfl) (by decide) rfl rfl ?_
  refine nz_iconst (pc' := 5) (g_d dtbX11_digest_0 2 rfl) rfl ?_
  refine cz_istore_n (L' := [some (.ref 34), some (il (1373)), none, some (iv 0)]) (pc' := 6) (g_d dtbX11_digest_0 3 rfl) (by decide) rfl rfl ?_
  refine cz_iload_n (pc' := 7) (g_d dtbX11_digest_0 4 rfl) rfl rfl ?_
  refine nz_iconst (pc' := 8) (g_d dtbX11_digest_0 5 rfl) rfl ?_
  refine nz_icmp_ge_f (pc' := 11) (g_d dtbX11_digest_0 6 rfl) (by omega) (by omega) (by decide) rfl (by omega) ?_
  refine nz_ldc2 (pc' := 14) (v := 31) (g_d dtbX11_digest_0 7 rfl) kn_X11_183 rfl ?_
  refine cz_lload_n (pc' := 15) (g_d dtbX11_digest_0 8 rfl) rfl rfl ?_
  refine nz_lmul (pc' := 16) (g_d dtbX11_digest_0 9 rfl) rfl ?_
  refine cz_aload_n (pc' := 17) (g_d dtbX11_digest_0 10 rfl) rfl rfl ?_
  refine cz_iload_n (pc' := 18) (g_d dtbX11_digest_0 11 rfl) rfl rfl ?_
  refine nz_cVi (M' := mX11_counted) (k := 34) (As := [iv 0]) (S := [il (31 * 1373)]) (L := [some (.ref 34), some (il (1373)), none, some (iv 0)]) (pc' := 21) (g_d dtbX11_digest_0 12 rfl) lk_X11_185 okX11_counted (by decide) rfl rfl rfl rfl (Nat.le_of_ble_eq_true rfl) (Nat.le_of_ble_eq_true rfl) (by decide) rfl (m_counted G (zr Z 35 A.1) A hM.row 0 (by decide)) ?_
  rintro _ _ ⟨rfl, rfl⟩
  rw [show cnt A 0 = A.1 6 from rfl]
  refine nz_i2l (pc' := 22) (g_d dtbX11_digest_0 13 rfl) (by omega) rfl ?_
  refine nz_ladd (pc' := 23) (g_d dtbX11_digest_0 14 rfl) rfl ?_
  refine cz_lstore_n (L' := [some (.ref 34), some (il ((31 * 1373) + (A.1 6))), none, some (iv 0)]) (pc' := 24) (g_d dtbX11_digest_0 15 rfl) (by decide) rfl rfl ?_
  refine nz_iinc (L' := [some (.ref 34), some (il ((31 * 1373) + (A.1 6))), none, some (iv (0 + 1))]) (pc' := 27) (g_d dtbX11_digest_0 16 rfl) (by decide) rfl rfl rfl ?_
  refine cz_goto (pc' := 6) (g_d dtbX11_digest_0 17 rfl) rfl ?_
  refine cz_iload_n (pc' := 7) (g_d dtbX11_digest_0 4 rfl) rfl rfl ?_
  refine nz_iconst (pc' := 8) (g_d dtbX11_digest_0 5 rfl) rfl ?_
  refine nz_icmp_ge_f (pc' := 11) (g_d dtbX11_digest_0 6 rfl) (by omega) (by omega) (by decide) rfl (by omega) ?_
  refine nz_ldc2 (pc' := 14) (v := 31) (g_d dtbX11_digest_0 7 rfl) kn_X11_183 rfl ?_
  refine cz_lload_n (pc' := 15) (g_d dtbX11_digest_0 8 rfl) rfl rfl ?_
  refine nz_lmul (pc' := 16) (g_d dtbX11_digest_0 9 rfl) rfl ?_
  refine cz_aload_n (pc' := 17) (g_d dtbX11_digest_0 10 rfl) rfl rfl ?_
  refine cz_iload_n (pc' := 18) (g_d dtbX11_digest_0 11 rfl) rfl rfl ?_
  refine nz_cVi (M' := mX11_counted) (k := 34) (As := [iv 1]) (S := [il (31 * ((31 * 1373) + (A.1 6)))]) (L := [some (.ref 34), some (il ((31 * 1373) + (A.1 6))), none, some (iv 1)]) (pc' := 21) (g_d dtbX11_digest_0 12 rfl) lk_X11_185 okX11_counted (by decide) rfl rfl rfl rfl (Nat.le_of_ble_eq_true rfl) (Nat.le_of_ble_eq_true rfl) (by decide) rfl (m_counted G (zr Z 35 A.1) A hM.row 1 (by decide)) ?_
  rintro _ _ ⟨rfl, rfl⟩
  rw [show cnt A 1 = A.1 28 from rfl]
  refine nz_i2l (pc' := 22) (g_d dtbX11_digest_0 13 rfl) (by omega) rfl ?_
  refine nz_ladd (pc' := 23) (g_d dtbX11_digest_0 14 rfl) rfl ?_
  refine cz_lstore_n (L' := [some (.ref 34), some (il ((31 * ((31 * 1373) + (A.1 6))) + (A.1 28))), none, some (iv 1)]) (pc' := 24) (g_d dtbX11_digest_0 15 rfl) (by decide) rfl rfl ?_
  refine nz_iinc (L' := [some (.ref 34), some (il ((31 * ((31 * 1373) + (A.1 6))) + (A.1 28))), none, some (iv (1 + 1))]) (pc' := 27) (g_d dtbX11_digest_0 16 rfl) (by decide) rfl rfl rfl ?_
  refine cz_goto (pc' := 6) (g_d dtbX11_digest_0 17 rfl) rfl ?_
  refine cz_iload_n (pc' := 7) (g_d dtbX11_digest_0 4 rfl) rfl rfl ?_
  refine nz_iconst (pc' := 8) (g_d dtbX11_digest_0 5 rfl) rfl ?_
  refine nz_icmp_ge_f (pc' := 11) (g_d dtbX11_digest_0 6 rfl) (by omega) (by omega) (by decide) rfl (by omega) ?_
  refine nz_ldc2 (pc' := 14) (v := 31) (g_d dtbX11_digest_0 7 rfl) kn_X11_183 rfl ?_
  refine cz_lload_n (pc' := 15) (g_d dtbX11_digest_0 8 rfl) rfl rfl ?_
  refine nz_lmul (pc' := 16) (g_d dtbX11_digest_0 9 rfl) rfl ?_
  refine cz_aload_n (pc' := 17) (g_d dtbX11_digest_0 10 rfl) rfl rfl ?_
  refine cz_iload_n (pc' := 18) (g_d dtbX11_digest_0 11 rfl) rfl rfl ?_
  refine nz_cVi (M' := mX11_counted) (k := 34) (As := [iv 2]) (S := [il (31 * ((31 * ((31 * 1373) + (A.1 6))) + (A.1 28)))]) (L := [some (.ref 34), some (il ((31 * ((31 * 1373) + (A.1 6))) + (A.1 28))), none, some (iv 2)]) (pc' := 21) (g_d dtbX11_digest_0 12 rfl) lk_X11_185 okX11_counted (by decide) rfl rfl rfl rfl (Nat.le_of_ble_eq_true rfl) (Nat.le_of_ble_eq_true rfl) (by decide) rfl (m_counted G (zr Z 35 A.1) A hM.row 2 (by decide)) ?_
  rintro _ _ ⟨rfl, rfl⟩
  rw [show cnt A 2 = A.1 59 from rfl]
  refine nz_i2l (pc' := 22) (g_d dtbX11_digest_0 13 rfl) (by omega) rfl ?_
  refine nz_ladd (pc' := 23) (g_d dtbX11_digest_0 14 rfl) rfl ?_
  refine cz_lstore_n (L' := [some (.ref 34), some (il ((31 * ((31 * ((31 * 1373) + (A.1 6))) + (A.1 28))) + (A.1 59))), none, some (iv 2)]) (pc' := 24) (g_d dtbX11_digest_0 15 rfl) (by decide) rfl rfl ?_
  refine nz_iinc (L' := [some (.ref 34), some (il ((31 * ((31 * ((31 * 1373) + (A.1 6))) + (A.1 28))) + (A.1 59))), none, some (iv (2 + 1))]) (pc' := 27) (g_d dtbX11_digest_0 16 rfl) (by decide) rfl rfl rfl ?_
  refine cz_goto (pc' := 6) (g_d dtbX11_digest_0 17 rfl) rfl ?_
  refine cz_iload_n (pc' := 7) (g_d dtbX11_digest_0 4 rfl) rfl rfl ?_
  refine nz_iconst (pc' := 8) (g_d dtbX11_digest_0 5 rfl) rfl ?_
  refine nz_icmp_ge_f (pc' := 11) (g_d dtbX11_digest_0 6 rfl) (by omega) (by omega) (by decide) rfl (by omega) ?_
  refine nz_ldc2 (pc' := 14) (v := 31) (g_d dtbX11_digest_0 7 rfl) kn_X11_183 rfl ?_
  refine cz_lload_n (pc' := 15) (g_d dtbX11_digest_0 8 rfl) rfl rfl ?_
  refine nz_lmul (pc' := 16) (g_d dtbX11_digest_0 9 rfl) rfl ?_
  refine cz_aload_n (pc' := 17) (g_d dtbX11_digest_0 10 rfl) rfl rfl ?_
  refine cz_iload_n (pc' := 18) (g_d dtbX11_digest_0 11 rfl) rfl rfl ?_
  refine nz_cVi (M' := mX11_counted) (k := 34) (As := [iv 3]) (S := [il (31 * ((31 * ((31 * ((31 * 1373) + (A.1 6))) + (A.1 28))) + (A.1 59)))]) (L := [some (.ref 34), some (il ((31 * ((31 * ((31 * 1373) + (A.1 6))) + (A.1 28))) + (A.1 59))), none, some (iv 3)]) (pc' := 21) (g_d dtbX11_digest_0 12 rfl) lk_X11_185 okX11_counted (by decide) rfl rfl rfl rfl (Nat.le_of_ble_eq_true rfl) (Nat.le_of_ble_eq_true rfl) (by decide) rfl (m_counted G (zr Z 35 A.1) A hM.row 3 (by decide)) ?_
  rintro _ _ ⟨rfl, rfl⟩
  rw [show cnt A 3 = (A.2.2.2.1.1 : Int) from rfl]
  refine nz_i2l (pc' := 22) (g_d dtbX11_digest_0 13 rfl) (by omega) rfl ?_
  refine nz_ladd (pc' := 23) (g_d dtbX11_digest_0 14 rfl) rfl ?_
  refine cz_lstore_n (L' := [some (.ref 34), some (il ((31 * ((31 * ((31 * ((31 * 1373) + (A.1 6))) + (A.1 28))) + (A.1 59))) + ((A.2.2.2.1.1 : Int)))), none, some (iv 3)]) (pc' := 24) (g_d dtbX11_digest_0 15 rfl) (by decide) rfl rfl ?_
  refine nz_iinc (L' := [some (.ref 34), some (il ((31 * ((31 * ((31 * ((31 * 1373) + (A.1 6))) + (A.1 28))) + (A.1 59))) + ((A.2.2.2.1.1 : Int)))), none, some (iv (3 + 1))]) (pc' := 27) (g_d dtbX11_digest_0 16 rfl) (by decide) rfl rfl rfl ?_
  refine cz_goto (pc' := 6) (g_d dtbX11_digest_0 17 rfl) rfl ?_
  refine cz_iload_n (pc' := 7) (g_d dtbX11_digest_0 4 rfl) rfl rfl ?_
  refine nz_iconst (pc' := 8) (g_d dtbX11_digest_0 5 rfl) rfl ?_
  refine nz_icmp_ge_t (tgt := 30) (g_d dtbX11_digest_0 6 rfl) (by omega) (by omega) rfl (by omega) ?_
  refine nz_iconst (pc' := 31) (g_d dtbX11_digest_0 18 rfl) rfl ?_
  refine cz_istore_n (L' := [some (.ref 34), some (il ((31 * ((31 * ((31 * ((31 * 1373) + (A.1 6))) + (A.1 28))) + (A.1 59))) + ((A.2.2.2.1.1 : Int)))), none, some (iv 0)]) (pc' := 32) (g_d dtbX11_digest_0 19 rfl) (by decide) rfl rfl ?_
  refine k_dgF G Z A.1 B hO (by omega) _ _ ?_ (6 - 0) 0 rfl (by omega)
  refine nz_iconst (pc' := 59) (g_d dtbX11_digest_0 35 rfl) rfl ?_
  refine cz_istore_n (L' := [some (.ref 34), some (il (dgS ((31 * ((31 * ((31 * ((31 * 1373) + (A.1 6))) + (A.1 28))) + (A.1 59))) + ((A.2.2.2.1.1 : Int))) A.1 6)), none, some (iv 0)]) (pc' := 60) (g_d dtbX11_digest_0 36 rfl) (by decide) rfl rfl ?_
  refine k_dgB G Z A.1 B hO (by omega) _ _ ?_ ((A.1 6).toNat - 0) 0 rfl (by omega)
  refine nz_iconst (pc' := 129) (g_d dtbX11_digest_1 21 rfl) rfl ?_
  refine cz_istore_n (L' := [some (.ref 34), some (il (dgS (dgS ((31 * ((31 * ((31 * ((31 * 1373) + (A.1 6))) + (A.1 28))) + (A.1 59))) + ((A.2.2.2.1.1 : Int))) A.1 6) (blR A.1) ((A.1 6).toNat * 3))), none, some (iv 0)]) (pc' := 130) (g_d dtbX11_digest_1 22 rfl) (by decide) rfl rfl ?_
  refine k_dgN G Z A.1 B hO (by omega) _ _ ?_ ((A.1 28).toNat * 5 - 0) 0 rfl (by omega)
  refine nz_ldc2 (pc' := 169) (v := 31) (g_d dtbX11_digest_1 45 rfl) kn_X11_183 rfl ?_
  refine nz_ldc2 (pc' := 172) (v := 31) (g_d dtbX11_digest_1 46 rfl) kn_X11_183 rfl ?_
  refine cz_lload_n (pc' := 173) (g_d dtbX11_digest_1 47 rfl) rfl rfl ?_
  refine nz_lmul (pc' := 174) (g_d dtbX11_digest_1 48 rfl) rfl ?_
  refine cz_aload_n (pc' := 175) (g_d dtbX11_digest_1 49 rfl) rfl rfl ?_
  refine nz_getf (v := il (A.2.2.2.2.1.1)) (pc' := 178) (g_d dtbX11_digest_1 50 rfl) gf_X11_171 (by decide) rfl (congrArg il (by rw [zr_ne (by decide)]; exact hq.1)) rfl ?_
  refine nz_ladd (pc' := 179) (g_d dtbX11_digest_1 51 rfl) rfl ?_
  refine nz_lmul (pc' := 180) (g_d dtbX11_digest_1 52 rfl) rfl ?_
  refine cz_aload_n (pc' := 181) (g_d dtbX11_digest_1 53 rfl) rfl rfl ?_
  refine nz_getf (v := il (A.2.2.2.2.1.2)) (pc' := 184) (g_d dtbX11_digest_1 54 rfl) gf_X11_29 (by decide) rfl (congrArg il (by rw [zr_ne (by decide)]; exact hq.2)) rfl ?_
  refine nz_ladd (pc' := 185) (g_d dtbX11_digest_1 55 rfl) rfl ?_
  refine nz_rl (g_d dtbX11_digest_1 56 rfl) rfl ?_
  exact ⟨rfl, hM.row, (FC.r FC.rf (by decide))⟩
