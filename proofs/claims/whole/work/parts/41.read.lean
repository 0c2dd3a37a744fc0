/-! the class reads -/
theorem ro_one {n : Nat} {t : Row} {w : Nat} {most times : Int} {p q : Nat} {r s : Row} (h : RO 4000 r) (hw : (w = 0 ∧ most = 99 ∧ times = 10) ∨ (w = 5 ∧ most = 30 ∧ times = 1) ∨ (w = 1 ∧ most = 99 ∧ times = 1)) (e : iOne n t w most times p r = .inr (q, s)) : RO 4000 s ∧ s 59 = r 59 := by
  obtain ⟨h1, h2⟩ := iNum_inr e
  obtain ⟨_, _, rfl⟩ := iStop_inr h2
  obtain ⟨_, h3, h4⟩ := h1
  generalize tV n t (tE n t p) = v at h3 h4 ⊢
  have hf := h.1
  refine ⟨ro_fig h (fun j hj => ru_ne (by omega)) ?_, ru_ne (by omega)⟩
  unfold FO at hf ⊢
  rcases hw with ⟨rfl, rfl, rfl⟩ | ⟨rfl, rfl, rfl⟩ | ⟨rfl, rfl, rfl⟩
  · have a0 : ru r 0 (10 * v) 0 = 10 * v := ru_eq
    have a1 : ru r 0 (10 * v) 1 = r 1 := ru_ne (by decide)
    have a2 : ru r 0 (10 * v) 2 = r 2 := ru_ne (by decide)
    have a3 : ru r 0 (10 * v) 3 = r 3 := ru_ne (by decide)
    have a4 : ru r 0 (10 * v) 4 = r 4 := ru_ne (by decide)
    have a5 : ru r 0 (10 * v) 5 = r 5 := ru_ne (by decide)
    rw [a0, a1, a2, a3, a4, a5]; omega
  · have a0 : ru r 5 (1 * v) 0 = r 0 := ru_ne (by decide)
    have a1 : ru r 5 (1 * v) 1 = r 1 := ru_ne (by decide)
    have a2 : ru r 5 (1 * v) 2 = r 2 := ru_ne (by decide)
    have a3 : ru r 5 (1 * v) 3 = r 3 := ru_ne (by decide)
    have a4 : ru r 5 (1 * v) 4 = r 4 := ru_ne (by decide)
    have a5 : ru r 5 (1 * v) 5 = 1 * v := ru_eq
    rw [a0, a1, a2, a3, a4, a5]; omega
  · have a0 : ru r 1 (1 * v) 0 = r 0 := ru_ne (by decide)
    have a1 : ru r 1 (1 * v) 1 = 1 * v := ru_eq
    have a2 : ru r 1 (1 * v) 2 = r 2 := ru_ne (by decide)
    have a3 : ru r 1 (1 * v) 3 = r 3 := ru_ne (by decide)
    have a4 : ru r 1 (1 * v) 4 = r 4 := ru_ne (by decide)
    have a5 : ru r 1 (1 * v) 5 = r 5 := ru_ne (by decide)
    rw [a0, a1, a2, a3, a4, a5]; omega
theorem rBill_59 {r : Row} {a d p : Int} (h : 0 ≤ r 6 ∧ r 6 ≤ 7) : rBill r a d p 59 = 0 := by
  unfold rBill
  rw [ru_ne (by omega), ru_ne (by omega), ru_ne (by omega), ru_ne (by omega), ru_eq]
theorem ro_ibill {n : Nat} {t : Row} {p q : Nat} {r s : Row} (h : RO 4000 r) (h7 : r 6 ≠ 7) (e : iBill n t p r = .inr (q, s)) : RO 4000 s ∧ s 59 = 0 := by
  obtain ⟨h1, h2⟩ := iNum_inr e
  obtain ⟨h3, h2⟩ := iNum_inr h2
  obtain ⟨h4, h2⟩ := iNum_inr h2
  obtain ⟨_, _, rfl⟩ := iStop_inr h2
  have h6 := h.2.1
  exact ⟨ro_bill h (by omega) h1.2 h3.2 h4.2, rBill_59 h6⟩
theorem ro_item {n : Nat} {t : Row} {i p q : Nat} {r s : Row} (h : RO 4000 r ∧ r 59 = 0) (e : iItem n t i p r = .inr (q, s)) : RO 4000 s ∧ s 59 = 0 := by
  unfold iItem at e
  split at e
  · split at e
    · have := ro_one h.1 (Or.inl ⟨rfl, rfl, rfl⟩) e
      exact ⟨this.1, this.2.trans h.2⟩
    · cases e
  · split at e
    · cases e
    · split at e
      · split at e
        · cases e
        · exact ro_ibill h.1 (by assumption) e
      · split at e
        · have := ro_one h.1 (Or.inr (Or.inl ⟨rfl, rfl, rfl⟩)) e
          exact ⟨this.1, this.2.trans h.2⟩
        · split at e
          · have := ro_one h.1 (Or.inr (Or.inr ⟨rfl, rfl, rfl⟩)) e
            exact ⟨this.1, this.2.trans h.2⟩
          · cases e
theorem ro_rd {n : Nat} {t : Row} : ∀ (d i p : Nat) (r : Row) (j : Nat) (s : Row), RO 4000 r ∧ r 59 = 0 → rdF n t d i p r = .inr (j, s) → RO 4000 s ∧ s 59 = 0 := by
  intro d
  induction d with
  | zero => intro i p r j s _ e; cases e
  | succ d ih =>
    intro i p r j s h e
    rw [rdF] at e
    split at e
    · split at e
      · cases e
      · cases e; exact h
    · split at e
      · cases e
      · rename_i q r' hq
        exact ih _ _ _ _ _ (ro_item h hq) e
theorem ro_0 : RO 4000 (ru rBegin 0 0) ∧ (ru rBegin 0 0) 59 = 0 := ⟨ro_begin (by decide) (by decide), rfl⟩
def JR (n : Nat) (t : Row) (e : RR) (v : Int) (W : ZS) : Prop := (∃ q, e = .inl q ∧ q ≤ n ∧ v = -10 - (tS n t q : Int)) ∨ (∃ (i : Nat) (r' : Row), e = .inr (i, r') ∧ i ≤ n ∧ v = (i : Int) ∧ BR W 19 r')
def xRead (A : AS) : Int × AS := match rdF A.2.2.2.1.1 A.2.2.2.1.2 (A.2.2.2.1.1 + 1) 0 0 (ru rBegin 0 0) with
  | .inl q => (-10 - (tS A.2.2.2.1.1 A.2.2.2.1.2 q : Int), A)
  | .inr (i, r) => ((i : Int), sF A (r108 r A.1))

set_option maxRecDepth 20000 in
set_option maxHeartbeats 4000000 in
theorem l_items (G : Wd) (n : Nat) (t : Row) : ∀ (d i p : Nat) (r : Row) (Z : ZS), n - p < d → i ≤ p → TK n t p Z → BR Z 19 r → (RO 4000 r ∧ r 59 = 0) → Cn G mX8_itemsOrFault 19 [some (.ref 17), some (iv (i : Int))] [] Z (qi (fun v W => FD Z W ∧ JR n t (rdF n t d i p r) v W)) := by
  intro d
  induction d with
  | zero => intro i p r Z h; exact absurd h (Nat.not_lt_zero _)
  | succ d ih =>
    intro i p r Z hd hip hT hB hR
    have hkI := tK_in (n := n) (t := t) (p := p)
    have hn := hT.1.1.1
    have hpn := hT.2.1
    have hsl := tS_le (t := t) hpn
    refine cz_iload_n (pc' := 20) (g_d dtbX8_itemsOrFault_0 11 rfl) rfl rfl ?_
    refine nz_sipush (pc' := 23) (g_d dtbX8_itemsOrFault_0 12 rfl) (by decide) rfl ?_
    refine nz_icmp_ge (tgt := 67) (pc' := 26) (g_d dtbX8_itemsOrFault_0 13 rfl) (by omega) (by omega) rfl rfl (fun h23 => ?_) (fun h23 => ?_)
    · refine cz_iload_n (pc' := 68) (g_d dtbX8_itemsOrFault_0 34 rfl) rfl rfl ?_
      refine nz_if_ne (tgt := 81) (pc' := 71) (g_d dtbX8_itemsOrFault_0 35 rfl) (by omega) rfl rfl (fun h68 => ?_) (fun h68 => ?_)
      · refine cz_iload_n (pc' := 82) (g_d dtbX8_itemsOrFault_0 41 rfl) rfl rfl ?_
        refine nz_ri .int (g_d dtbX8_itemsOrFault_0 42 rfl) rfl rfl ?_
        have hk0 : tK n t p = 0 := Decidable.byContradiction (fun q => by have := tK_lt q; omega)
        exact ⟨FD.rf, Or.inr ⟨i, r, by rw [rdF, if_pos hk0, if_neg (by omega)], by omega, rfl, hB⟩⟩
      · refine nz_bipush (pc' := 73) (g_d dtbX8_itemsOrFault_0 36 rfl) (by decide) rfl ?_
        refine cz_aload_n (pc' := 74) (g_d dtbX8_itemsOrFault_0 37 rfl) rfl rfl ?_
        refine nz_getf (v := iv ((tS n t p : Int))) (pc' := 77) (g_d dtbX8_itemsOrFault_0 38 rfl) gf_X8_43 (by decide) rfl (congrArg iv (hT.2.2.1)) rfl ?_
        refine nz_isub (pc' := 78) (g_d dtbX8_itemsOrFault_0 39 rfl) rfl ?_
        refine cz_goto (pc' := 82) (g_d dtbX8_itemsOrFault_0 40 rfl) rfl ?_
        refine nz_ri .int (g_d dtbX8_itemsOrFault_0 42 rfl) rfl rfl ?_
        have hk0 : tK n t p = 0 := Decidable.byContradiction (fun q => by have := tK_lt q; omega)
        exact ⟨FD.rf, Or.inl ⟨p, by rw [rdF, if_pos hk0, if_pos (by omega)], hT.2.1, rfl⟩⟩
    · refine cz_aload_n (pc' := 27) (g_d dtbX8_itemsOrFault_0 14 rfl) rfl rfl ?_
      refine nz_getf (v := iv (tK n t p)) (pc' := 30) (g_d dtbX8_itemsOrFault_0 15 rfl) gf_X8_36 (by decide) rfl (congrArg iv (hT.2.2.2.2.1)) rfl ?_
      refine nz_if_eq (tgt := 67) (pc' := 33) (g_d dtbX8_itemsOrFault_0 16 rfl) (by omega) rfl rfl (fun h30 => ?_) (fun h30 => ?_)
      · refine cz_iload_n (pc' := 68) (g_d dtbX8_itemsOrFault_0 34 rfl) rfl rfl ?_
        refine nz_if_ne (tgt := 81) (pc' := 71) (g_d dtbX8_itemsOrFault_0 35 rfl) (by omega) rfl rfl (fun h68 => ?_) (fun h68 => ?_)
        · refine cz_iload_n (pc' := 82) (g_d dtbX8_itemsOrFault_0 41 rfl) rfl rfl ?_
          refine nz_ri .int (g_d dtbX8_itemsOrFault_0 42 rfl) rfl rfl ?_
          have hk0 : tK n t p = 0 := Decidable.byContradiction (fun q => by have := tK_lt q; omega)
          exact ⟨FD.rf, Or.inr ⟨i, r, by rw [rdF, if_pos hk0, if_neg (by omega)], by omega, rfl, hB⟩⟩
        · refine nz_bipush (pc' := 73) (g_d dtbX8_itemsOrFault_0 36 rfl) (by decide) rfl ?_
          refine cz_aload_n (pc' := 74) (g_d dtbX8_itemsOrFault_0 37 rfl) rfl rfl ?_
          refine nz_getf (v := iv ((tS n t p : Int))) (pc' := 77) (g_d dtbX8_itemsOrFault_0 38 rfl) gf_X8_43 (by decide) rfl (congrArg iv (hT.2.2.1)) rfl ?_
          refine nz_isub (pc' := 78) (g_d dtbX8_itemsOrFault_0 39 rfl) rfl ?_
          refine cz_goto (pc' := 82) (g_d dtbX8_itemsOrFault_0 40 rfl) rfl ?_
          refine nz_ri .int (g_d dtbX8_itemsOrFault_0 42 rfl) rfl rfl ?_
          have hk0 : tK n t p = 0 := Decidable.byContradiction (fun q => by have := tK_lt q; omega)
          exact ⟨FD.rf, Or.inl ⟨p, by rw [rdF, if_pos hk0, if_pos (by omega)], hT.2.1, rfl⟩⟩
      · refine cz_aload_n (pc' := 34) (g_d dtbX8_itemsOrFault_0 17 rfl) rfl rfl ?_
        refine cz_iload_n (pc' := 35) (g_d dtbX8_itemsOrFault_0 18 rfl) rfl rfl ?_
        refine nz_if_ne (tgt := 42) (pc' := 38) (g_d dtbX8_itemsOrFault_0 19 rfl) (by omega) rfl rfl (fun h35 => ?_) (fun h35 => ?_)
        · refine nz_iconst (pc' := 43) (g_d dtbX8_itemsOrFault_0 22 rfl) rfl ?_
          refine nz_cVi (M' := mX8_takeItem) (k := 17) (As := [iv 0]) (S := []) (L := [some (.ref 17), some (iv ((i : Int)))]) (pc' := 46) (g_d dtbX8_itemsOrFault_0 23 rfl) lk_X8_39 okX8_takeItem (by decide) rfl rfl rfl rfl (Nat.le_of_ble_eq_true rfl) (Nat.le_of_ble_eq_true rfl) (by decide) rfl (c_takeItem G Z n t p hT r hB i 0 (by omega) hR.1.2.1) ?_
          rintro _ W1 ⟨hf1, ⟨rfl, q, r1, hq, hqn, hq4, hb1⟩ | ⟨rfl, q, hq, hqn, hq3⟩⟩
          · have hpq := iItem_in hT.2.1 hq
            refine nz_if_ne_t (tgt := 57) (g_d dtbX8_itemsOrFault_0 24 rfl) (by omega) rfl (by omega) ?_
            refine nz_iinc (L' := [some (.ref 17), some (iv (((i : Int)) + 1))]) (pc' := 60) (g_d dtbX8_itemsOrFault_0 30 rfl) (by decide) rfl rfl rfl ?_
            refine cz_aload_n (pc' := 61) (g_d dtbX8_itemsOrFault_0 31 rfl) rfl rfl ?_
            refine nz_cVv (M' := mX8_takeToken) (k := 17) (As := []) (S := []) (L := [some (.ref 17), some (iv (((i : Int)) + 1))]) (pc' := 64) (g_d dtbX8_itemsOrFault_0 32 rfl) lk_X8_33 okX8_takeToken (by decide) rfl rfl rfl rfl (Nat.le_of_ble_eq_true rfl) (Nat.le_of_ble_eq_true rfl) (by decide) rfl (c_tok G W1 n t (hT.1.fd hf1) q hqn hq4) ?_
            rintro W2 ⟨hk2, hf2⟩
            refine cz_goto (pc' := 19) (g_d dtbX8_itemsOrFault_0 33 rfl) rfl ?_
            refine nz_wi (ih (i + 1) q r1 W2 (by omega) (by omega) hk2 (hb1.ft hf2) (ro_item hR hq)) (fun v V h => ⟨(hf1.tr (FD.ft hf2)).tr h.1, ?_⟩)
            rw [rdF, if_neg h30, hq]
            exact h.2
          · refine nz_if_ne_f (pc' := 49) (g_d dtbX8_itemsOrFault_0 24 rfl) (by omega) (by decide) rfl (by omega) ?_
            refine nz_bipush (pc' := 51) (g_d dtbX8_itemsOrFault_0 25 rfl) (by decide) rfl ?_
            refine cz_aload_n (pc' := 52) (g_d dtbX8_itemsOrFault_0 26 rfl) rfl rfl ?_
            refine nz_getf (v := iv ((tS n t q : Int))) (pc' := 55) (g_d dtbX8_itemsOrFault_0 27 rfl) gf_X8_43 (by decide) rfl (congrArg iv (hq3)) rfl ?_
            refine nz_isub (pc' := 56) (g_d dtbX8_itemsOrFault_0 28 rfl) rfl ?_
            refine nz_ri .int (g_d dtbX8_itemsOrFault_0 29 rfl) rfl rfl ?_
            exact ⟨hf1, Or.inl ⟨q, by rw [rdF, if_neg h30, hq], hqn, rfl⟩⟩
        · refine nz_iconst (pc' := 39) (g_d dtbX8_itemsOrFault_0 20 rfl) rfl ?_
          refine cz_goto (pc' := 43) (g_d dtbX8_itemsOrFault_0 21 rfl) rfl ?_
          refine nz_cVi (M' := mX8_takeItem) (k := 17) (As := [iv 1]) (S := []) (L := [some (.ref 17), some (iv ((i : Int)))]) (pc' := 46) (g_d dtbX8_itemsOrFault_0 23 rfl) lk_X8_39 okX8_takeItem (by decide) rfl rfl rfl rfl (Nat.le_of_ble_eq_true rfl) (Nat.le_of_ble_eq_true rfl) (by decide) rfl (c_takeItem G Z n t p hT r hB i 1 (by omega) hR.1.2.1) ?_
          rintro _ W1 ⟨hf1, ⟨rfl, q, r1, hq, hqn, hq4, hb1⟩ | ⟨rfl, q, hq, hqn, hq3⟩⟩
          · have hpq := iItem_in hT.2.1 hq
            refine nz_if_ne_t (tgt := 57) (g_d dtbX8_itemsOrFault_0 24 rfl) (by omega) rfl (by omega) ?_
            refine nz_iinc (L' := [some (.ref 17), some (iv (((i : Int)) + 1))]) (pc' := 60) (g_d dtbX8_itemsOrFault_0 30 rfl) (by decide) rfl rfl rfl ?_
            refine cz_aload_n (pc' := 61) (g_d dtbX8_itemsOrFault_0 31 rfl) rfl rfl ?_
            refine nz_cVv (M' := mX8_takeToken) (k := 17) (As := []) (S := []) (L := [some (.ref 17), some (iv (((i : Int)) + 1))]) (pc' := 64) (g_d dtbX8_itemsOrFault_0 32 rfl) lk_X8_33 okX8_takeToken (by decide) rfl rfl rfl rfl (Nat.le_of_ble_eq_true rfl) (Nat.le_of_ble_eq_true rfl) (by decide) rfl (c_tok G W1 n t (hT.1.fd hf1) q hqn hq4) ?_
            rintro W2 ⟨hk2, hf2⟩
            refine cz_goto (pc' := 19) (g_d dtbX8_itemsOrFault_0 33 rfl) rfl ?_
            refine nz_wi (ih (i + 1) q r1 W2 (by omega) (by omega) hk2 (hb1.ft hf2) (ro_item hR hq)) (fun v V h => ⟨(hf1.tr (FD.ft hf2)).tr h.1, ?_⟩)
            rw [rdF, if_neg h30, hq]
            exact h.2
          · refine nz_if_ne_f (pc' := 49) (g_d dtbX8_itemsOrFault_0 24 rfl) (by omega) (by decide) rfl (by omega) ?_
            refine nz_bipush (pc' := 51) (g_d dtbX8_itemsOrFault_0 25 rfl) (by decide) rfl ?_
            refine cz_aload_n (pc' := 52) (g_d dtbX8_itemsOrFault_0 26 rfl) rfl rfl ?_
            refine nz_getf (v := iv ((tS n t q : Int))) (pc' := 55) (g_d dtbX8_itemsOrFault_0 27 rfl) gf_X8_43 (by decide) rfl (congrArg iv (hq3)) rfl ?_
            refine nz_isub (pc' := 56) (g_d dtbX8_itemsOrFault_0 28 rfl) rfl ?_
            refine nz_ri .int (g_d dtbX8_itemsOrFault_0 29 rfl) rfl rfl ?_
            exact ⟨hf1, Or.inl ⟨q, by rw [rdF, if_neg h30, hq], hqn, rfl⟩⟩

set_option maxRecDepth 20000 in
set_option maxHeartbeats 4000000 in
theorem c_items (G : Wd) (Z : ZS) (n : Nat) (t : Row) (hT : TX n t Z) : Cn G mX8_itemsOrFault 0 [some (.ref 17), none] [] Z (qi (fun v W => FD Z W ∧ JR n t (rdF n t (n + 1) 0 0 (ru rBegin 0 0)) v W)) := by
  refine cz_aload_n (pc' := 1) (g_d dtbX8_itemsOrFault_0 0 rfl) rfl rfl ?_
  refine nz_iconst (pc' := 2) (g_d dtbX8_itemsOrFault_0 1 rfl) rfl ?_
  refine nz_puti (pc' := 5) (g_d dtbX8_itemsOrFault_0 2 rfl) pf_X8_26 rfl (by decide) rfl rfl ?_
  refine cz_aload_n (pc' := 6) (g_d dtbX8_itemsOrFault_0 3 rfl) rfl rfl ?_
  refine nz_getf (v := .ref 19) (pc' := 9) (g_d dtbX8_itemsOrFault_0 4 rfl) gf_X8_18 (by decide) rfl rfl rfl ?_
  refine nz_iconst (pc' := 10) (g_d dtbX8_itemsOrFault_0 5 rfl) rfl ?_
  refine nz_cVv (M' := mX0_beginWith) (k := 19) (As := [iv 0]) (S := []) (L := [some (.ref 17), none]) (pc' := 13) (g_d dtbX8_itemsOrFault_0 6 rfl) lk_X8_29 okX0_beginWith (by decide) rfl rfl rfl rfl (Nat.le_of_ble_eq_true rfl) (Nat.le_of_ble_eq_true rfl) (by decide) rfl (c_beginWith G (zu Z 17 4 0) 19 0 bk19) ?_
  rintro W1 ⟨hb1, hF1⟩
  refine nz_iconst (pc' := 14) (g_d dtbX8_itemsOrFault_0 7 rfl) rfl ?_
  refine cz_istore_n (L' := [some (.ref 17), some (iv 0)]) (pc' := 15) (g_d dtbX8_itemsOrFault_0 8 rfl) (by decide) rfl rfl ?_
  refine cz_aload_n (pc' := 16) (g_d dtbX8_itemsOrFault_0 9 rfl) rfl rfl ?_
  refine nz_cVv (M' := mX8_takeToken) (k := 17) (As := []) (S := []) (L := [some (.ref 17), some (iv 0)]) (pc' := 19) (g_d dtbX8_itemsOrFault_0 10 rfl) lk_X8_33 okX8_takeToken (by decide) rfl rfl rfl rfl (Nat.le_of_ble_eq_true rfl) (Nat.le_of_ble_eq_true rfl) (by decide) rfl (c_tok G W1 n t ((hT.fd (FD.w (by decide))).fd (FD.fb hF1)) 0 (Nat.zero_le _) (by rw [hF1 17 (by decide)]; exact zu_eq)) ?_
  rintro W2 ⟨hk2, hf2⟩
  refine nz_wi (l_items G n t (n + 1) 0 0 (ru rBegin 0 0) W2 (by omega) (Nat.le_refl _) hk2 (hb1.ft hf2) ro_0) (fun v V h => ⟨(((FD.w (by decide)).tr (FD.fb hF1)).tr (FD.ft hf2)).tr h.1, h.2⟩)

theorem FD.sc {Z W : ZS} (h : FD Z W) : Sc Z W := ⟨fun a ha => h.1 a (by omega), h.2⟩
theorem FD.fm {Z W : ZS} (h : FD Z W) : FM Z W := fun a ha => h.1 a (by omega)

set_option maxRecDepth 20000 in
set_option maxHeartbeats 4000000 in
theorem a_read (G : Wd) (Z : ZS) (A : AS) (B : Int) (hC : CS Z A) (hA : AO B A) : Cn G mX10_read 0 [some (.ref 0), none] [] Z (qi (fun r W => (xRead A).1 = r ∧ CS W (xRead A).2 ∧ FM Z W)) := by
  have hB := hC.1
  have hb0 := hA.1
  have hO := hA.2.1
  have h6 : 0 ≤ A.1 6 ∧ A.1 6 ≤ 7 := hO.2.1
  have h28 : 0 ≤ A.1 28 ∧ A.1 28 ≤ 6 := hO.2.2.2.1
  have h59 : 0 ≤ A.1 59 ∧ A.1 59 ≤ 8 := hO.2.2.2.2.2.1
  have hf := hO.1
  unfold FO at hf
  have hct := hA.2.2.2.2.2.2
  have ht := hC.2.2.2.1
  have hto := hA.2.2.2.2.1
  refine cz_aload_n (pc' := 1) (g_d dtbX10_read_0 0 rfl) rfl rfl ?_
  refine nz_getf (v := .ref 17) (pc' := 4) (g_d dtbX10_read_0 1 rfl) gf_X10_29 (by decide) rfl rfl rfl ?_
  refine nz_cVi (M' := mX8_itemsOrFault) (k := 17) (As := []) (S := []) (L := [some (.ref 0), none]) (pc' := 7) (g_d dtbX10_read_0 2 rfl) lk_X10_86 okX8_itemsOrFault (by decide) rfl rfl rfl rfl (Nat.le_of_ble_eq_true rfl) (Nat.le_of_ble_eq_true rfl) (by decide) rfl (c_items G Z A.2.2.2.1.1 A.2.2.2.1.2 ⟨hto, ht⟩) ?_
  rintro _ W1 ⟨hf1, ⟨q, hq, hqn, rfl⟩ | ⟨i, r1, hq, hin, rfl, hb1⟩⟩
  · have hsq := tS_le (t := A.2.2.2.1.2) hqn
    refine cz_istore_n (L' := [some (.ref 0), some (iv (-10 - (tS A.2.2.2.1.1 A.2.2.2.1.2 q : Int)))]) (pc' := 8) (g_d dtbX10_read_0 3 rfl) (by decide) rfl rfl ?_
    refine cz_iload_n (pc' := 9) (g_d dtbX10_read_0 4 rfl) rfl rfl ?_
    refine nz_if_lt_t (tgt := 26) (g_d dtbX10_read_0 5 rfl) (by omega) rfl (by omega) ?_
    refine cz_iload_n (pc' := 27) (g_d dtbX10_read_0 12 rfl) rfl rfl ?_
    refine nz_ri .int (g_d dtbX10_read_0 13 rfl) rfl rfl ?_
    rw [show xRead A = (-10 - (tS A.2.2.2.1.1 A.2.2.2.1.2 q : Int), A) from by unfold xRead; rw [hq]]
    exact ⟨rfl, hC.sc hf1.sc, hf1.fm⟩
  · refine cz_istore_n (L' := [some (.ref 0), some (iv ((i : Int)))]) (pc' := 8) (g_d dtbX10_read_0 3 rfl) (by decide) rfl rfl ?_
    refine cz_iload_n (pc' := 9) (g_d dtbX10_read_0 4 rfl) rfl rfl ?_
    refine nz_if_lt_f (pc' := 12) (g_d dtbX10_read_0 5 rfl) (by omega) (by decide) rfl (by omega) ?_
    refine cz_aload_n (pc' := 13) (g_d dtbX10_read_0 6 rfl) rfl rfl ?_
    refine nz_getf (v := .ref 1) (pc' := 16) (g_d dtbX10_read_0 7 rfl) gf_X10_10 (by decide) rfl rfl rfl ?_
    refine cz_aload_n (pc' := 17) (g_d dtbX10_read_0 8 rfl) rfl rfl ?_
    refine nz_getf (v := .ref 17) (pc' := 20) (g_d dtbX10_read_0 9 rfl) gf_X10_29 (by decide) rfl rfl rfl ?_
    refine nz_getf (v := .ref 19) (pc' := 23) (g_d dtbX10_read_0 10 rfl) gf_X10_89 (by decide) rfl rfl rfl ?_
    refine nz_cVv (M' := mX0_copyFrom) (k := 1) (As := [.ref 19]) (S := []) (L := [some (.ref 0), some (iv ((i : Int)))]) (pc' := 26) (g_d dtbX10_read_0 11 rfl) lk_X10_92 okX0_copyFrom (by decide) rfl rfl rfl rfl (Nat.le_of_ble_eq_true rfl) (Nat.le_of_ble_eq_true rfl) (by decide) rfl (c_copyFrom G W1 1 19 r1 bk1 bk19 (by decide) hb1) ?_
    rintro W2 ⟨hb2, hF2⟩
    refine cz_iload_n (pc' := 27) (g_d dtbX10_read_0 12 rfl) rfl rfl ?_
    refine nz_ri .int (g_d dtbX10_read_0 13 rfl) rfl rfl ?_
    rw [show xRead A = ((i : Int), sF A (r108 r1 A.1)) from by unfold xRead; rw [hq]]
    exact ⟨rfl, (hC.sc hf1.sc).book (hb2.ext (fun j hj => r108_at hj)) hF2, hf1.fm.b (by decide) hF2⟩
