/-! the other one: the lowest, notes, images, counts -/
theorem rI_pos {g : Row} {sp a : Int} : ∀ i : Nat, 1 ≤ rI g sp a (i + 1) := by
  intro i
  induction i with
  | zero => rw [rI, if_pos (Or.inl rfl)]; omega
  | succ i ih => rw [rI]; split <;> omega
theorem rI_le {g : Row} {sp a : Int} : ∀ i : Nat, rI g sp a i ≤ (i : Int) := by
  intro i
  induction i with
  | zero => simp [rI]
  | succ i ih => rw [rI]; split <;> omega
theorem rM_le {g : Row} {sp a C : Int} (h : ∀ i : Nat, i ≤ 99 → -C ≤ rL g sp a i ∧ rL g sp a i ≤ C) : ∀ i : Nat, i ≤ 99 → -C ≤ rM g sp a i ∧ rM g sp a i ≤ C := by
  intro i
  induction i with
  | zero => intro _; exact h 0 (by omega)
  | succ i ih =>
    intro hi
    have := ih (by omega)
    have := h (i + 1) hi
    rw [rM]; split <;> omega

set_option maxRecDepth 20000 in
set_option maxHeartbeats 4000000 in
theorem k_low (G : Wd) (Z : ZS) (g : Row) (C sp w : Int) (N : Nat) (hR : TR C g) (hC : C + 8000 * (N : Int) ≤ 80000000) (hC0 : 0 ≤ C) (hs : 0 ≤ sp ∧ sp ≤ 1000) (hN : N ≤ 99) (hw : 0 ≤ w ∧ w ≤ 1) (h35 : Z 35 5 = sp) : ∀ (d : Nat) (i : Nat), N - i = d → (i ≤ N) → (1 ≤ i) → Cn G mX11_low 38 [some (.ref 34), some (iv ((N : Int))), some (iv (w)), some (iv (rM (drA g (g 6).toNat) sp (g 0) i)), some (iv (rI (drA g (g 6).toNat) sp (g 0) i)), some (iv ((i : Int) + 1)), none] [] (zr Z 36 (rGs g sp i)) (qi (fun r W => (if w = 0 then rM (drA g (g 6).toNat) sp (g 0) N else rI (drA g (g 6).toNat) sp (g 0) N) = r ∧ ∃ t : Row, zr Z 36 t = W)) := by
  intro d
  induction d using Nat.strongRecOn with
  | ind d ih =>
    intro i hd hi hi1
    have hRi := tr_gs hR hs i
    have hRn := tr_gs hR hs (i + 1)
    have hR0 := hRi.1
    have hR2 := hRi.2.1
    have hR1 := hRn.1
    push_cast at hR1
    have hg2 := hR.2.1
    have e0 := gs_0 (sp := sp) hR.2.2.1 (i + 1)
    rw [e0] at hR1
    have hI1 := rI_le (g := drA g (g 6).toNat) (sp := sp) (a := g 0) i
    have hip := rI_pos (g := drA g (g 6).toNat) (sp := sp) (a := g 0) (i - 1)
    rw [show i - 1 + 1 = i by omega] at hip
    have hmle := rM_le (g := drA g (g 6).toNat) (sp := sp) (a := g 0) (C := C + 800000) (fun x hx => by have := (tr_gs hR hs x).1; rw [gs_0 hR.2.2.1] at this; omega) i (by omega)
    refine cz_iload (pc' := 40) (g_d dtbX11_low_0 22 rfl) rfl rfl ?_
    refine cz_iload_n (pc' := 41) (g_d dtbX11_low_0 23 rfl) rfl rfl ?_
    refine nz_icmp_gt (tgt := 115) (pc' := 44) (g_d dtbX11_low_0 24 rfl) (by omega) (by omega) rfl rfl (fun h41 => ?_) (fun h41 => ?_)
    · refine cz_iload_n (pc' := 116) (g_d dtbX11_low_1 1 rfl) rfl rfl ?_
      refine nz_if_ne (tgt := 123) (pc' := 119) (g_d dtbX11_low_1 2 rfl) (by omega) rfl rfl (fun h116 => ?_) (fun h116 => ?_)
      · refine cz_iload (pc' := 125) (g_d dtbX11_low_1 5 rfl) rfl rfl ?_
        refine nz_ri .int (g_d dtbX11_low_1 6 rfl) rfl rfl ?_
        rw [show i = N by omega]
        exact ⟨if_neg (by omega), _, rfl⟩
      · refine cz_iload_n (pc' := 120) (g_d dtbX11_low_1 3 rfl) rfl rfl ?_
        refine cz_goto (pc' := 125) (g_d dtbX11_low_1 4 rfl) rfl ?_
        refine nz_ri .int (g_d dtbX11_low_1 6 rfl) rfl rfl ?_
        rw [show i = N by omega]
        exact ⟨if_pos (by omega), _, rfl⟩
    · refine cz_aload_n (pc' := 45) (g_d dtbX11_low_0 25 rfl) rfl rfl ?_
      refine nz_getf (v := .ref 36) (pc' := 48) (g_d dtbX11_low_0 26 rfl) gf_X11_13 (by decide) rfl rfl rfl ?_
      refine cz_aload_n (pc' := 49) (g_d dtbX11_low_0 27 rfl) rfl rfl ?_
      refine nz_getf (v := .ref 35) (pc' := 52) (g_d dtbX11_low_0 28 rfl) gf_X11_7 (by decide) rfl rfl rfl ?_
      refine nz_iconst (pc' := 53) (g_d dtbX11_low_0 29 rfl) rfl ?_
      refine nz_iald 5 (pc' := 54) (g_d dtbX11_low_0 30 rfl) (by decide) rfl (by omega) (by rfl) (by omega) rfl ?_
      rw [show (zr Z 36 (rGs g sp i)) 35 5 = sp from by rw [zr_ne (by decide)]; exact h35]
      refine nz_cSv (M' := mX11_goBy) (As := [.ref 36, iv (sp)]) (S := []) (L := [some (.ref 34), some (iv ((N : Int))), some (iv (w)), some (iv (rM (drA g (g 6).toNat) sp (g 0) i)), some (iv (rI (drA g (g 6).toNat) sp (g 0) i)), some (iv ((i : Int) + 1)), none]) (pc' := 57) (g_d dtbX11_low_0 31 rfl) lk_X11_132 okX11_goBy rfl rfl (Nat.le_of_ble_eq_true rfl) (Nat.le_of_ble_eq_true rfl) (by decide) rfl (m_goBy G Z (rGs g sp i) (C + 8000 * (i : Int)) sp 36 (by decide) rfl hRi (by omega) hs) ?_
      rintro _ rfl
      rw [show rGo (rGs g sp i) sp = rGs g sp (i + 1) from rfl]
      refine cz_iload (pc' := 59) (g_d dtbX11_low_0 32 rfl) rfl rfl ?_
      refine nz_if_eq_f (pc' := 62) (g_d dtbX11_low_0 33 rfl) (by omega) (by decide) rfl (by omega) ?_
      refine cz_aload_n (pc' := 63) (g_d dtbX11_low_0 34 rfl) rfl rfl ?_
      refine nz_getf (v := .ref 36) (pc' := 66) (g_d dtbX11_low_0 35 rfl) gf_X11_13 (by decide) rfl rfl rfl ?_
      refine nz_iconst (pc' := 67) (g_d dtbX11_low_0 36 rfl) rfl ?_
      refine nz_iald 0 (pc' := 68) (g_d dtbX11_low_0 37 rfl) (by decide) rfl (by omega) (by rfl) (by omega) rfl ?_
      rw [show (zr Z 36 (rGs g sp (i + 1))) 36 0 = rL (drA g (g 6).toNat) sp (g 0) (i + 1) from by rw [zr_eq]; exact gs_0 hR.2.2.1 _]
      refine cz_iload_n (pc' := 69) (g_d dtbX11_low_0 38 rfl) rfl rfl ?_
      refine nz_icmp_ge (tgt := 76) (pc' := 72) (g_d dtbX11_low_0 39 rfl) (by omega) (by omega) rfl rfl (fun h69 => ?_) (fun h69 => ?_)
      · refine nz_iconst (pc' := 77) (g_d dtbX11_low_0 42 rfl) rfl ?_
        refine cz_istore (L' := [some (.ref 34), some (iv ((N : Int))), some (iv (w)), some (iv (rM (drA g (g 6).toNat) sp (g 0) i)), some (iv (rI (drA g (g 6).toNat) sp (g 0) i)), some (iv ((i : Int) + 1)), some (iv 0)]) (pc' := 79) (g_d dtbX11_low_0 43 rfl) (by decide) rfl rfl ?_
        refine cz_iload (pc' := 81) (g_d dtbX11_low_0 44 rfl) rfl rfl ?_
        refine nz_if_eq_t (tgt := 93) (g_d dtbX11_low_0 45 rfl) (by omega) rfl (by omega) ?_
        refine cz_iload_n (pc' := 94) (g_d dtbX11_low_0 51 rfl) rfl rfl ?_
        refine cz_istore_n (L' := [some (.ref 34), some (iv ((N : Int))), some (iv (w)), some (iv (rM (drA g (g 6).toNat) sp (g 0) i)), some (iv (rI (drA g (g 6).toNat) sp (g 0) i)), some (iv ((i : Int) + 1)), some (iv 0)]) (pc' := 95) (g_d dtbX11_low_0 52 rfl) (by decide) rfl rfl ?_
        refine cz_iload (pc' := 97) (g_d dtbX11_low_0 53 rfl) rfl rfl ?_
        refine nz_if_eq_t (tgt := 105) (g_d dtbX11_low_0 54 rfl) (by omega) rfl (by omega) ?_
        refine cz_iload (pc' := 107) (g_d dtbX11_low_0 57 rfl) rfl rfl ?_
        refine cz_istore (L' := [some (.ref 34), some (iv ((N : Int))), some (iv (w)), some (iv (rM (drA g (g 6).toNat) sp (g 0) i)), some (iv (rI (drA g (g 6).toNat) sp (g 0) i)), some (iv ((i : Int) + 1)), some (iv 0)]) (pc' := 109) (g_d dtbX11_low_0 58 rfl) (by decide) rfl rfl ?_
        refine nz_iinc (L' := [some (.ref 34), some (iv ((N : Int))), some (iv (w)), some (iv (rM (drA g (g 6).toNat) sp (g 0) i)), some (iv (rI (drA g (g 6).toNat) sp (g 0) i)), some (iv (((i : Int) + 1) + 1)), some (iv 0)]) (pc' := 112) (g_d dtbX11_low_0 59 rfl) (by decide) rfl rfl rfl ?_
        refine cz_goto (pc' := 38) (g_d dtbX11_low_1 0 rfl) rfl ?_
        refine cz_le [some (.ref 34), some (iv ((N : Int))), some (iv (w)), some (iv (rM (drA g (g 6).toNat) sp (g 0) i)), some (iv (rI (drA g (g 6).toNat) sp (g 0) i)), some (iv (((i : Int) + 1) + 1)), none] ⟨rfl, rfl, rfl, rfl, rfl, rfl, trivial⟩ ?_
        have e1 : rM (drA g (g 6).toNat) sp (g 0) (i + 1) = rM (drA g (g 6).toNat) sp (g 0) i := by rw [rM, if_neg (by omega)]
        have e2 : rI (drA g (g 6).toNat) sp (g 0) (i + 1) = rI (drA g (g 6).toNat) sp (g 0) i := by rw [rI, if_neg (by omega)]
        have q := ih (N - (i + 1)) (by omega) (i + 1) rfl (by omega) (by omega)
        rw [e1, e2, show ((i + 1 : Nat) : Int) + 1 = (i : Int) + 1 + 1 by push_cast; omega] at q
        exact q
      · refine nz_iconst (pc' := 73) (g_d dtbX11_low_0 40 rfl) rfl ?_
        refine cz_goto (pc' := 77) (g_d dtbX11_low_0 41 rfl) rfl ?_
        refine cz_istore (L' := [some (.ref 34), some (iv ((N : Int))), some (iv (w)), some (iv (rM (drA g (g 6).toNat) sp (g 0) i)), some (iv (rI (drA g (g 6).toNat) sp (g 0) i)), some (iv ((i : Int) + 1)), some (iv 1)]) (pc' := 79) (g_d dtbX11_low_0 43 rfl) (by decide) rfl rfl ?_
        refine cz_iload (pc' := 81) (g_d dtbX11_low_0 44 rfl) rfl rfl ?_
        refine nz_if_eq_f (pc' := 84) (g_d dtbX11_low_0 45 rfl) (by omega) (by decide) rfl (by omega) ?_
        refine cz_aload_n (pc' := 85) (g_d dtbX11_low_0 46 rfl) rfl rfl ?_
        refine nz_getf (v := .ref 36) (pc' := 88) (g_d dtbX11_low_0 47 rfl) gf_X11_13 (by decide) rfl rfl rfl ?_
        refine nz_iconst (pc' := 89) (g_d dtbX11_low_0 48 rfl) rfl ?_
        refine nz_iald 0 (pc' := 90) (g_d dtbX11_low_0 49 rfl) (by decide) rfl (by omega) (by rfl) (by omega) rfl ?_
        rw [show (zr Z 36 (rGs g sp (i + 1))) 36 0 = rL (drA g (g 6).toNat) sp (g 0) (i + 1) from by rw [zr_eq]; exact gs_0 hR.2.2.1 _]
        refine cz_goto (pc' := 94) (g_d dtbX11_low_0 50 rfl) rfl ?_
        refine cz_istore_n (L' := [some (.ref 34), some (iv ((N : Int))), some (iv (w)), some (iv (rL (drA g (g 6).toNat) sp (g 0) (i + 1))), some (iv (rI (drA g (g 6).toNat) sp (g 0) i)), some (iv ((i : Int) + 1)), some (iv 1)]) (pc' := 95) (g_d dtbX11_low_0 52 rfl) (by decide) rfl rfl ?_
        refine cz_iload (pc' := 97) (g_d dtbX11_low_0 53 rfl) rfl rfl ?_
        refine nz_if_eq_f (pc' := 100) (g_d dtbX11_low_0 54 rfl) (by omega) (by decide) rfl (by omega) ?_
        refine cz_iload (pc' := 102) (g_d dtbX11_low_0 55 rfl) rfl rfl ?_
        refine cz_goto (pc' := 107) (g_d dtbX11_low_0 56 rfl) rfl ?_
        refine cz_istore (L' := [some (.ref 34), some (iv ((N : Int))), some (iv (w)), some (iv (rL (drA g (g 6).toNat) sp (g 0) (i + 1))), some (iv ((i : Int) + 1)), some (iv ((i : Int) + 1)), some (iv 1)]) (pc' := 109) (g_d dtbX11_low_0 58 rfl) (by decide) rfl rfl ?_
        refine nz_iinc (L' := [some (.ref 34), some (iv ((N : Int))), some (iv (w)), some (iv (rL (drA g (g 6).toNat) sp (g 0) (i + 1))), some (iv ((i : Int) + 1)), some (iv (((i : Int) + 1) + 1)), some (iv 1)]) (pc' := 112) (g_d dtbX11_low_0 59 rfl) (by decide) rfl rfl rfl ?_
        refine cz_goto (pc' := 38) (g_d dtbX11_low_1 0 rfl) rfl ?_
        refine cz_le [some (.ref 34), some (iv ((N : Int))), some (iv (w)), some (iv (rL (drA g (g 6).toNat) sp (g 0) (i + 1))), some (iv ((i : Int) + 1)), some (iv (((i : Int) + 1) + 1)), none] ⟨rfl, rfl, rfl, rfl, rfl, rfl, trivial⟩ ?_
        have e1 : rM (drA g (g 6).toNat) sp (g 0) (i + 1) = rL (drA g (g 6).toNat) sp (g 0) (i + 1) := by rw [rM, if_pos (by omega)]
        have e2 : rI (drA g (g 6).toNat) sp (g 0) (i + 1) = (i : Int) + 1 := by rw [rI, if_pos (by omega)]
        have q := ih (N - (i + 1)) (by omega) (i + 1) rfl (by omega) (by omega)
        rw [e1, e2, show ((i + 1 : Nat) : Int) + 1 = (i : Int) + 1 + 1 by push_cast; omega] at q
        exact q

set_option maxRecDepth 20000 in
set_option maxHeartbeats 4000000 in
theorem k_low0 (G : Wd) (Z : ZS) (g : Row) (C sp w : Int) (N : Nat) (hR : TR C g) (hC : C + 8000 * (N : Int) ≤ 80000000) (hC0 : 0 ≤ C) (hs : 0 ≤ sp ∧ sp ≤ 1000) (hN : N ≤ 99) (hw : 0 ≤ w ∧ w ≤ 1) (h35 : Z 35 5 = sp) (hN1 : 1 ≤ N) : Cn G mX11_low 38 [some (.ref 34), some (iv ((N : Int))), some (iv (w)), some (iv 0), some (iv 0), some (iv 1), none] [] (zr Z 36 g) (qi (fun r W => (if w = 0 then rM (drA g (g 6).toNat) sp (g 0) N else rI (drA g (g 6).toNat) sp (g 0) N) = r ∧ ∃ t : Row, zr Z 36 t = W)) := by
  refine cz_iload (pc' := 40) (g_d dtbX11_low_0 22 rfl) rfl rfl ?_
  refine cz_iload_n (pc' := 41) (g_d dtbX11_low_0 23 rfl) rfl rfl ?_
  refine nz_icmp_gt_f (pc' := 44) (g_d dtbX11_low_0 24 rfl) (by omega) (by omega) (by decide) rfl (by omega) ?_
  refine cz_aload_n (pc' := 45) (g_d dtbX11_low_0 25 rfl) rfl rfl ?_
  refine nz_getf (v := .ref 36) (pc' := 48) (g_d dtbX11_low_0 26 rfl) gf_X11_13 (by decide) rfl rfl rfl ?_
  refine cz_aload_n (pc' := 49) (g_d dtbX11_low_0 27 rfl) rfl rfl ?_
  refine nz_getf (v := .ref 35) (pc' := 52) (g_d dtbX11_low_0 28 rfl) gf_X11_7 (by decide) rfl rfl rfl ?_
  refine nz_iconst (pc' := 53) (g_d dtbX11_low_0 29 rfl) rfl ?_
  refine nz_iald 5 (pc' := 54) (g_d dtbX11_low_0 30 rfl) (by decide) rfl (by omega) (by rfl) (by omega) rfl ?_
  rw [show (zr Z 36 g) 35 5 = sp from by rw [zr_ne (by decide)]; exact h35]
  refine nz_cSv (M' := mX11_goBy) (As := [.ref 36, iv (sp)]) (S := []) (L := [some (.ref 34), some (iv ((N : Int))), some (iv (w)), some (iv 0), some (iv 0), some (iv 1), none]) (pc' := 57) (g_d dtbX11_low_0 31 rfl) lk_X11_132 okX11_goBy rfl rfl (Nat.le_of_ble_eq_true rfl) (Nat.le_of_ble_eq_true rfl) (by decide) rfl (m_goBy G Z g C sp 36 (by decide) rfl hR (by omega) hs) ?_
  rintro _ rfl
  rw [show rGo g sp = rGs g sp 1 from rfl]
  refine cz_iload (pc' := 59) (g_d dtbX11_low_0 32 rfl) rfl rfl ?_
  refine nz_if_eq_t (tgt := 72) (g_d dtbX11_low_0 33 rfl) (by omega) rfl (by omega) ?_
  refine nz_iconst (pc' := 73) (g_d dtbX11_low_0 40 rfl) rfl ?_
  refine cz_goto (pc' := 77) (g_d dtbX11_low_0 41 rfl) rfl ?_
  refine cz_istore (L' := [some (.ref 34), some (iv ((N : Int))), some (iv (w)), some (iv 0), some (iv 0), some (iv 1), some (iv 1)]) (pc' := 79) (g_d dtbX11_low_0 43 rfl) (by decide) rfl rfl ?_
  refine cz_iload (pc' := 81) (g_d dtbX11_low_0 44 rfl) rfl rfl ?_
  refine nz_if_eq_f (pc' := 84) (g_d dtbX11_low_0 45 rfl) (by omega) (by decide) rfl (by omega) ?_
  refine cz_aload_n (pc' := 85) (g_d dtbX11_low_0 46 rfl) rfl rfl ?_
  refine nz_getf (v := .ref 36) (pc' := 88) (g_d dtbX11_low_0 47 rfl) gf_X11_13 (by decide) rfl rfl rfl ?_
  refine nz_iconst (pc' := 89) (g_d dtbX11_low_0 48 rfl) rfl ?_
  refine nz_iald 0 (pc' := 90) (g_d dtbX11_low_0 49 rfl) (by decide) rfl (by omega) (by rfl) (by omega) rfl ?_
  rw [show (zr Z 36 (rGs g sp 1)) 36 0 = rL (drA g (g 6).toNat) sp (g 0) 1 from by rw [zr_eq]; exact gs_0 hR.2.2.1 _]
  refine cz_goto (pc' := 94) (g_d dtbX11_low_0 50 rfl) rfl ?_
  refine cz_istore_n (L' := [some (.ref 34), some (iv ((N : Int))), some (iv (w)), some (iv (rL (drA g (g 6).toNat) sp (g 0) 1)), some (iv 0), some (iv 1), some (iv 1)]) (pc' := 95) (g_d dtbX11_low_0 52 rfl) (by decide) rfl rfl ?_
  refine cz_iload (pc' := 97) (g_d dtbX11_low_0 53 rfl) rfl rfl ?_
  refine nz_if_eq_f (pc' := 100) (g_d dtbX11_low_0 54 rfl) (by omega) (by decide) rfl (by omega) ?_
  refine cz_iload (pc' := 102) (g_d dtbX11_low_0 55 rfl) rfl rfl ?_
  refine cz_goto (pc' := 107) (g_d dtbX11_low_0 56 rfl) rfl ?_
  refine cz_istore (L' := [some (.ref 34), some (iv ((N : Int))), some (iv (w)), some (iv (rL (drA g (g 6).toNat) sp (g 0) 1)), some (iv 1), some (iv 1), some (iv 1)]) (pc' := 109) (g_d dtbX11_low_0 58 rfl) (by decide) rfl rfl ?_
  refine nz_iinc (L' := [some (.ref 34), some (iv ((N : Int))), some (iv (w)), some (iv (rL (drA g (g 6).toNat) sp (g 0) 1)), some (iv 1), some (iv (1 + 1)), some (iv 1)]) (pc' := 112) (g_d dtbX11_low_0 59 rfl) (by decide) rfl rfl rfl ?_
  refine cz_goto (pc' := 38) (g_d dtbX11_low_1 0 rfl) rfl ?_
  refine cz_le [some (.ref 34), some (iv ((N : Int))), some (iv (w)), some (iv (rL (drA g (g 6).toNat) sp (g 0) 1)), some (iv 1), some (iv (1 + 1)), none] ⟨rfl, rfl, rfl, rfl, rfl, rfl, trivial⟩ ?_
  have e1 : rM (drA g (g 6).toNat) sp (g 0) 1 = rL (drA g (g 6).toNat) sp (g 0) 1 := by rw [rM, if_pos (Or.inl rfl)]
  have e2 : rI (drA g (g 6).toNat) sp (g 0) 1 = 1 := by rw [rI, if_pos (Or.inl rfl)]; rfl
  have q := k_low G Z g C sp w N hR hC hC0 hs hN hw h35 (N - 1) 1 rfl (by omega) (by omega)
  rw [e1, e2] at q
  exact q

set_option maxRecDepth 20000 in
set_option maxHeartbeats 4000000 in
theorem b_low (G : Wd) (Z : ZS) (A : AS) (B : Int) (hM : MS Z A) (hA : AO B A) (m w : Int) (hm : -2147483648 ≤ m ∧ m ≤ 2147483647) (hw : -2147483648 ≤ w ∧ w ≤ 2147483647) (hbb : B + 700000 ≤ 60000000) : Cn G mX11_low 0 [some (.ref 34), some (iv (m)), some (iv (w)), none, none, none, none] [] Z (qi (fun r W => (xLow A m w).1 = r ∧ MS W (xLow A m w).2 ∧ FC Z W)) := by
  have hb0 := hA.1
  have hO := hA.2.1
  have h6 : 0 ≤ A.1 6 ∧ A.1 6 ≤ 7 := hO.2.1
  have h28 : 0 ≤ A.1 28 ∧ A.1 28 ≤ 6 := hO.2.2.2.1
  have h59 : 0 ≤ A.1 59 ∧ A.1 59 ≤ 8 := hO.2.2.2.2.2.1
  have hf := hO.1
  unfold FO at hf
  have hct := hA.2.2.2.2.2.2
  have hT := hO.tr (by omega)
  have hgA : drA A.1 (A.1 6).toNat = gA A := rfl
  obtain ⟨t, ht0⟩ : ∃ t : Row, Z 36 = t := ⟨_, rfl⟩
  refine nz_st (zr_self ht0) ?_
  refine cz_iload_n (pc' := 1) (g_d dtbX11_low_0 0 rfl) rfl rfl ?_
  refine nz_iconst (pc' := 2) (g_d dtbX11_low_0 1 rfl) rfl ?_
  refine nz_bipush (pc' := 4) (g_d dtbX11_low_0 2 rfl) (by decide) rfl ?_
  refine nz_cSi (M' := mX11_in) (As := [iv (m), iv 1, iv 99]) (S := []) (L := [some (.ref 34), some (iv (m)), some (iv (w)), none, none, none, none]) (pc' := 7) (g_d dtbX11_low_0 3 rfl) lk_X11_40 okX11_in rfl rfl (Nat.le_of_ble_eq_true rfl) (Nat.le_of_ble_eq_true rfl) (by decide) rfl (m_in G (zr Z 36 t) m 1 99 (by omega) (by omega) (by omega)) ?_
  rintro _ _ ⟨rfl, ⟨rfl, hw4⟩ | ⟨rfl, hw4⟩⟩
  · refine nz_if_eq_f (pc' := 10) (g_d dtbX11_low_0 4 rfl) (by omega) (by decide) rfl (by omega) ?_
    refine cz_iload_n (pc' := 11) (g_d dtbX11_low_0 5 rfl) rfl rfl ?_
    refine nz_iconst (pc' := 12) (g_d dtbX11_low_0 6 rfl) rfl ?_
    refine nz_iconst (pc' := 13) (g_d dtbX11_low_0 7 rfl) rfl ?_
    refine nz_cSi (M' := mX11_in) (As := [iv (w), iv 0, iv 1]) (S := []) (L := [some (.ref 34), some (iv (m)), some (iv (w)), none, none, none, none]) (pc' := 16) (g_d dtbX11_low_0 8 rfl) lk_X11_40 okX11_in rfl rfl (Nat.le_of_ble_eq_true rfl) (Nat.le_of_ble_eq_true rfl) (by decide) rfl (m_in G (zr Z 36 t) w 0 1 (by omega) (by omega) (by omega)) ?_
    rintro _ _ ⟨rfl, ⟨rfl, hw13⟩ | ⟨rfl, hw13⟩⟩
    · refine nz_if_ne_t (tgt := 26) (g_d dtbX11_low_0 9 rfl) (by omega) rfl (by omega) ?_
      obtain ⟨N, rfl⟩ : ∃ N : Nat, m = (N : Int) := ⟨m.toNat, by omega⟩
      refine cz_aload_n (pc' := 27) (g_d dtbX11_low_0 14 rfl) rfl rfl ?_
      refine nz_cVv (M' := mX11_copyNow) (k := 34) (As := []) (S := []) (L := [some (.ref 34), some (iv ((N : Int))), some (iv (w)), none, none, none, none]) (pc' := 30) (g_d dtbX11_low_0 15 rfl) lk_X11_147 okX11_copyNow (by decide) rfl rfl rfl rfl (Nat.le_of_ble_eq_true rfl) (Nat.le_of_ble_eq_true rfl) (by decide) rfl (m_copyNow G Z A.1 t hM.1) ?_
      rintro _ rfl
      refine nz_iconst (pc' := 31) (g_d dtbX11_low_0 16 rfl) rfl ?_
      refine cz_istore_n (L' := [some (.ref 34), some (iv ((N : Int))), some (iv (w)), some (iv 0), none, none, none]) (pc' := 32) (g_d dtbX11_low_0 17 rfl) (by decide) rfl rfl ?_
      refine nz_iconst (pc' := 33) (g_d dtbX11_low_0 18 rfl) rfl ?_
      refine cz_istore (L' := [some (.ref 34), some (iv ((N : Int))), some (iv (w)), some (iv 0), some (iv 0), none, none]) (pc' := 35) (g_d dtbX11_low_0 19 rfl) (by decide) rfl rfl ?_
      refine nz_iconst (pc' := 36) (g_d dtbX11_low_0 20 rfl) rfl ?_
      refine cz_istore (L' := [some (.ref 34), some (iv ((N : Int))), some (iv (w)), some (iv 0), some (iv 0), some (iv 1), none]) (pc' := 38) (g_d dtbX11_low_0 21 rfl) (by decide) rfl rfl ?_
      have q := k_low0 G Z (rT A.1 t) B (A.1 5) w N (tr_T hT) (by omega) (by omega) (by omega) (by omega) (by omega) (congrFun hM.1 5) (by omega)
      rw [drA_T h6, rT_lo (j := 0) (by decide), hgA] at q
      refine nz_wi q (fun r W h => ?_)
      obtain ⟨h1, t2, rfl⟩ := h
      rw [show xLow A (N : Int) w = (r, A) from by unfold xLow; rw [if_pos (by omega), Int.toNat_natCast, h1]]
      exact ⟨rfl, hM.tr, (FC.r FC.rf (by decide))⟩
    · refine nz_if_ne_f (pc' := 19) (g_d dtbX11_low_0 9 rfl) (by omega) (by decide) rfl (by omega) ?_
      refine cz_aload_n (pc' := 20) (g_d dtbX11_low_0 10 rfl) rfl rfl ?_
      refine nz_ldc (pc' := 22) (v := -100000) (g_d dtbX11_low_0 11 rfl) kn_X11_146 rfl ?_
      refine nz_cVi (M' := mX11_badBy) (k := 34) (As := [iv (-100000)]) (S := []) (L := [some (.ref 34), some (iv (m)), some (iv (w)), none, none, none, none]) (pc' := 25) (g_d dtbX11_low_0 12 rfl) lk_X11_143 okX11_badBy (by decide) rfl rfl rfl rfl (Nat.le_of_ble_eq_true rfl) (Nat.le_of_ble_eq_true rfl) (by decide) rfl (m_badBy G (zr Z 36 t) (-100000)) ?_
      rintro _ _ ⟨rfl, rfl⟩
      refine nz_ri .int (g_d dtbX11_low_0 13 rfl) rfl rfl ?_
      rw [show xLow A m w = (-100000, aBad A) from by unfold xLow; rw [if_neg (by omega)]]
      exact ⟨rfl, ms_bad hM.tr, (FC.u (FC.r FC.rf (by decide)) (by decide))⟩
  · refine nz_if_eq_t (tgt := 19) (g_d dtbX11_low_0 4 rfl) (by omega) rfl (by omega) ?_
    refine cz_aload_n (pc' := 20) (g_d dtbX11_low_0 10 rfl) rfl rfl ?_
    refine nz_ldc (pc' := 22) (v := -100000) (g_d dtbX11_low_0 11 rfl) kn_X11_146 rfl ?_
    refine nz_cVi (M' := mX11_badBy) (k := 34) (As := [iv (-100000)]) (S := []) (L := [some (.ref 34), some (iv (m)), some (iv (w)), none, none, none, none]) (pc' := 25) (g_d dtbX11_low_0 12 rfl) lk_X11_143 okX11_badBy (by decide) rfl rfl rfl rfl (Nat.le_of_ble_eq_true rfl) (Nat.le_of_ble_eq_true rfl) (by decide) rfl (m_badBy G (zr Z 36 t) (-100000)) ?_
    rintro _ _ ⟨rfl, rfl⟩
    refine nz_ri .int (g_d dtbX11_low_0 13 rfl) rfl rfl ?_
    rw [show xLow A m w = (-100000, aBad A) from by unfold xLow; rw [if_neg (by omega)]]
    exact ⟨rfl, ms_bad hM.tr, (FC.u (FC.r FC.rf (by decide)) (by decide))⟩

set_option maxRecDepth 20000 in
set_option maxHeartbeats 4000000 in
theorem k_monthly (G : Wd) (Z : ZS) (f : Row) (n : Nat) (hn : n < 7) (h7 : 0 ≤ f (7 + n) ∧ f (7 + n) ≤ 5) (h21 : 0 ≤ f (21 + n) ∧ f (21 + n) ≤ 99) (h4 : 0 ≤ f 4 ∧ f 4 ≤ 60000000) : ∀ (d : Nat) (i : Nat), 12 - i = d → (i ≤ 12) → Cn G mX11_monthly 19 [some (.ref 34), some (iv ((n : Int))), some (iv (mnF f n i)), some (iv ((i : Int)))] [] (zr Z 35 f) (qi (fun r W => mnF f n 12 = r ∧ zr Z 35 f = W)) := by
  intro d
  induction d using Nat.strongRecOn with
  | ind d ih =>
    intro i hd hi
    refine cz_iload_n (pc' := 20) (g_d dtbX11_monthly_0 12 rfl) rfl rfl ?_
    refine nz_bipush (pc' := 22) (g_d dtbX11_monthly_0 13 rfl) (by decide) rfl ?_
    refine nz_icmp_ge (tgt := 73) (pc' := 25) (g_d dtbX11_monthly_0 14 rfl) (by omega) (by omega) rfl rfl (fun h22 => ?_) (fun h22 => ?_)
    · refine cz_iload_n (pc' := 74) (g_d dtbX11_monthly_0 46 rfl) rfl rfl ?_
      refine nz_ri .int (g_d dtbX11_monthly_0 47 rfl) rfl rfl ?_
      rw [show i = 12 by omega]; exact ⟨rfl, rfl⟩
    · refine cz_iload_n (pc' := 26) (g_d dtbX11_monthly_0 15 rfl) rfl rfl ?_
      refine cz_aload_n (pc' := 27) (g_d dtbX11_monthly_0 16 rfl) rfl rfl ?_
      refine nz_getf (v := .ref 35) (pc' := 30) (g_d dtbX11_monthly_0 17 rfl) gf_X11_7 (by decide) rfl rfl rfl ?_
      refine nz_bipush (pc' := 32) (g_d dtbX11_monthly_0 18 rfl) (by decide) rfl ?_
      refine cz_iload_n (pc' := 33) (g_d dtbX11_monthly_0 19 rfl) rfl rfl ?_
      refine nz_iadd (pc' := 34) (g_d dtbX11_monthly_0 20 rfl) rfl ?_
      refine nz_iald (7 + n) (pc' := 35) (g_d dtbX11_monthly_0 21 rfl) (by decide) rfl (by omega) (by push_cast; omega) (by omega) rfl ?_
      rw [show (zr Z 35 f) 35 (7 + n) = f (7 + n) from by simp [zu, zr, ru]]
      refine cz_aload_n (pc' := 36) (g_d dtbX11_monthly_0 22 rfl) rfl rfl ?_
      refine nz_getf (v := .ref 35) (pc' := 39) (g_d dtbX11_monthly_0 23 rfl) gf_X11_7 (by decide) rfl rfl rfl ?_
      refine nz_bipush (pc' := 41) (g_d dtbX11_monthly_0 24 rfl) (by decide) rfl ?_
      refine cz_iload_n (pc' := 42) (g_d dtbX11_monthly_0 25 rfl) rfl rfl ?_
      refine nz_iadd (pc' := 43) (g_d dtbX11_monthly_0 26 rfl) rfl ?_
      refine nz_iald (21 + n) (pc' := 44) (g_d dtbX11_monthly_0 27 rfl) (by decide) rfl (by omega) (by push_cast; omega) (by omega) rfl ?_
      rw [show (zr Z 35 f) 35 (21 + n) = f (21 + n) from by simp [zu, zr, ru]]
      refine cz_aload_n (pc' := 45) (g_d dtbX11_monthly_0 28 rfl) rfl rfl ?_
      refine nz_getf (v := .ref 35) (pc' := 48) (g_d dtbX11_monthly_0 29 rfl) gf_X11_7 (by decide) rfl rfl rfl ?_
      refine nz_iconst (pc' := 49) (g_d dtbX11_monthly_0 30 rfl) rfl ?_
      refine nz_iald 4 (pc' := 50) (g_d dtbX11_monthly_0 31 rfl) (by decide) rfl (by omega) (by rfl) (by omega) rfl ?_
      rw [show (zr Z 35 f) 35 4 = f 4 from by simp [zu, zr, ru]]
      refine cz_iload_n (pc' := 51) (g_d dtbX11_monthly_0 32 rfl) rfl rfl ?_
      refine nz_iadd (pc' := 52) (g_d dtbX11_monthly_0 33 rfl) rfl ?_
      refine nz_cSi (M' := mX11_poundsBy) (As := [iv (f (7 + n)), iv (f (21 + n)), iv ((f 4) + ((i : Int)))]) (S := [iv (mnF f n i)]) (L := [some (.ref 34), some (iv ((n : Int))), some (iv (mnF f n i)), some (iv ((i : Int)))]) (pc' := 55) (g_d dtbX11_monthly_0 34 rfl) lk_X11_117 okX11_poundsBy rfl rfl (Nat.le_of_ble_eq_true rfl) (Nat.le_of_ble_eq_true rfl) (by decide) rfl (m_poundsBy G (zr Z 35 f) (f (7 + n)) (f (21 + n)) ((f 4) + ((i : Int))) (by omega) (by omega) (by omega)) ?_
      rintro _ _ ⟨rfl, rfl⟩
      refine cz_aload_n (pc' := 56) (g_d dtbX11_monthly_0 35 rfl) rfl rfl ?_
      refine nz_getf (v := .ref 35) (pc' := 59) (g_d dtbX11_monthly_0 36 rfl) gf_X11_7 (by decide) rfl rfl rfl ?_
      refine nz_bipush (pc' := 61) (g_d dtbX11_monthly_0 37 rfl) (by decide) rfl ?_
      refine cz_iload_n (pc' := 62) (g_d dtbX11_monthly_0 38 rfl) rfl rfl ?_
      refine nz_iadd (pc' := 63) (g_d dtbX11_monthly_0 39 rfl) rfl ?_
      refine nz_iald (21 + n) (pc' := 64) (g_d dtbX11_monthly_0 40 rfl) (by decide) rfl (by omega) (by push_cast; omega) (by omega) rfl ?_
      rw [show (zr Z 35 f) 35 (21 + n) = f (21 + n) from by simp [zu, zr, ru]]
      refine nz_isub (pc' := 65) (g_d dtbX11_monthly_0 41 rfl) rfl ?_
      refine nz_iadd (pc' := 66) (g_d dtbX11_monthly_0 42 rfl) rfl ?_
      refine cz_istore_n (L' := [some (.ref 34), some (iv ((n : Int))), some (iv ((mnF f n i) + ((pndB (f (7 + n)) (f (21 + n)) ((f 4) + ((i : Int)))) - (f (21 + n))))), some (iv ((i : Int)))]) (pc' := 67) (g_d dtbX11_monthly_0 43 rfl) (by decide) rfl rfl ?_
      refine nz_iinc (L' := [some (.ref 34), some (iv ((n : Int))), some (iv ((mnF f n i) + ((pndB (f (7 + n)) (f (21 + n)) ((f 4) + ((i : Int)))) - (f (21 + n))))), some (iv (((i : Int)) + 1))]) (pc' := 70) (g_d dtbX11_monthly_0 44 rfl) (by decide) rfl rfl rfl ?_
      refine cz_goto (pc' := 19) (g_d dtbX11_monthly_0 45 rfl) rfl ?_
      rw [show (mnF f n i) + ((pndB (f (7 + n)) (f (21 + n)) ((f 4) + ((i : Int)))) - (f (21 + n))) = mnF f n (i + 1) from rfl]
      exact ih (12 - (i + 1)) (by omega) (i + 1) rfl (by omega)

set_option maxRecDepth 20000 in
set_option maxHeartbeats 4000000 in
theorem b_monthly (G : Wd) (Z : ZS) (A : AS) (B : Int) (hM : MS Z A) (hA : AO B A) (b : Int) (hb : -2147483648 ≤ b ∧ b ≤ 2147483647) : Cn G mX11_monthly 0 [some (.ref 34), some (iv (b)), none, none] [] Z (qi (fun r W => (xMonthly A b).1 = r ∧ MS W (xMonthly A b).2 ∧ FC Z W)) := by
  have hb0 := hA.1
  have hO := hA.2.1
  have h6 : 0 ≤ A.1 6 ∧ A.1 6 ≤ 7 := hO.2.1
  have h28 : 0 ≤ A.1 28 ∧ A.1 28 ≤ 6 := hO.2.2.2.1
  have h59 : 0 ≤ A.1 59 ∧ A.1 59 ≤ 8 := hO.2.2.2.2.2.1
  have hf := hO.1
  unfold FO at hf
  have hct := hA.2.2.2.2.2.2
  refine nz_st (zr_self hM.1) ?_
  refine cz_aload_n (pc' := 1) (g_d dtbX11_monthly_0 0 rfl) rfl rfl ?_
  refine cz_iload_n (pc' := 2) (g_d dtbX11_monthly_0 1 rfl) rfl rfl ?_
  refine nz_cVi (M' := mX11_isBill) (k := 34) (As := [iv (b)]) (S := []) (L := [some (.ref 34), some (iv (b)), none, none]) (pc' := 5) (g_d dtbX11_monthly_0 2 rfl) lk_X11_139 okX11_isBill (by decide) rfl rfl rfl rfl (Nat.le_of_ble_eq_true rfl) (Nat.le_of_ble_eq_true rfl) (by decide) rfl (m_isBill G Z A.1 b (by omega) (by omega)) ?_
  rintro _ _ ⟨rfl, ⟨rfl, hw2⟩ | ⟨rfl, hw2⟩⟩
  · refine nz_if_ne_t (tgt := 15) (g_d dtbX11_monthly_0 3 rfl) (by omega) rfl (by omega) ?_
    obtain ⟨n, rfl⟩ : ∃ n : Nat, b = (n : Int) := ⟨b.toNat, by omega⟩
    have hn7 : n < 7 := by omega
    have hbo := hO.2.2.1 n hn7 (by omega)
    unfold BO at hbo
    have hdI := dayB_in (κ := A.1 (7 + n)) (d := A.1 (14 + n)) (by omega)
    have hpI := pndB_in (κ := A.1 (7 + n)) (p := A.1 (21 + n)) (m := A.1 4) (by omega)
    refine nz_iconst (pc' := 16) (g_d dtbX11_monthly_0 8 rfl) rfl ?_
    refine cz_istore_n (L' := [some (.ref 34), some (iv ((n : Int))), some (iv 0), none]) (pc' := 17) (g_d dtbX11_monthly_0 9 rfl) (by decide) rfl rfl ?_
    refine nz_iconst (pc' := 18) (g_d dtbX11_monthly_0 10 rfl) rfl ?_
    refine cz_istore_n (L' := [some (.ref 34), some (iv ((n : Int))), some (iv 0), some (iv 0)]) (pc' := 19) (g_d dtbX11_monthly_0 11 rfl) (by decide) rfl rfl ?_
    refine nz_wi (k_monthly G Z A.1 n (by omega) (by omega) (by omega) (by omega) (12 - 0) 0 rfl (by omega)) (fun r W h => ?_)
    rw [show xMonthly A (n : Int) = (mnF A.1 n 12, A) from if_pos (by omega)]
    exact ⟨h.1, h.2 ▸ hM.row, h.2 ▸ (FC.r FC.rf (by decide))⟩
  · refine nz_if_ne_f (pc' := 8) (g_d dtbX11_monthly_0 3 rfl) (by omega) (by decide) rfl (by omega) ?_
    refine cz_aload_n (pc' := 9) (g_d dtbX11_monthly_0 4 rfl) rfl rfl ?_
    refine nz_ldc (pc' := 11) (v := -100000) (g_d dtbX11_monthly_0 5 rfl) kn_X11_146 rfl ?_
    refine nz_cVi (M' := mX11_badBy) (k := 34) (As := [iv (-100000)]) (S := []) (L := [some (.ref 34), some (iv (b)), none, none]) (pc' := 14) (g_d dtbX11_monthly_0 6 rfl) lk_X11_143 okX11_badBy (by decide) rfl rfl rfl rfl (Nat.le_of_ble_eq_true rfl) (Nat.le_of_ble_eq_true rfl) (by decide) rfl (m_badBy G (zr Z 35 A.1) (-100000)) ?_
    rintro _ _ ⟨rfl, rfl⟩
    refine nz_ri .int (g_d dtbX11_monthly_0 7 rfl) rfl rfl ?_
    rw [show xMonthly A b = (-100000, aBad A) from by unfold xMonthly; rw [if_neg (by omega)]]
    exact ⟨rfl, ms_bad hM.row, (FC.u (FC.r FC.rf (by decide)) (by decide))⟩

set_option maxRecDepth 20000 in
set_option maxHeartbeats 4000000 in
theorem b_note (G : Wd) (Z : ZS) (A : AS) (B : Int) (hM : MS Z A) (hA : AO B A) (b d e m q : Int) (hb : -2147483648 ≤ b ∧ b ≤ 2147483647) (hd : -2147483648 ≤ d ∧ d ≤ 2147483647) (he : -2147483648 ≤ e ∧ e ≤ 2147483647) (hm : -2147483648 ≤ m ∧ m ≤ 2147483647) (hq : -2147483648 ≤ q ∧ q ≤ 2147483647) : Cn G mX11_note 0 [some (.ref 34), some (iv (b)), some (iv (d)), some (iv (e)), some (iv (m)), some (iv (q)), none] [] Z (qi (fun r W => (xNote A b d e m q).1 = r ∧ MS W (xNote A b d e m q).2 ∧ FC Z W)) := by
  have hb0 := hA.1
  have hO := hA.2.1
  have h6 : 0 ≤ A.1 6 ∧ A.1 6 ≤ 7 := hO.2.1
  have h28 : 0 ≤ A.1 28 ∧ A.1 28 ≤ 6 := hO.2.2.2.1
  have h59 : 0 ≤ A.1 59 ∧ A.1 59 ≤ 8 := hO.2.2.2.2.2.1
  have hf := hO.1
  unfold FO at hf
  have hct := hA.2.2.2.2.2.2
  refine nz_st (zr_self hM.1) ?_
  refine cz_aload_n (pc' := 1) (g_d dtbX11_note_0 0 rfl) rfl rfl ?_
  refine cz_iload_n (pc' := 2) (g_d dtbX11_note_0 1 rfl) rfl rfl ?_
  refine nz_cVi (M' := mX11_isBill) (k := 34) (As := [iv (b)]) (S := []) (L := [some (.ref 34), some (iv (b)), some (iv (d)), some (iv (e)), some (iv (m)), some (iv (q)), none]) (pc' := 5) (g_d dtbX11_note_0 2 rfl) lk_X11_139 okX11_isBill (by decide) rfl rfl rfl rfl (Nat.le_of_ble_eq_true rfl) (Nat.le_of_ble_eq_true rfl) (by decide) rfl (m_isBill G Z A.1 b (by omega) (by omega)) ?_
  rintro _ _ ⟨rfl, ⟨rfl, hw2⟩ | ⟨rfl, hw2⟩⟩
  · refine nz_if_eq_f (pc' := 8) (g_d dtbX11_note_0 3 rfl) (by omega) (by decide) rfl (by omega) ?_
    refine cz_iload_n (pc' := 9) (g_d dtbX11_note_0 4 rfl) rfl rfl ?_
    refine nz_iconst (pc' := 10) (g_d dtbX11_note_0 5 rfl) rfl ?_
    refine nz_bipush (pc' := 12) (g_d dtbX11_note_0 6 rfl) (by decide) rfl ?_
    refine nz_cSi (M' := mX11_in) (As := [iv (d), iv 1, iv 28]) (S := []) (L := [some (.ref 34), some (iv (b)), some (iv (d)), some (iv (e)), some (iv (m)), some (iv (q)), none]) (pc' := 15) (g_d dtbX11_note_0 7 rfl) lk_X11_40 okX11_in rfl rfl (Nat.le_of_ble_eq_true rfl) (Nat.le_of_ble_eq_true rfl) (by decide) rfl (m_in G (zr Z 35 A.1) d 1 28 (by omega) (by omega) (by omega)) ?_
    rintro _ _ ⟨rfl, ⟨rfl, hw12⟩ | ⟨rfl, hw12⟩⟩
    · refine nz_if_eq_f (pc' := 18) (g_d dtbX11_note_0 8 rfl) (by omega) (by decide) rfl (by omega) ?_
      refine cz_iload_n (pc' := 19) (g_d dtbX11_note_0 9 rfl) rfl rfl ?_
      refine nz_iconst (pc' := 20) (g_d dtbX11_note_0 10 rfl) rfl ?_
      refine nz_bipush (pc' := 22) (g_d dtbX11_note_0 11 rfl) (by decide) rfl ?_
      refine nz_cSi (M' := mX11_in) (As := [iv (e), iv 1, iv 28]) (S := []) (L := [some (.ref 34), some (iv (b)), some (iv (d)), some (iv (e)), some (iv (m)), some (iv (q)), none]) (pc' := 25) (g_d dtbX11_note_0 12 rfl) lk_X11_40 okX11_in rfl rfl (Nat.le_of_ble_eq_true rfl) (Nat.le_of_ble_eq_true rfl) (by decide) rfl (m_in G (zr Z 35 A.1) e 1 28 (by omega) (by omega) (by omega)) ?_
      rintro _ _ ⟨rfl, ⟨rfl, hw22⟩ | ⟨rfl, hw22⟩⟩
      · refine nz_if_eq_f (pc' := 28) (g_d dtbX11_note_0 13 rfl) (by omega) (by decide) rfl (by omega) ?_
        refine cz_iload (pc' := 30) (g_d dtbX11_note_0 14 rfl) rfl rfl ?_
        refine nz_iconst (pc' := 31) (g_d dtbX11_note_0 15 rfl) rfl ?_
        refine nz_bipush (pc' := 33) (g_d dtbX11_note_0 16 rfl) (by decide) rfl ?_
        refine nz_cSi (M' := mX11_in) (As := [iv (m), iv 0, iv 40]) (S := []) (L := [some (.ref 34), some (iv (b)), some (iv (d)), some (iv (e)), some (iv (m)), some (iv (q)), none]) (pc' := 36) (g_d dtbX11_note_0 17 rfl) lk_X11_40 okX11_in rfl rfl (Nat.le_of_ble_eq_true rfl) (Nat.le_of_ble_eq_true rfl) (by decide) rfl (m_in G (zr Z 35 A.1) m 0 40 (by omega) (by omega) (by omega)) ?_
        rintro _ _ ⟨rfl, ⟨rfl, hw33⟩ | ⟨rfl, hw33⟩⟩
        · refine nz_if_eq_f (pc' := 39) (g_d dtbX11_note_0 18 rfl) (by omega) (by decide) rfl (by omega) ?_
          refine cz_iload (pc' := 41) (g_d dtbX11_note_0 19 rfl) rfl rfl ?_
          refine nz_sipush (pc' := 44) (g_d dtbX11_note_0 20 rfl) (by decide) rfl ?_
          refine nz_sipush (pc' := 47) (g_d dtbX11_note_0 21 rfl) (by decide) rfl ?_
          refine nz_cSi (M' := mX11_in) (As := [iv (q), iv (-999), iv 999]) (S := []) (L := [some (.ref 34), some (iv (b)), some (iv (d)), some (iv (e)), some (iv (m)), some (iv (q)), none]) (pc' := 50) (g_d dtbX11_note_0 22 rfl) lk_X11_40 okX11_in rfl rfl (Nat.le_of_ble_eq_true rfl) (Nat.le_of_ble_eq_true rfl) (by decide) rfl (m_in G (zr Z 35 A.1) q (-999) 999 (by omega) (by omega) (by omega)) ?_
          rintro _ _ ⟨rfl, ⟨rfl, hw47⟩ | ⟨rfl, hw47⟩⟩
          · refine nz_if_ne_t (tgt := 58) (g_d dtbX11_note_0 23 rfl) (by omega) rfl (by omega) ?_
            refine cz_aload_n (pc' := 59) (g_d dtbX11_note_0 27 rfl) rfl rfl ?_
            refine nz_getf (v := .ref 35) (pc' := 62) (g_d dtbX11_note_0 28 rfl) gf_X11_7 (by decide) rfl rfl rfl ?_
            refine nz_bipush (pc' := 64) (g_d dtbX11_note_0 29 rfl) (by decide) rfl ?_
            refine nz_iald 28 (pc' := 65) (g_d dtbX11_note_0 30 rfl) (by decide) rfl (by omega) (by rfl) (by omega) rfl ?_
            rw [show (zr Z 35 A.1) 35 28 = A.1 28 from by simp [zu, zr, ru]]
            refine nz_bipush (pc' := 67) (g_d dtbX11_note_0 31 rfl) (by decide) rfl ?_
            refine nz_icmp_ne (tgt := 75) (pc' := 70) (g_d dtbX11_note_0 32 rfl) (by omega) (by omega) rfl rfl (fun h67 => ?_) (fun h67 => ?_)
            · obtain ⟨c, hc⟩ : ∃ c : Nat, A.1 28 = (c : Int) := ⟨(A.1 28).toNat, by omega⟩
              refine nz_bipush (pc' := 77) (g_d dtbX11_note_0 36 rfl) (by decide) rfl ?_
              refine nz_iconst (pc' := 78) (g_d dtbX11_note_0 37 rfl) rfl ?_
              refine cz_aload_n (pc' := 79) (g_d dtbX11_note_0 38 rfl) rfl rfl ?_
              refine nz_getf (v := .ref 35) (pc' := 82) (g_d dtbX11_note_0 39 rfl) gf_X11_7 (by decide) rfl rfl rfl ?_
              refine nz_bipush (pc' := 84) (g_d dtbX11_note_0 40 rfl) (by decide) rfl ?_
              refine nz_iald 28 (pc' := 85) (g_d dtbX11_note_0 41 rfl) (by decide) rfl (by omega) (by rfl) (by omega) rfl ?_
              rw [show (zr Z 35 A.1) 35 28 = (c : Int) from by rw [zr_eq]; exact hc]
              refine nz_imul (pc' := 86) (g_d dtbX11_note_0 42 rfl) rfl ?_
              refine nz_iadd (pc' := 87) (g_d dtbX11_note_0 43 rfl) rfl ?_
              refine cz_istore (L' := [some (.ref 34), some (iv (b)), some (iv (d)), some (iv (e)), some (iv (m)), some (iv (q)), some (iv (29 + (5 * ((c : Int)))))]) (pc' := 89) (g_d dtbX11_note_0 44 rfl) (by decide) rfl rfl ?_
              refine cz_aload_n (pc' := 90) (g_d dtbX11_note_0 45 rfl) rfl rfl ?_
              refine nz_getf (v := .ref 35) (pc' := 93) (g_d dtbX11_note_0 46 rfl) gf_X11_7 (by decide) rfl rfl rfl ?_
              refine cz_iload (pc' := 95) (g_d dtbX11_note_0 47 rfl) rfl rfl ?_
              refine cz_iload_n (pc' := 96) (g_d dtbX11_note_0 48 rfl) rfl rfl ?_
              refine nz_iast (29 + 5 * c) (pc' := 97) (g_d dtbX11_note_0 49 rfl) (by decide) rfl (by omega) (by push_cast; omega) (by omega) rfl ?_
              rw [zr_ru]
              refine cz_aload_n (pc' := 98) (g_d dtbX11_note_0 50 rfl) rfl rfl ?_
              refine nz_getf (v := .ref 35) (pc' := 101) (g_d dtbX11_note_0 51 rfl) gf_X11_7 (by decide) rfl rfl rfl ?_
              refine cz_iload (pc' := 103) (g_d dtbX11_note_0 52 rfl) rfl rfl ?_
              refine nz_iconst (pc' := 104) (g_d dtbX11_note_0 53 rfl) rfl ?_
              refine nz_iadd (pc' := 105) (g_d dtbX11_note_0 54 rfl) rfl ?_
              refine cz_iload_n (pc' := 106) (g_d dtbX11_note_0 55 rfl) rfl rfl ?_
              refine nz_iast (29 + 5 * c + 1) (pc' := 107) (g_d dtbX11_note_0 56 rfl) (by decide) rfl (by omega) (by push_cast; omega) (by omega) rfl ?_
              rw [zr_ru]
              refine cz_aload_n (pc' := 108) (g_d dtbX11_note_0 57 rfl) rfl rfl ?_
              refine nz_getf (v := .ref 35) (pc' := 111) (g_d dtbX11_note_0 58 rfl) gf_X11_7 (by decide) rfl rfl rfl ?_
              refine cz_iload (pc' := 113) (g_d dtbX11_note_0 59 rfl) rfl rfl ?_
              refine nz_iconst (pc' := 114) (g_d dtbX11_note_1 0 rfl) rfl ?_
              refine nz_iadd (pc' := 115) (g_d dtbX11_note_1 1 rfl) rfl ?_
              refine cz_iload_n (pc' := 116) (g_d dtbX11_note_1 2 rfl) rfl rfl ?_
              refine nz_iast (29 + 5 * c + 2) (pc' := 117) (g_d dtbX11_note_1 3 rfl) (by decide) rfl (by omega) (by push_cast; omega) (by omega) rfl ?_
              rw [zr_ru]
              refine cz_aload_n (pc' := 118) (g_d dtbX11_note_1 4 rfl) rfl rfl ?_
              refine nz_getf (v := .ref 35) (pc' := 121) (g_d dtbX11_note_1 5 rfl) gf_X11_7 (by decide) rfl rfl rfl ?_
              refine cz_iload (pc' := 123) (g_d dtbX11_note_1 6 rfl) rfl rfl ?_
              refine nz_iconst (pc' := 124) (g_d dtbX11_note_1 7 rfl) rfl ?_
              refine nz_iadd (pc' := 125) (g_d dtbX11_note_1 8 rfl) rfl ?_
              refine cz_iload (pc' := 127) (g_d dtbX11_note_1 9 rfl) rfl rfl ?_
              refine nz_iast (29 + 5 * c + 3) (pc' := 128) (g_d dtbX11_note_1 10 rfl) (by decide) rfl (by omega) (by push_cast; omega) (by omega) rfl ?_
              rw [zr_ru]
              refine cz_aload_n (pc' := 129) (g_d dtbX11_note_1 11 rfl) rfl rfl ?_
              refine nz_getf (v := .ref 35) (pc' := 132) (g_d dtbX11_note_1 12 rfl) gf_X11_7 (by decide) rfl rfl rfl ?_
              refine cz_iload (pc' := 134) (g_d dtbX11_note_1 13 rfl) rfl rfl ?_
              refine nz_iconst (pc' := 135) (g_d dtbX11_note_1 14 rfl) rfl ?_
              refine nz_iadd (pc' := 136) (g_d dtbX11_note_1 15 rfl) rfl ?_
              refine cz_iload (pc' := 138) (g_d dtbX11_note_1 16 rfl) rfl rfl ?_
              refine nz_iast (29 + 5 * c + 4) (pc' := 139) (g_d dtbX11_note_1 17 rfl) (by decide) rfl (by omega) (by push_cast; omega) (by omega) rfl ?_
              rw [zr_ru]
              refine cz_aload_n (pc' := 140) (g_d dtbX11_note_1 18 rfl) rfl rfl ?_
              refine nz_getf (v := .ref 35) (pc' := 143) (g_d dtbX11_note_1 19 rfl) gf_X11_7 (by decide) rfl rfl rfl ?_
              refine nz_bipush (pc' := 145) (g_d dtbX11_note_1 20 rfl) (by decide) rfl ?_
              refine cz_dup2 (pc' := 146) (g_d dtbX11_note_1 21 rfl) rfl rfl rfl ?_
              refine nz_iald 28 (pc' := 147) (g_d dtbX11_note_1 22 rfl) (by decide) rfl (by omega) (by rfl) (by omega) rfl ?_
              rw [show (zr Z 35 (ru (ru (ru (ru (ru A.1 (29 + 5 * c) b) (29 + 5 * c + 1) d) (29 + 5 * c + 2) e) (29 + 5 * c + 3) m) (29 + 5 * c + 4) q)) 35 28 = (c : Int) from by rw [zr_eq, ru_ne (by omega), ru_ne (by omega), ru_ne (by omega), ru_ne (by omega), ru_ne (by omega)]; exact hc]
              refine nz_iconst (pc' := 148) (g_d dtbX11_note_1 23 rfl) rfl ?_
              refine nz_iadd (pc' := 149) (g_d dtbX11_note_1 24 rfl) rfl ?_
              refine nz_iast 28 (pc' := 150) (g_d dtbX11_note_1 25 rfl) (by decide) rfl (by omega) (by rfl) (by omega) rfl ?_
              rw [zr_ru]
              refine cz_aload_n (pc' := 151) (g_d dtbX11_note_1 26 rfl) rfl rfl ?_
              refine nz_getf (v := .ref 35) (pc' := 154) (g_d dtbX11_note_1 27 rfl) gf_X11_7 (by decide) rfl rfl rfl ?_
              refine nz_bipush (pc' := 156) (g_d dtbX11_note_1 28 rfl) (by decide) rfl ?_
              refine nz_iald 28 (pc' := 157) (g_d dtbX11_note_1 29 rfl) (by decide) rfl (by omega) (by rfl) (by omega) rfl ?_
              rw [show (zr Z 35 (ru (ru (ru (ru (ru (ru A.1 (29 + 5 * c) b) (29 + 5 * c + 1) d) (29 + 5 * c + 2) e) (29 + 5 * c + 3) m) (29 + 5 * c + 4) q) 28 (((c : Int)) + 1))) 35 28 = ((c : Int)) + 1 from by simp [zu, zr, ru]]
              refine nz_ri .int (g_d dtbX11_note_1 30 rfl) rfl rfl ?_
              rw [show xNote A b d e m q = (A.1 28 + 1, sF A (rNote A.1 b d e m q)) from by unfold xNote; rw [if_pos (by omega), if_neg (by omega)]]
              rw [show rNote A.1 b d e m q = (ru (ru (ru (ru (ru (ru A.1 (29 + 5 * c) b) (29 + 5 * c + 1) d) (29 + 5 * c + 2) e) (29 + 5 * c + 3) m) (29 + 5 * c + 4) q) 28 (((c : Int)) + 1)) from by rw [rNote, show (A.1 28).toNat = c by omega, hc]; simp only [Nat.add_right_comm 29]]
              exact ⟨by rw [hc], hM.row, (FC.r FC.rf (by decide))⟩
            · refine cz_aload_n (pc' := 71) (g_d dtbX11_note_0 33 rfl) rfl rfl ?_
              refine nz_cVi (M' := mX11_full) (k := 34) (As := []) (S := []) (L := [some (.ref 34), some (iv (b)), some (iv (d)), some (iv (e)), some (iv (m)), some (iv (q)), none]) (pc' := 74) (g_d dtbX11_note_0 34 rfl) lk_X11_48 okX11_full (by decide) rfl rfl rfl rfl (Nat.le_of_ble_eq_true rfl) (Nat.le_of_ble_eq_true rfl) (by decide) rfl (m_full G (zr Z 35 A.1)) ?_
              rintro _ _ ⟨rfl, rfl⟩
              refine nz_ri .int (g_d dtbX11_note_0 35 rfl) rfl rfl ?_
              rw [show xNote A b d e m q = (-4, aFull A) from by unfold xNote; rw [if_pos (by omega), if_pos (by omega)]]
              exact ⟨rfl, ms_full hM.row, (FC.u (FC.r FC.rf (by decide)) (by decide))⟩
          · refine nz_if_ne_f (pc' := 53) (g_d dtbX11_note_0 23 rfl) (by omega) (by decide) rfl (by omega) ?_
            refine cz_aload_n (pc' := 54) (g_d dtbX11_note_0 24 rfl) rfl rfl ?_
            refine nz_cVi (M' := mX11_bad) (k := 34) (As := []) (S := []) (L := [some (.ref 34), some (iv (b)), some (iv (d)), some (iv (e)), some (iv (m)), some (iv (q)), none]) (pc' := 57) (g_d dtbX11_note_0 25 rfl) lk_X11_44 okX11_bad (by decide) rfl rfl rfl rfl (Nat.le_of_ble_eq_true rfl) (Nat.le_of_ble_eq_true rfl) (by decide) rfl (m_bad G (zr Z 35 A.1)) ?_
            rintro _ _ ⟨rfl, rfl⟩
            refine nz_ri .int (g_d dtbX11_note_0 26 rfl) rfl rfl ?_
            rw [show xNote A b d e m q = (-2, aBad A) from by unfold xNote; rw [if_neg (by omega)]]
            exact ⟨rfl, ms_bad hM.row, (FC.u (FC.r FC.rf (by decide)) (by decide))⟩
        · refine nz_if_eq_t (tgt := 53) (g_d dtbX11_note_0 18 rfl) (by omega) rfl (by omega) ?_
          refine cz_aload_n (pc' := 54) (g_d dtbX11_note_0 24 rfl) rfl rfl ?_
          refine nz_cVi (M' := mX11_bad) (k := 34) (As := []) (S := []) (L := [some (.ref 34), some (iv (b)), some (iv (d)), some (iv (e)), some (iv (m)), some (iv (q)), none]) (pc' := 57) (g_d dtbX11_note_0 25 rfl) lk_X11_44 okX11_bad (by decide) rfl rfl rfl rfl (Nat.le_of_ble_eq_true rfl) (Nat.le_of_ble_eq_true rfl) (by decide) rfl (m_bad G (zr Z 35 A.1)) ?_
          rintro _ _ ⟨rfl, rfl⟩
          refine nz_ri .int (g_d dtbX11_note_0 26 rfl) rfl rfl ?_
          rw [show xNote A b d e m q = (-2, aBad A) from by unfold xNote; rw [if_neg (by omega)]]
          exact ⟨rfl, ms_bad hM.row, (FC.u (FC.r FC.rf (by decide)) (by decide))⟩
      · refine nz_if_eq_t (tgt := 53) (g_d dtbX11_note_0 13 rfl) (by omega) rfl (by omega) ?_
        refine cz_aload_n (pc' := 54) (g_d dtbX11_note_0 24 rfl) rfl rfl ?_
        refine nz_cVi (M' := mX11_bad) (k := 34) (As := []) (S := []) (L := [some (.ref 34), some (iv (b)), some (iv (d)), some (iv (e)), some (iv (m)), some (iv (q)), none]) (pc' := 57) (g_d dtbX11_note_0 25 rfl) lk_X11_44 okX11_bad (by decide) rfl rfl rfl rfl (Nat.le_of_ble_eq_true rfl) (Nat.le_of_ble_eq_true rfl) (by decide) rfl (m_bad G (zr Z 35 A.1)) ?_
        rintro _ _ ⟨rfl, rfl⟩
        refine nz_ri .int (g_d dtbX11_note_0 26 rfl) rfl rfl ?_
        rw [show xNote A b d e m q = (-2, aBad A) from by unfold xNote; rw [if_neg (by omega)]]
        exact ⟨rfl, ms_bad hM.row, (FC.u (FC.r FC.rf (by decide)) (by decide))⟩
    · refine nz_if_eq_t (tgt := 53) (g_d dtbX11_note_0 8 rfl) (by omega) rfl (by omega) ?_
      refine cz_aload_n (pc' := 54) (g_d dtbX11_note_0 24 rfl) rfl rfl ?_
      refine nz_cVi (M' := mX11_bad) (k := 34) (As := []) (S := []) (L := [some (.ref 34), some (iv (b)), some (iv (d)), some (iv (e)), some (iv (m)), some (iv (q)), none]) (pc' := 57) (g_d dtbX11_note_0 25 rfl) lk_X11_44 okX11_bad (by decide) rfl rfl rfl rfl (Nat.le_of_ble_eq_true rfl) (Nat.le_of_ble_eq_true rfl) (by decide) rfl (m_bad G (zr Z 35 A.1)) ?_
      rintro _ _ ⟨rfl, rfl⟩
      refine nz_ri .int (g_d dtbX11_note_0 26 rfl) rfl rfl ?_
      rw [show xNote A b d e m q = (-2, aBad A) from by unfold xNote; rw [if_neg (by omega)]]
      exact ⟨rfl, ms_bad hM.row, (FC.u (FC.r FC.rf (by decide)) (by decide))⟩
  · refine nz_if_eq_t (tgt := 53) (g_d dtbX11_note_0 3 rfl) (by omega) rfl (by omega) ?_
    refine cz_aload_n (pc' := 54) (g_d dtbX11_note_0 24 rfl) rfl rfl ?_
    refine nz_cVi (M' := mX11_bad) (k := 34) (As := []) (S := []) (L := [some (.ref 34), some (iv (b)), some (iv (d)), some (iv (e)), some (iv (m)), some (iv (q)), none]) (pc' := 57) (g_d dtbX11_note_0 25 rfl) lk_X11_44 okX11_bad (by decide) rfl rfl rfl rfl (Nat.le_of_ble_eq_true rfl) (Nat.le_of_ble_eq_true rfl) (by decide) rfl (m_bad G (zr Z 35 A.1)) ?_
    rintro _ _ ⟨rfl, rfl⟩
    refine nz_ri .int (g_d dtbX11_note_0 26 rfl) rfl rfl ?_
    rw [show xNote A b d e m q = (-2, aBad A) from by unfold xNote; rw [if_neg (by omega)]]
    exact ⟨rfl, ms_bad hM.row, (FC.u (FC.r FC.rf (by decide)) (by decide))⟩

set_option maxRecDepth 20000 in
set_option maxHeartbeats 4000000 in
theorem b_forget (G : Wd) (Z : ZS) (A : AS) (B : Int) (hM : MS Z A) (hA : AO B A) : Cn G mX11_forget 0 [some (.ref 34), none] [] Z (qi (fun r W => (xForget A).1 = r ∧ MS W (xForget A).2 ∧ FC Z W)) := by
  have hb0 := hA.1
  have hO := hA.2.1
  have h6 : 0 ≤ A.1 6 ∧ A.1 6 ≤ 7 := hO.2.1
  have h28 : 0 ≤ A.1 28 ∧ A.1 28 ≤ 6 := hO.2.2.2.1
  have h59 : 0 ≤ A.1 59 ∧ A.1 59 ≤ 8 := hO.2.2.2.2.2.1
  have hf := hO.1
  unfold FO at hf
  have hct := hA.2.2.2.2.2.2
  refine nz_st (zr_self hM.1) ?_
  refine cz_aload_n (pc' := 1) (g_d dtbX11_forget_0 0 rfl) rfl rfl ?_
  refine nz_getf (v := .ref 35) (pc' := 4) (g_d dtbX11_forget_0 1 rfl) gf_X11_7 (by decide) rfl rfl rfl ?_
  refine nz_bipush (pc' := 6) (g_d dtbX11_forget_0 2 rfl) (by decide) rfl ?_
  refine nz_iald 28 (pc' := 7) (g_d dtbX11_forget_0 3 rfl) (by decide) rfl (by omega) (by rfl) (by omega) rfl ?_
  rw [show (zr Z 35 A.1) 35 28 = A.1 28 from by simp [zu, zr, ru]]
  refine cz_istore_n (L' := [some (.ref 34), some (iv (A.1 28))]) (pc' := 8) (g_d dtbX11_forget_0 4 rfl) (by decide) rfl rfl ?_
  refine cz_aload_n (pc' := 9) (g_d dtbX11_forget_0 5 rfl) rfl rfl ?_
  refine nz_getf (v := .ref 35) (pc' := 12) (g_d dtbX11_forget_0 6 rfl) gf_X11_7 (by decide) rfl rfl rfl ?_
  refine nz_bipush (pc' := 14) (g_d dtbX11_forget_0 7 rfl) (by decide) rfl ?_
  refine nz_iconst (pc' := 15) (g_d dtbX11_forget_0 8 rfl) rfl ?_
  refine nz_iast 28 (pc' := 16) (g_d dtbX11_forget_0 9 rfl) (by decide) rfl (by omega) (by rfl) (by omega) rfl ?_
  rw [zr_ru]
  refine cz_iload_n (pc' := 17) (g_d dtbX11_forget_0 10 rfl) rfl rfl ?_
  refine nz_ri .int (g_d dtbX11_forget_0 11 rfl) rfl rfl ?_
  exact ⟨rfl, hM.row, (FC.r FC.rf (by decide))⟩

set_option maxRecDepth 20000 in
set_option maxHeartbeats 4000000 in
theorem b_part (G : Wd) (Z : ZS) (A : AS) (B : Int) (hM : MS Z A) (hA : AO B A) (w : Int) (hw : -2147483648 ≤ w ∧ w ≤ 2147483647) : Cn G mX11_part 0 [some (.ref 34), some (iv (w))] [] Z (ql (fun r W => (xPart A w).1 = r ∧ MS W (xPart A w).2 ∧ FC Z W)) := by
  have hb0 := hA.1
  have hO := hA.2.1
  have h6 : 0 ≤ A.1 6 ∧ A.1 6 ≤ 7 := hO.2.1
  have h28 : 0 ≤ A.1 28 ∧ A.1 28 ≤ 6 := hO.2.2.2.1
  have h59 : 0 ≤ A.1 59 ∧ A.1 59 ≤ 8 := hO.2.2.2.2.2.1
  have hf := hO.1
  unfold FO at hf
  have hct := hA.2.2.2.2.2.2
  have ht := hM.2.2.2.1
  have hto := hA.2.2.2.2.1
  have hq := hM.2.2.2.2.1
  have hst := hM.2.2.2.2.2
  refine cz_iload_n (pc' := 1) (g_d dtbX11_part_0 0 rfl) rfl rfl ?_
  refine nz_if_ne (tgt := 11) (pc' := 4) (g_d dtbX11_part_0 1 rfl) (by omega) rfl rfl (fun h1 => ?_) (fun h1 => ?_)
  · refine cz_iload_n (pc' := 12) (g_d dtbX11_part_0 5 rfl) rfl rfl ?_
    refine nz_iconst (pc' := 13) (g_d dtbX11_part_0 6 rfl) rfl ?_
    refine nz_icmp_ne (tgt := 23) (pc' := 16) (g_d dtbX11_part_0 7 rfl) (by omega) (by omega) rfl rfl (fun h13 => ?_) (fun h13 => ?_)
    · refine cz_aload_n (pc' := 24) (g_d dtbX11_part_0 11 rfl) rfl rfl ?_
      refine nz_cVi (M' := mX11_bad) (k := 34) (As := []) (S := []) (L := [some (.ref 34), some (iv (w))]) (pc' := 27) (g_d dtbX11_part_0 12 rfl) lk_X11_44 okX11_bad (by decide) rfl rfl rfl rfl (Nat.le_of_ble_eq_true rfl) (Nat.le_of_ble_eq_true rfl) (by decide) rfl (m_bad G Z) ?_
      rintro _ _ ⟨rfl, rfl⟩
      refine nz_i2l (pc' := 28) (g_d dtbX11_part_0 13 rfl) (by omega) rfl ?_
      refine nz_rl (g_d dtbX11_part_0 14 rfl) rfl ?_
      rw [show xPart A w = (-2, aBad A) from by unfold xPart; rw [if_neg (by omega), if_neg (by omega)]]
      exact ⟨rfl, ms_bad hM, FC.u FC.rf (by decide)⟩
    · refine cz_aload_n (pc' := 17) (g_d dtbX11_part_0 8 rfl) rfl rfl ?_
      refine nz_getf (v := il (A.2.2.2.2.1.2)) (pc' := 20) (g_d dtbX11_part_0 9 rfl) gf_X11_29 (by decide) rfl (congrArg il (hq.2)) rfl ?_
      refine cz_goto (pc' := 28) (g_d dtbX11_part_0 10 rfl) rfl ?_
      refine nz_rl (g_d dtbX11_part_0 14 rfl) rfl ?_
      rw [show xPart A w = (A.2.2.2.2.1.2, A) from by unfold xPart; rw [if_neg (by omega), if_pos (by omega)]]
      exact ⟨rfl, hM, FC.rf⟩
  · refine cz_aload_n (pc' := 5) (g_d dtbX11_part_0 2 rfl) rfl rfl ?_
    refine nz_getf (v := il (A.2.2.2.2.1.1)) (pc' := 8) (g_d dtbX11_part_0 3 rfl) gf_X11_171 (by decide) rfl (congrArg il (hq.1)) rfl ?_
    refine cz_goto (pc' := 28) (g_d dtbX11_part_0 4 rfl) rfl ?_
    refine nz_rl (g_d dtbX11_part_0 14 rfl) rfl ?_
    rw [show xPart A w = (A.2.2.2.2.1.1, A) from if_pos (by omega)]
    exact ⟨rfl, hM, FC.rf⟩

set_option maxRecDepth 20000 in
set_option maxHeartbeats 4000000 in
theorem b_status (G : Wd) (Z : ZS) (A : AS) (B : Int) (hM : MS Z A) (hA : AO B A) (w : Int) (hw : -2147483648 ≤ w ∧ w ≤ 2147483647) : Cn G mX11_status 0 [some (.ref 34), some (iv (w))] [] Z (qi (fun r W => (xStatus A w).1 = r ∧ MS W (xStatus A w).2 ∧ FC Z W)) := by
  have hb0 := hA.1
  have hO := hA.2.1
  have h6 : 0 ≤ A.1 6 ∧ A.1 6 ≤ 7 := hO.2.1
  have h28 : 0 ≤ A.1 28 ∧ A.1 28 ≤ 6 := hO.2.2.2.1
  have h59 : 0 ≤ A.1 59 ∧ A.1 59 ≤ 8 := hO.2.2.2.2.2.1
  have hf := hO.1
  unfold FO at hf
  have hct := hA.2.2.2.2.2.2
  have ht := hM.2.2.2.1
  have hto := hA.2.2.2.2.1
  have hq := hM.2.2.2.2.1
  have hst := hM.2.2.2.2.2
  refine cz_iload_n (pc' := 1) (g_d dtbX11_status_0 0 rfl) rfl rfl ?_
  refine nz_iconst (pc' := 2) (g_d dtbX11_status_0 1 rfl) rfl ?_
  refine nz_iconst (pc' := 3) (g_d dtbX11_status_0 2 rfl) rfl ?_
  refine nz_cSi (M' := mX11_in) (As := [iv (w), iv 0, iv 2]) (S := []) (L := [some (.ref 34), some (iv (w))]) (pc' := 6) (g_d dtbX11_status_0 3 rfl) lk_X11_40 okX11_in rfl rfl (Nat.le_of_ble_eq_true rfl) (Nat.le_of_ble_eq_true rfl) (by decide) rfl (m_in G Z w 0 2 (by omega) (by omega) (by omega)) ?_
  rintro _ _ ⟨rfl, ⟨rfl, hw3⟩ | ⟨rfl, hw3⟩⟩
  · refine nz_if_eq_f (pc' := 9) (g_d dtbX11_status_0 4 rfl) (by omega) (by decide) rfl (by omega) ?_
    rcases (show w = 0 ∨ w = 1 ∨ w = 2 by omega) with rfl | rfl | rfl
    · refine cz_aload_n (pc' := 10) (g_d dtbX11_status_0 5 rfl) rfl rfl ?_
      refine nz_getf (v := .ref 40) (pc' := 13) (g_d dtbX11_status_0 6 rfl) gf_X11_26 (by decide) rfl rfl rfl ?_
      refine cz_iload_n (pc' := 14) (g_d dtbX11_status_0 7 rfl) rfl rfl ?_
      refine nz_iald 0 (pc' := 15) (g_d dtbX11_status_0 8 rfl) (by decide) rfl (by omega) (by rfl) (by omega) rfl ?_
      rw [show Z 40 0 = A.2.2.2.2.2.1 from hst.1]
      refine cz_goto (pc' := 23) (g_d dtbX11_status_0 9 rfl) rfl ?_
      refine nz_ri .int (g_d dtbX11_status_0 13 rfl) rfl rfl ?_
      exact ⟨rfl, hM, FC.rf⟩
    · refine cz_aload_n (pc' := 10) (g_d dtbX11_status_0 5 rfl) rfl rfl ?_
      refine nz_getf (v := .ref 40) (pc' := 13) (g_d dtbX11_status_0 6 rfl) gf_X11_26 (by decide) rfl rfl rfl ?_
      refine cz_iload_n (pc' := 14) (g_d dtbX11_status_0 7 rfl) rfl rfl ?_
      refine nz_iald 1 (pc' := 15) (g_d dtbX11_status_0 8 rfl) (by decide) rfl (by omega) (by rfl) (by omega) rfl ?_
      rw [show Z 40 1 = A.2.2.2.2.2.2.1 from hst.2.1]
      refine cz_goto (pc' := 23) (g_d dtbX11_status_0 9 rfl) rfl ?_
      refine nz_ri .int (g_d dtbX11_status_0 13 rfl) rfl rfl ?_
      exact ⟨rfl, hM, FC.rf⟩
    · refine cz_aload_n (pc' := 10) (g_d dtbX11_status_0 5 rfl) rfl rfl ?_
      refine nz_getf (v := .ref 40) (pc' := 13) (g_d dtbX11_status_0 6 rfl) gf_X11_26 (by decide) rfl rfl rfl ?_
      refine cz_iload_n (pc' := 14) (g_d dtbX11_status_0 7 rfl) rfl rfl ?_
      refine nz_iald 2 (pc' := 15) (g_d dtbX11_status_0 8 rfl) (by decide) rfl (by omega) (by rfl) (by omega) rfl ?_
      rw [show Z 40 2 = A.2.2.2.2.2.2.2 from hst.2.2]
      refine cz_goto (pc' := 23) (g_d dtbX11_status_0 9 rfl) rfl ?_
      refine nz_ri .int (g_d dtbX11_status_0 13 rfl) rfl rfl ?_
      exact ⟨rfl, hM, FC.rf⟩
  · refine nz_if_eq_t (tgt := 18) (g_d dtbX11_status_0 4 rfl) (by omega) rfl (by omega) ?_
    refine cz_aload_n (pc' := 19) (g_d dtbX11_status_0 10 rfl) rfl rfl ?_
    refine nz_iconst (pc' := 20) (g_d dtbX11_status_0 11 rfl) rfl ?_
    refine nz_cVi (M' := mX11_badBy) (k := 34) (As := [iv (-1)]) (S := []) (L := [some (.ref 34), some (iv (w))]) (pc' := 23) (g_d dtbX11_status_0 12 rfl) lk_X11_143 okX11_badBy (by decide) rfl rfl rfl rfl (Nat.le_of_ble_eq_true rfl) (Nat.le_of_ble_eq_true rfl) (by decide) rfl (m_badBy G Z (-1)) ?_
    rintro _ _ ⟨rfl, rfl⟩
    refine nz_ri .int (g_d dtbX11_status_0 13 rfl) rfl rfl ?_
    rw [show xStatus A w = (-1, aBad A) from by unfold xStatus; rw [if_neg (by omega), if_neg (by omega), if_neg (by omega)]]
    exact ⟨rfl, ms_bad hM, FC.u FC.rf (by decide)⟩

def cnt (A : AS) (w : Int) : Int := if w = 0 then A.1 6 else if w = 1 then A.1 28 else if w = 2 then A.1 59 else (A.2.2.2.1.1 : Int)

set_option maxRecDepth 20000 in
set_option maxHeartbeats 4000000 in
theorem m_counted (G : Wd) (Z : ZS) (A : AS) (hM : MS Z A) (w : Int) (hw : -2147483648 ≤ w ∧ w ≤ 2147483647) : Cn G mX11_counted 0 [some (.ref 34), some (iv (w))] [] Z (qi (fun r W => cnt A w = r ∧ Z = W)) := by
  have ht := hM.2.2.2.1
  refine cz_iload_n (pc' := 1) (g_d dtbX11_counted_0 0 rfl) rfl rfl ?_
  refine nz_if_ne (tgt := 14) (pc' := 4) (g_d dtbX11_counted_0 1 rfl) (by omega) rfl rfl (fun h1 => ?_) (fun h1 => ?_)
  · refine cz_iload_n (pc' := 15) (g_d dtbX11_counted_0 7 rfl) rfl rfl ?_
    refine nz_iconst (pc' := 16) (g_d dtbX11_counted_0 8 rfl) rfl ?_
    refine nz_icmp_ne (tgt := 29) (pc' := 19) (g_d dtbX11_counted_0 9 rfl) (by omega) (by omega) rfl rfl (fun h16 => ?_) (fun h16 => ?_)
    · refine cz_iload_n (pc' := 30) (g_d dtbX11_counted_0 15 rfl) rfl rfl ?_
      refine nz_iconst (pc' := 31) (g_d dtbX11_counted_0 16 rfl) rfl ?_
      refine nz_icmp_ne (tgt := 44) (pc' := 34) (g_d dtbX11_counted_0 17 rfl) (by omega) (by omega) rfl rfl (fun h31 => ?_) (fun h31 => ?_)
      · refine cz_aload_n (pc' := 45) (g_d dtbX11_counted_0 23 rfl) rfl rfl ?_
        refine nz_getf (v := iv ((A.2.2.2.1.1 : Int))) (pc' := 48) (g_d dtbX11_counted_0 24 rfl) gf_X11_55 (by decide) rfl (congrArg iv (ht.1)) rfl ?_
        refine nz_ri .int (g_d dtbX11_counted_0 25 rfl) rfl rfl ?_
        exact ⟨by unfold cnt; rw [if_neg (by omega), if_neg (by omega), if_neg (by omega)], rfl⟩
      · refine cz_aload_n (pc' := 35) (g_d dtbX11_counted_0 18 rfl) rfl rfl ?_
        refine nz_getf (v := .ref 35) (pc' := 38) (g_d dtbX11_counted_0 19 rfl) gf_X11_7 (by decide) rfl rfl rfl ?_
        refine nz_bipush (pc' := 40) (g_d dtbX11_counted_0 20 rfl) (by decide) rfl ?_
        refine nz_iald 59 (pc' := 41) (g_d dtbX11_counted_0 21 rfl) (by decide) rfl (by omega) (by rfl) (by omega) rfl ?_
        rw [show Z 35 59 = A.1 59 from congrFun hM.1 _]
        refine cz_goto (pc' := 48) (g_d dtbX11_counted_0 22 rfl) rfl ?_
        refine nz_ri .int (g_d dtbX11_counted_0 25 rfl) rfl rfl ?_
        exact ⟨by unfold cnt; rw [if_neg (by omega), if_neg (by omega), if_pos (by omega)], rfl⟩
    · refine cz_aload_n (pc' := 20) (g_d dtbX11_counted_0 10 rfl) rfl rfl ?_
      refine nz_getf (v := .ref 35) (pc' := 23) (g_d dtbX11_counted_0 11 rfl) gf_X11_7 (by decide) rfl rfl rfl ?_
      refine nz_bipush (pc' := 25) (g_d dtbX11_counted_0 12 rfl) (by decide) rfl ?_
      refine nz_iald 28 (pc' := 26) (g_d dtbX11_counted_0 13 rfl) (by decide) rfl (by omega) (by rfl) (by omega) rfl ?_
      rw [show Z 35 28 = A.1 28 from congrFun hM.1 _]
      refine cz_goto (pc' := 48) (g_d dtbX11_counted_0 14 rfl) rfl ?_
      refine nz_ri .int (g_d dtbX11_counted_0 25 rfl) rfl rfl ?_
      exact ⟨by unfold cnt; rw [if_neg (by omega), if_pos (by omega)], rfl⟩
  · refine cz_aload_n (pc' := 5) (g_d dtbX11_counted_0 2 rfl) rfl rfl ?_
    refine nz_getf (v := .ref 35) (pc' := 8) (g_d dtbX11_counted_0 3 rfl) gf_X11_7 (by decide) rfl rfl rfl ?_
    refine nz_bipush (pc' := 10) (g_d dtbX11_counted_0 4 rfl) (by decide) rfl ?_
    refine nz_iald 6 (pc' := 11) (g_d dtbX11_counted_0 5 rfl) (by decide) rfl (by omega) (by rfl) (by omega) rfl ?_
    rw [show Z 35 6 = A.1 6 from congrFun hM.1 _]
    refine cz_goto (pc' := 48) (g_d dtbX11_counted_0 6 rfl) rfl ?_
    refine nz_ri .int (g_d dtbX11_counted_0 25 rfl) rfl rfl ?_
    exact ⟨by unfold cnt; rw [if_pos (by omega)], rfl⟩

set_option maxRecDepth 20000 in
set_option maxHeartbeats 4000000 in
theorem b_count (G : Wd) (Z : ZS) (A : AS) (B : Int) (hM : MS Z A) (hA : AO B A) (w : Int) (hw : -2147483648 ≤ w ∧ w ≤ 2147483647) : Cn G mX11_count 0 [some (.ref 34), some (iv (w))] [] Z (qi (fun r W => (xCount A w).1 = r ∧ MS W (xCount A w).2 ∧ FC Z W)) := by
  have hb0 := hA.1
  have hO := hA.2.1
  have h6 : 0 ≤ A.1 6 ∧ A.1 6 ≤ 7 := hO.2.1
  have h28 : 0 ≤ A.1 28 ∧ A.1 28 ≤ 6 := hO.2.2.2.1
  have h59 : 0 ≤ A.1 59 ∧ A.1 59 ≤ 8 := hO.2.2.2.2.2.1
  have hf := hO.1
  unfold FO at hf
  have hct := hA.2.2.2.2.2.2
  have ht := hM.2.2.2.1
  have hto := hA.2.2.2.2.1
  have hq := hM.2.2.2.2.1
  have hst := hM.2.2.2.2.2
  refine cz_iload_n (pc' := 1) (g_d dtbX11_count_0 0 rfl) rfl rfl ?_
  refine nz_iconst (pc' := 2) (g_d dtbX11_count_0 1 rfl) rfl ?_
  refine nz_iconst (pc' := 3) (g_d dtbX11_count_0 2 rfl) rfl ?_
  refine nz_cSi (M' := mX11_in) (As := [iv (w), iv 0, iv 3]) (S := []) (L := [some (.ref 34), some (iv (w))]) (pc' := 6) (g_d dtbX11_count_0 3 rfl) lk_X11_40 okX11_in rfl rfl (Nat.le_of_ble_eq_true rfl) (Nat.le_of_ble_eq_true rfl) (by decide) rfl (m_in G Z w 0 3 (by omega) (by omega) (by omega)) ?_
  rintro _ _ ⟨rfl, ⟨rfl, hw3⟩ | ⟨rfl, hw3⟩⟩
  · refine nz_if_eq_f (pc' := 9) (g_d dtbX11_count_0 4 rfl) (by omega) (by decide) rfl (by omega) ?_
    refine cz_aload_n (pc' := 10) (g_d dtbX11_count_0 5 rfl) rfl rfl ?_
    refine cz_iload_n (pc' := 11) (g_d dtbX11_count_0 6 rfl) rfl rfl ?_
    refine nz_cVi (M' := mX11_counted) (k := 34) (As := [iv (w)]) (S := []) (L := [some (.ref 34), some (iv (w))]) (pc' := 14) (g_d dtbX11_count_0 7 rfl) lk_X11_185 okX11_counted (by decide) rfl rfl rfl rfl (Nat.le_of_ble_eq_true rfl) (Nat.le_of_ble_eq_true rfl) (by decide) rfl (m_counted G Z A hM w (by omega)) ?_
    rintro _ _ ⟨rfl, rfl⟩
    refine cz_goto (pc' := 21) (g_d dtbX11_count_0 8 rfl) rfl ?_
    refine nz_ri .int (g_d dtbX11_count_0 11 rfl) rfl rfl ?_
    rw [show xCount A w = (cnt A w, A) from by unfold xCount cnt; (repeat' split) <;> first | rfl | omega]
    exact ⟨rfl, hM, FC.rf⟩
  · refine nz_if_eq_t (tgt := 17) (g_d dtbX11_count_0 4 rfl) (by omega) rfl (by omega) ?_
    refine cz_aload_n (pc' := 18) (g_d dtbX11_count_0 9 rfl) rfl rfl ?_
    refine nz_cVi (M' := mX11_bad) (k := 34) (As := []) (S := []) (L := [some (.ref 34), some (iv (w))]) (pc' := 21) (g_d dtbX11_count_0 10 rfl) lk_X11_44 okX11_bad (by decide) rfl rfl rfl rfl (Nat.le_of_ble_eq_true rfl) (Nat.le_of_ble_eq_true rfl) (by decide) rfl (m_bad G Z) ?_
    rintro _ _ ⟨rfl, rfl⟩
    refine nz_ri .int (g_d dtbX11_count_0 11 rfl) rfl rfl ?_
    rw [show xCount A w = (-2, aBad A) from by unfold xCount; rw [if_neg (by omega), if_neg (by omega), if_neg (by omega), if_neg (by omega)]]
    exact ⟨rfl, ms_bad hM, FC.u FC.rf (by decide)⟩

theorem MS.img0 {Z : ZS} {A : AS} (h : MS Z A) : MS (zu (zr Z 38 (zcp (Z 35) (Z 38) 0 0 108)) 39 0 1) (sI0 A A.1) := by
  obtain ⟨h1, h2, h3, h4, h5, h6⟩ := h
  unfold MS
  rw [zu_row (show (35 : Nat) ≠ 39 by decide), zu_row (show (38 : Nat) ≠ 39 by decide), zu_row (show (34 : Nat) ≠ 39 by decide), zu_row (show (41 : Nat) ≠ 39 by decide), zu_row (show (40 : Nat) ≠ 39 by decide), zr_eq, zr_ne (show (35 : Nat) ≠ 38 by decide), zr_ne (show (34 : Nat) ≠ 38 by decide), zr_ne (show (41 : Nat) ≠ 38 by decide), zr_ne (show (40 : Nat) ≠ 38 by decide)]
  refine ⟨h1, ⟨zu_eq, fun _ j hj => ?_⟩, ⟨?_, fun q j hj => ?_⟩, h4, h5, h6⟩
  · rw [zcp, if_pos (by omega), h1]; simp [sI0]
  · rw [zu_ne (by omega), zr_ne (by decide)]; exact h3.1
  · rw [zcp, if_neg (by omega)]; exact h3.2 q j hj
theorem MS.img1 {Z : ZS} {A : AS} (h : MS Z A) : MS (zu (zr Z 38 (zcp (Z 35) (Z 38) 0 108 108)) 39 1 1) (sI1 A A.1) := by
  obtain ⟨h1, h2, h3, h4, h5, h6⟩ := h
  unfold MS
  rw [zu_row (show (35 : Nat) ≠ 39 by decide), zu_row (show (38 : Nat) ≠ 39 by decide), zu_row (show (34 : Nat) ≠ 39 by decide), zu_row (show (41 : Nat) ≠ 39 by decide), zu_row (show (40 : Nat) ≠ 39 by decide), zr_eq, zr_ne (show (35 : Nat) ≠ 38 by decide), zr_ne (show (34 : Nat) ≠ 38 by decide), zr_ne (show (41 : Nat) ≠ 38 by decide), zr_ne (show (40 : Nat) ≠ 38 by decide)]
  refine ⟨h1, ⟨?_, fun q j hj => ?_⟩, ⟨zu_eq, fun _ j hj => ?_⟩, h4, h5, h6⟩
  · rw [zu_ne (by omega), zr_ne (by decide)]; exact h2.1
  · rw [zcp, if_neg (by omega)]; exact h2.2 q j hj
  · rw [zcp, if_pos (by omega), h1]; simp [sI1]
theorem from_row {Z : ZS} {g f : Row} {i : Nat} (h : ∀ j, j < 108 → Z 38 (i + j) = g j) (h1 : Z 35 = f) : zcp (Z 38) (Z 35) i 0 108 = r108 g f := by
  funext j
  unfold zcp r108
  by_cases q : j < 108
  · rw [if_pos (by omega), if_pos q, Nat.sub_zero, h j q]
  · rw [if_neg (by omega), if_neg q, h1]

set_option maxRecDepth 20000 in
set_option maxHeartbeats 4000000 in
theorem b_image (G : Wd) (Z : ZS) (A : AS) (B : Int) (hM : MS Z A) (hA : AO B A) (i : Int) (hi : -2147483648 ≤ i ∧ i ≤ 2147483647) : Cn G mX11_image 0 [some (.ref 34), some (iv (i))] [] Z (qi (fun r W => (xImage A i).1 = r ∧ MS W (xImage A i).2 ∧ FC Z W)) := by
  have hb0 := hA.1
  have hO := hA.2.1
  have h6 : 0 ≤ A.1 6 ∧ A.1 6 ≤ 7 := hO.2.1
  have h28 : 0 ≤ A.1 28 ∧ A.1 28 ≤ 6 := hO.2.2.2.1
  have h59 : 0 ≤ A.1 59 ∧ A.1 59 ≤ 8 := hO.2.2.2.2.2.1
  have hf := hO.1
  unfold FO at hf
  have hct := hA.2.2.2.2.2.2
  have ht := hM.2.2.2.1
  have hto := hA.2.2.2.2.1
  have hq := hM.2.2.2.2.1
  have hst := hM.2.2.2.2.2
  refine cz_iload_n (pc' := 1) (g_d dtbX11_image_0 0 rfl) rfl rfl ?_
  refine nz_iconst (pc' := 2) (g_d dtbX11_image_0 1 rfl) rfl ?_
  refine nz_iconst (pc' := 3) (g_d dtbX11_image_0 2 rfl) rfl ?_
  refine nz_cSi (M' := mX11_in) (As := [iv (i), iv 0, iv 1]) (S := []) (L := [some (.ref 34), some (iv (i))]) (pc' := 6) (g_d dtbX11_image_0 3 rfl) lk_X11_40 okX11_in rfl rfl (Nat.le_of_ble_eq_true rfl) (Nat.le_of_ble_eq_true rfl) (by decide) rfl (m_in G Z i 0 1 (by omega) (by omega) (by omega)) ?_
  rintro _ _ ⟨rfl, ⟨rfl, hw3⟩ | ⟨rfl, hw3⟩⟩
  · refine nz_if_ne_t (tgt := 14) (g_d dtbX11_image_0 4 rfl) (by omega) rfl (by omega) ?_
    rcases (show i = 0 ∨ i = 1 by omega) with rfl | rfl
    · refine cz_aload_n (pc' := 15) (g_d dtbX11_image_0 8 rfl) rfl rfl ?_
      refine nz_getf (v := .ref 35) (pc' := 18) (g_d dtbX11_image_0 9 rfl) gf_X11_7 (by decide) rfl rfl rfl ?_
      refine nz_iconst (pc' := 19) (g_d dtbX11_image_0 10 rfl) rfl ?_
      refine cz_aload_n (pc' := 20) (g_d dtbX11_image_0 11 rfl) rfl rfl ?_
      refine nz_getf (v := .ref 38) (pc' := 23) (g_d dtbX11_image_0 12 rfl) gf_X11_19 (by decide) rfl rfl rfl ?_
      refine nz_bipush (pc' := 25) (g_d dtbX11_image_0 13 rfl) (by decide) rfl ?_
      refine cz_iload_n (pc' := 26) (g_d dtbX11_image_0 14 rfl) rfl rfl ?_
      refine nz_imul (pc' := 27) (g_d dtbX11_image_0 15 rfl) rfl ?_
      refine nz_bipush (pc' := 29) (g_d dtbX11_image_0 16 rfl) (by decide) rfl ?_
      refine nz_cSv (M' := mX11_bring) (As := [.ref 35, iv 0, .ref 38, iv (108 * 0), iv 108]) (S := []) (L := [some (.ref 34), some (iv 0)]) (pc' := 32) (g_d dtbX11_image_0 17 rfl) lk_X11_113 okX11_bring rfl rfl (Nat.le_of_ble_eq_true rfl) (Nat.le_of_ble_eq_true rfl) (by decide) rfl (m_bring2 G Z 0 (108 * 0) 108 35 38 0 0 108 108 216 (by decide) (by decide) rfl rfl (by decide) (by decide) (by decide) (by decide) (by decide) rfl rfl rfl) ?_
      rintro _ rfl
      refine cz_aload_n (pc' := 33) (g_d dtbX11_image_0 18 rfl) rfl rfl ?_
      refine nz_getf (v := .ref 39) (pc' := 36) (g_d dtbX11_image_0 19 rfl) gf_X11_22 (by decide) rfl rfl rfl ?_
      refine cz_iload_n (pc' := 37) (g_d dtbX11_image_0 20 rfl) rfl rfl ?_
      refine nz_iconst (pc' := 38) (g_d dtbX11_image_0 21 rfl) rfl ?_
      refine nz_zast 0 (pc' := 39) (g_d dtbX11_image_0 22 rfl) (by decide) rfl (by omega) (by rfl) (by omega) rfl rfl ?_
      refine nz_iconst (pc' := 40) (g_d dtbX11_image_0 23 rfl) rfl ?_
      refine nz_ri .int (g_d dtbX11_image_0 24 rfl) rfl rfl ?_
      exact ⟨rfl, hM.img0, FC.u (FC.r FC.rf (by decide)) (by decide)⟩
    · refine cz_aload_n (pc' := 15) (g_d dtbX11_image_0 8 rfl) rfl rfl ?_
      refine nz_getf (v := .ref 35) (pc' := 18) (g_d dtbX11_image_0 9 rfl) gf_X11_7 (by decide) rfl rfl rfl ?_
      refine nz_iconst (pc' := 19) (g_d dtbX11_image_0 10 rfl) rfl ?_
      refine cz_aload_n (pc' := 20) (g_d dtbX11_image_0 11 rfl) rfl rfl ?_
      refine nz_getf (v := .ref 38) (pc' := 23) (g_d dtbX11_image_0 12 rfl) gf_X11_19 (by decide) rfl rfl rfl ?_
      refine nz_bipush (pc' := 25) (g_d dtbX11_image_0 13 rfl) (by decide) rfl ?_
      refine cz_iload_n (pc' := 26) (g_d dtbX11_image_0 14 rfl) rfl rfl ?_
      refine nz_imul (pc' := 27) (g_d dtbX11_image_0 15 rfl) rfl ?_
      refine nz_bipush (pc' := 29) (g_d dtbX11_image_0 16 rfl) (by decide) rfl ?_
      refine nz_cSv (M' := mX11_bring) (As := [.ref 35, iv 0, .ref 38, iv (108 * 1), iv 108]) (S := []) (L := [some (.ref 34), some (iv 1)]) (pc' := 32) (g_d dtbX11_image_0 17 rfl) lk_X11_113 okX11_bring rfl rfl (Nat.le_of_ble_eq_true rfl) (Nat.le_of_ble_eq_true rfl) (by decide) rfl (m_bring2 G Z 0 (108 * 1) 108 35 38 0 108 108 108 216 (by decide) (by decide) rfl rfl (by decide) (by decide) (by decide) (by decide) (by decide) rfl rfl rfl) ?_
      rintro _ rfl
      refine cz_aload_n (pc' := 33) (g_d dtbX11_image_0 18 rfl) rfl rfl ?_
      refine nz_getf (v := .ref 39) (pc' := 36) (g_d dtbX11_image_0 19 rfl) gf_X11_22 (by decide) rfl rfl rfl ?_
      refine cz_iload_n (pc' := 37) (g_d dtbX11_image_0 20 rfl) rfl rfl ?_
      refine nz_iconst (pc' := 38) (g_d dtbX11_image_0 21 rfl) rfl ?_
      refine nz_zast 1 (pc' := 39) (g_d dtbX11_image_0 22 rfl) (by decide) rfl (by omega) (by rfl) (by omega) rfl rfl ?_
      refine nz_iconst (pc' := 40) (g_d dtbX11_image_0 23 rfl) rfl ?_
      refine nz_ri .int (g_d dtbX11_image_0 24 rfl) rfl rfl ?_
      exact ⟨rfl, hM.img1, FC.u (FC.r FC.rf (by decide)) (by decide)⟩
  · refine nz_if_ne_f (pc' := 9) (g_d dtbX11_image_0 4 rfl) (by omega) (by decide) rfl (by omega) ?_
    refine cz_aload_n (pc' := 10) (g_d dtbX11_image_0 5 rfl) rfl rfl ?_
    refine nz_cVi (M' := mX11_bad) (k := 34) (As := []) (S := []) (L := [some (.ref 34), some (iv (i))]) (pc' := 13) (g_d dtbX11_image_0 6 rfl) lk_X11_44 okX11_bad (by decide) rfl rfl rfl rfl (Nat.le_of_ble_eq_true rfl) (Nat.le_of_ble_eq_true rfl) (by decide) rfl (m_bad G Z) ?_
    rintro _ _ ⟨rfl, rfl⟩
    refine nz_ri .int (g_d dtbX11_image_0 7 rfl) rfl rfl ?_
    rw [show xImage A i = (-2, aBad A) from by unfold xImage; rw [if_neg (by omega), if_neg (by omega)]]
    exact ⟨rfl, ms_bad hM, FC.u FC.rf (by decide)⟩

set_option maxRecDepth 20000 in
set_option maxHeartbeats 4000000 in
theorem b_from (G : Wd) (Z : ZS) (A : AS) (B : Int) (hM : MS Z A) (hA : AO B A) (i : Int) (hi : -2147483648 ≤ i ∧ i ≤ 2147483647) : Cn G mX11_from 0 [some (.ref 34), some (iv (i))] [] Z (qi (fun r W => (xFrom A i).1 = r ∧ MS W (xFrom A i).2 ∧ FC Z W)) := by
  have hb0 := hA.1
  have hO := hA.2.1
  have h6 : 0 ≤ A.1 6 ∧ A.1 6 ≤ 7 := hO.2.1
  have h28 : 0 ≤ A.1 28 ∧ A.1 28 ≤ 6 := hO.2.2.2.1
  have h59 : 0 ≤ A.1 59 ∧ A.1 59 ≤ 8 := hO.2.2.2.2.2.1
  have hf := hO.1
  unfold FO at hf
  have hct := hA.2.2.2.2.2.2
  have ht := hM.2.2.2.1
  have hto := hA.2.2.2.2.1
  have hq := hM.2.2.2.2.1
  have hst := hM.2.2.2.2.2
  have hg0 := hM.2.1
  have hg1 := hM.2.2.1
  have ho0 := hA.2.2.1.1
  have ho1 := hA.2.2.2.1.1
  refine cz_iload_n (pc' := 1) (g_d dtbX11_from_0 0 rfl) rfl rfl ?_
  refine nz_iconst (pc' := 2) (g_d dtbX11_from_0 1 rfl) rfl ?_
  refine nz_iconst (pc' := 3) (g_d dtbX11_from_0 2 rfl) rfl ?_
  refine nz_cSi (M' := mX11_in) (As := [iv (i), iv 0, iv 1]) (S := []) (L := [some (.ref 34), some (iv (i))]) (pc' := 6) (g_d dtbX11_from_0 3 rfl) lk_X11_40 okX11_in rfl rfl (Nat.le_of_ble_eq_true rfl) (Nat.le_of_ble_eq_true rfl) (by decide) rfl (m_in G Z i 0 1 (by omega) (by omega) (by omega)) ?_
  rintro _ _ ⟨rfl, ⟨rfl, hw3⟩ | ⟨rfl, hw3⟩⟩
  · refine nz_if_ne_t (tgt := 14) (g_d dtbX11_from_0 4 rfl) (by omega) rfl (by omega) ?_
    rcases (show i = 0 ∨ i = 1 by omega) with rfl | rfl
    · refine cz_aload_n (pc' := 15) (g_d dtbX11_from_0 8 rfl) rfl rfl ?_
      refine nz_getf (v := .ref 39) (pc' := 18) (g_d dtbX11_from_0 9 rfl) gf_X11_22 (by decide) rfl rfl rfl ?_
      refine cz_iload_n (pc' := 19) (g_d dtbX11_from_0 10 rfl) rfl rfl ?_
      refine nz_zald 0 (pc' := 20) (g_d dtbX11_from_0 11 rfl) (by decide) rfl (by omega) (by rfl) (by omega) rfl ?_
      rw [show Z 39 0 = A.2.1.1 from hg0.1]
      refine nz_if_ne (tgt := 28) (pc' := 23) (g_d dtbX11_from_0 12 rfl) (by omega) rfl rfl (fun h20 => ?_) (fun h20 => ?_)
      · refine cz_aload_n (pc' := 29) (g_d dtbX11_from_0 16 rfl) rfl rfl ?_
        refine nz_getf (v := .ref 38) (pc' := 32) (g_d dtbX11_from_0 17 rfl) gf_X11_19 (by decide) rfl rfl rfl ?_
        refine nz_bipush (pc' := 34) (g_d dtbX11_from_0 18 rfl) (by decide) rfl ?_
        refine cz_iload_n (pc' := 35) (g_d dtbX11_from_0 19 rfl) rfl rfl ?_
        refine nz_imul (pc' := 36) (g_d dtbX11_from_0 20 rfl) rfl ?_
        refine cz_aload_n (pc' := 37) (g_d dtbX11_from_0 21 rfl) rfl rfl ?_
        refine nz_getf (v := .ref 35) (pc' := 40) (g_d dtbX11_from_0 22 rfl) gf_X11_7 (by decide) rfl rfl rfl ?_
        refine nz_iconst (pc' := 41) (g_d dtbX11_from_0 23 rfl) rfl ?_
        refine nz_bipush (pc' := 43) (g_d dtbX11_from_0 24 rfl) (by decide) rfl ?_
        refine nz_cSv (M' := mX11_bring) (As := [.ref 38, iv (108 * 0), .ref 35, iv 0, iv 108]) (S := []) (L := [some (.ref 34), some (iv 0)]) (pc' := 46) (g_d dtbX11_from_0 25 rfl) lk_X11_113 okX11_bring rfl rfl (Nat.le_of_ble_eq_true rfl) (Nat.le_of_ble_eq_true rfl) (by decide) rfl (m_bring2 G Z (108 * 0) 0 108 38 35 0 0 108 216 108 (by decide) (by decide) rfl rfl (by decide) (by decide) (by decide) (by decide) (by decide) rfl rfl rfl) ?_
        rintro _ rfl
        refine nz_iconst (pc' := 47) (g_d dtbX11_from_0 26 rfl) rfl ?_
        refine nz_ri .int (g_d dtbX11_from_0 27 rfl) rfl rfl ?_
        rw [show xFrom A 0 = (1, sF A (r108 A.2.1.2 A.1)) from by unfold xFrom; rw [if_pos rfl, if_neg (by omega)]]
        rw [from_row (g := A.2.1.2) (fun j hj => by have := hg0.2 (by omega) j hj; simpa using this) hM.1]
        exact ⟨rfl, hM.row, FC.r FC.rf (by decide)⟩
      · refine cz_aload_n (pc' := 24) (g_d dtbX11_from_0 13 rfl) rfl rfl ?_
        refine nz_cVi (M' := mX11_no) (k := 34) (As := []) (S := []) (L := [some (.ref 34), some (iv 0)]) (pc' := 27) (g_d dtbX11_from_0 14 rfl) lk_X11_136 okX11_no (by decide) rfl rfl rfl rfl (Nat.le_of_ble_eq_true rfl) (Nat.le_of_ble_eq_true rfl) (by decide) rfl (m_no G Z) ?_
        rintro _ _ ⟨rfl, rfl⟩
        refine nz_ri .int (g_d dtbX11_from_0 15 rfl) rfl rfl ?_
        rw [show xFrom A 0 = (-3, aNo A) from by unfold xFrom; rw [if_pos rfl, if_pos (by omega)]]
        exact ⟨rfl, ms_no hM, FC.u FC.rf (by decide)⟩
    · refine cz_aload_n (pc' := 15) (g_d dtbX11_from_0 8 rfl) rfl rfl ?_
      refine nz_getf (v := .ref 39) (pc' := 18) (g_d dtbX11_from_0 9 rfl) gf_X11_22 (by decide) rfl rfl rfl ?_
      refine cz_iload_n (pc' := 19) (g_d dtbX11_from_0 10 rfl) rfl rfl ?_
      refine nz_zald 1 (pc' := 20) (g_d dtbX11_from_0 11 rfl) (by decide) rfl (by omega) (by rfl) (by omega) rfl ?_
      rw [show Z 39 1 = A.2.2.1.1 from hg1.1]
      refine nz_if_ne (tgt := 28) (pc' := 23) (g_d dtbX11_from_0 12 rfl) (by omega) rfl rfl (fun h20 => ?_) (fun h20 => ?_)
      · refine cz_aload_n (pc' := 29) (g_d dtbX11_from_0 16 rfl) rfl rfl ?_
        refine nz_getf (v := .ref 38) (pc' := 32) (g_d dtbX11_from_0 17 rfl) gf_X11_19 (by decide) rfl rfl rfl ?_
        refine nz_bipush (pc' := 34) (g_d dtbX11_from_0 18 rfl) (by decide) rfl ?_
        refine cz_iload_n (pc' := 35) (g_d dtbX11_from_0 19 rfl) rfl rfl ?_
        refine nz_imul (pc' := 36) (g_d dtbX11_from_0 20 rfl) rfl ?_
        refine cz_aload_n (pc' := 37) (g_d dtbX11_from_0 21 rfl) rfl rfl ?_
        refine nz_getf (v := .ref 35) (pc' := 40) (g_d dtbX11_from_0 22 rfl) gf_X11_7 (by decide) rfl rfl rfl ?_
        refine nz_iconst (pc' := 41) (g_d dtbX11_from_0 23 rfl) rfl ?_
        refine nz_bipush (pc' := 43) (g_d dtbX11_from_0 24 rfl) (by decide) rfl ?_
        refine nz_cSv (M' := mX11_bring) (As := [.ref 38, iv (108 * 1), .ref 35, iv 0, iv 108]) (S := []) (L := [some (.ref 34), some (iv 1)]) (pc' := 46) (g_d dtbX11_from_0 25 rfl) lk_X11_113 okX11_bring rfl rfl (Nat.le_of_ble_eq_true rfl) (Nat.le_of_ble_eq_true rfl) (by decide) rfl (m_bring2 G Z (108 * 1) 0 108 38 35 108 0 108 216 108 (by decide) (by decide) rfl rfl (by decide) (by decide) (by decide) (by decide) (by decide) rfl rfl rfl) ?_
        rintro _ rfl
        refine nz_iconst (pc' := 47) (g_d dtbX11_from_0 26 rfl) rfl ?_
        refine nz_ri .int (g_d dtbX11_from_0 27 rfl) rfl rfl ?_
        rw [show xFrom A 1 = (1, sF A (r108 A.2.2.1.2 A.1)) from by unfold xFrom; rw [if_neg (by decide), if_pos rfl, if_neg (by omega)]]
        rw [from_row (g := A.2.2.1.2) (fun j hj => by have := hg1.2 (by omega) j hj; simpa using this) hM.1]
        exact ⟨rfl, hM.row, FC.r FC.rf (by decide)⟩
      · refine cz_aload_n (pc' := 24) (g_d dtbX11_from_0 13 rfl) rfl rfl ?_
        refine nz_cVi (M' := mX11_no) (k := 34) (As := []) (S := []) (L := [some (.ref 34), some (iv 1)]) (pc' := 27) (g_d dtbX11_from_0 14 rfl) lk_X11_136 okX11_no (by decide) rfl rfl rfl rfl (Nat.le_of_ble_eq_true rfl) (Nat.le_of_ble_eq_true rfl) (by decide) rfl (m_no G Z) ?_
        rintro _ _ ⟨rfl, rfl⟩
        refine nz_ri .int (g_d dtbX11_from_0 15 rfl) rfl rfl ?_
        rw [show xFrom A 1 = (-3, aNo A) from by unfold xFrom; rw [if_neg (by decide), if_pos rfl, if_pos (by omega)]]
        exact ⟨rfl, ms_no hM, FC.u FC.rf (by decide)⟩
  · refine nz_if_ne_f (pc' := 9) (g_d dtbX11_from_0 4 rfl) (by omega) (by decide) rfl (by omega) ?_
    refine cz_aload_n (pc' := 10) (g_d dtbX11_from_0 5 rfl) rfl rfl ?_
    refine nz_cVi (M' := mX11_bad) (k := 34) (As := []) (S := []) (L := [some (.ref 34), some (iv (i))]) (pc' := 13) (g_d dtbX11_from_0 6 rfl) lk_X11_44 okX11_bad (by decide) rfl rfl rfl rfl (Nat.le_of_ble_eq_true rfl) (Nat.le_of_ble_eq_true rfl) (by decide) rfl (m_bad G Z) ?_
    rintro _ _ ⟨rfl, rfl⟩
    refine nz_ri .int (g_d dtbX11_from_0 7 rfl) rfl rfl ?_
    rw [show xFrom A i = (-2, aBad A) from by unfold xFrom; rw [if_neg (by omega), if_neg (by omega)]]
    exact ⟨rfl, ms_bad hM, FC.u FC.rf (by decide)⟩
