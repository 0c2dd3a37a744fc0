/-! the other one: bills moved, left out, boilers, years, two -/
theorem pA_ext {f g : Row} {κ d p : Int} {i : Nat} (e3 : g 3 = f 3) (e4 : g 4 = f 4) : pA g κ d p i = pA f κ d p i := by
  rw [pA, pA, dyA, dyA, mnA, mnA, e3, e4]
theorem drA_chg {f g : Row} {b : Nat} (hb : b < 7) (e : ∀ j, j < 28 → j ≠ 7 + b → j ≠ 14 + b → j ≠ 21 + b → g j = f j) : ∀ n, n ≤ 7 → ∀ i, drA g n i = drA f n i + (if b < n then pA f (g (7 + b)) (g (14 + b)) (g (21 + b)) i - pA f (f (7 + b)) (f (14 + b)) (f (21 + b)) i else 0) := by
  intro n
  induction n with
  | zero => intro _ i; rw [if_neg (by omega)]; rfl
  | succ n ih =>
    intro hn i
    rw [drA, drA, ih (by omega), pA_ext (f := f) (e 3 (by omega) (by omega) (by omega) (by omega)) (e 4 (by omega) (by omega) (by omega) (by omega))]
    by_cases q : n = b
    · subst q
      rw [if_neg (by omega), if_pos (by omega)]; omega
    · rw [e (7 + n) (by omega) (by omega) (by omega) (by omega), e (14 + n) (by omega) (by omega) (by omega) (by omega), e (21 + n) (by omega) (by omega) (by omega) (by omega)]
      by_cases c : b < n
      · rw [if_pos c, if_pos (by omega)]; omega
      · rw [if_neg c, if_neg (by omega)]; omega
theorem tr_chg {C : Int} {f g : Row} {b : Nat} (h : TR C f) (hb : b < 7) (e : ∀ j, j < 28 → j ≠ 7 + b → j ≠ 14 + b → j ≠ 21 + b → g j = f j) (hk : 0 ≤ g (7 + b) ∧ g (7 + b) ≤ 5) (hd : 1 ≤ g (14 + b) ∧ g (14 + b) ≤ 28) (hp : 0 ≤ g (21 + b) ∧ g (21 + b) ≤ 99) : TR C g := by
  obtain ⟨h1, h2, h3, h4, h5, h6⟩ := h
  unfold TR
  rw [e 0 (by omega) (by omega) (by omega) (by omega), e 2 (by omega) (by omega) (by omega) (by omega), e 3 (by omega) (by omega) (by omega) (by omega), e 4 (by omega) (by omega) (by omega) (by omega), e 6 (by omega) (by omega) (by omega) (by omega)]
  refine ⟨h1, h2, h3, h4, h5, fun c hc hc2 => ?_⟩
  by_cases q : c = b
  · subst q; exact ⟨hk, hd, hp⟩
  · rw [e (7 + c) (by omega) (by omega) (by omega) (by omega), e (14 + c) (by omega) (by omega) (by omega) (by omega), e (21 + c) (by omega) (by omega) (by omega) (by omega)]
    exact h6 c hc hc2
theorem mv_e {A : AS} {t : Row} {b : Nat} {d : Int} : ∀ j, j < 28 → j ≠ 7 + b → j ≠ 14 + b → j ≠ 21 + b → (ru (rT A.1 t) (14 + b) d) j = A.1 j := fun j h1 h2 h3 h4 => by
  rw [ru_ne h3, rT_lo (by omega)]
theorem mv_dr {A : AS} {t : Row} {b : Nat} {d : Int} (h6 : 0 ≤ A.1 6 ∧ A.1 6 ≤ 7) (hb : (b : Int) < A.1 6) : drA (ru (rT A.1 t) (14 + b) d) ((ru (rT A.1 t) (14 + b) d) 6).toNat = gMv A b d := by
  funext i
  rw [mv_e 6 (by omega) (by omega) (by omega) (by omega), drA_chg (f := A.1) (b := b) (by omega) mv_e _ (by omega) i, if_pos (by omega), ru_eq, ru_ne (by omega), ru_ne (by omega), rT_lo (by omega), rT_lo (by omega)]
  unfold gMv pB gA
  omega
theorem mv_tr {C : Int} {A : AS} {t : Row} {b : Nat} {d : Int} (h : TR C A.1) (hb7 : b < 7) (hb : (b : Int) < A.1 6) (hd : 1 ≤ d ∧ d ≤ 28) : TR C (ru (rT A.1 t) (14 + b) d) := by
  have k := h.2.2.2.2.2 b hb7 hb
  refine tr_chg h hb7 mv_e ?_ ?_ ?_
  · rw [ru_ne (by omega), rT_lo (by omega)]; exact k.1
  · rw [ru_eq]; exact hd
  · rw [ru_ne (by omega), rT_lo (by omega)]; exact k.2.2
theorem ls_e {A : AS} {t : Row} {b : Nat} : ∀ j, j < 28 → j ≠ 7 + b → j ≠ 14 + b → j ≠ 21 + b → (ru (ru (rT A.1 t) (7 + b) 0) (21 + b) 0) j = A.1 j := fun j h1 h2 h3 h4 => by
  rw [ru_ne h4, ru_ne h2, rT_lo (by omega)]
theorem ls_dr {A : AS} {t : Row} {b : Nat} (h6 : 0 ≤ A.1 6 ∧ A.1 6 ≤ 7) (hb : (b : Int) < A.1 6) : drA (ru (ru (rT A.1 t) (7 + b) 0) (21 + b) 0) ((ru (ru (rT A.1 t) (7 + b) 0) (21 + b) 0) 6).toNat = gLs A b := by
  funext i
  rw [ls_e 6 (by omega) (by omega) (by omega) (by omega), drA_chg (f := A.1) (b := b) (by omega) ls_e _ (by omega) i, if_pos (by omega), ru_eq, ru_ne (show 7 + b ≠ 21 + b by omega), ru_eq]
  unfold gLs pB gA
  rw [show ∀ d : Int, pA A.1 0 d 0 i = 0 from fun d => by unfold pA pndB; simp]
  omega
theorem ls_tr {C : Int} {A : AS} {t : Row} {b : Nat} (h : TR C A.1) (hb7 : b < 7) (hb : (b : Int) < A.1 6) : TR C (ru (ru (rT A.1 t) (7 + b) 0) (21 + b) 0) := by
  have k := h.2.2.2.2.2 b hb7 hb
  refine tr_chg h hb7 ls_e ?_ ?_ ?_
  · rw [ru_ne (by omega), ru_eq]; omega
  · rw [ru_ne (by omega), ru_ne (by omega), rT_lo (by omega)]; exact k.2.1
  · rw [ru_eq]; omega

set_option maxRecDepth 20000 in
set_option maxHeartbeats 4000000 in
theorem k_mvIn (G : Wd) (Z : ZS) (A : AS) (B : Int) (hM : MS Z A) (hA : AO B A) (hbb : B + 700000 ≤ 60000000) (Q : Option Value → ZS → Prop) (b : Nat) (hb : (b : Int) < A.1 6) (s0 : Int × Int) (hs0 : 0 ≤ s0.1 ∧ s0.1 ≤ 28) (hK : ∀ t : Row, Cn G mX11_move 21 [some (.ref 34), some (iv ((mvS A b s0 28).1)), some (iv ((mvS A b s0 28).2)), some (iv ((b : Int) + 1)), none, none] [] (zr Z 36 t) Q) : ∀ (d : Nat) (i : Nat) (t : Row), 28 - i = d → (i ≤ 28) → Cn G mX11_move 35 [some (.ref 34), some (iv ((mvS A b s0 i).1)), some (iv ((mvS A b s0 i).2)), some (iv ((b : Int))), some (iv ((i : Int) + 1)), none] [] (zr Z 36 t) (Q) := by
  intro d
  induction d using Nat.strongRecOn with
  | ind d ih =>
    intro i t hd hi
    have hb0 := hA.1
    have hO := hA.2.1
    have h6 : 0 ≤ A.1 6 ∧ A.1 6 ≤ 7 := hO.2.1
    have h28 : 0 ≤ A.1 28 ∧ A.1 28 ≤ 6 := hO.2.2.2.1
    have h59 : 0 ≤ A.1 59 ∧ A.1 59 ≤ 8 := hO.2.2.2.2.2.1
    have hf := hO.1
    unfold FO at hf
    have hct := hA.2.2.2.2.2.2
    have hT := hO.tr (by omega)
    refine cz_iload (pc' := 37) (g_d dtbX11_move_0 22 rfl) rfl rfl ?_
    refine nz_bipush (pc' := 39) (g_d dtbX11_move_0 23 rfl) (by decide) rfl ?_
    refine nz_icmp_gt (tgt := 108) (pc' := 42) (g_d dtbX11_move_0 24 rfl) (by omega) (by omega) rfl rfl (fun h39 => ?_) (fun h39 => ?_)
    · refine nz_iinc (L' := [some (.ref 34), some (iv ((mvS A b s0 i).1)), some (iv ((mvS A b s0 i).2)), some (iv (((b : Int)) + 1)), some (iv ((i : Int) + 1)), none]) (pc' := 111) (g_d dtbX11_move_1 2 rfl) (by decide) rfl rfl rfl ?_
      refine cz_goto (pc' := 21) (g_d dtbX11_move_1 3 rfl) rfl ?_
      refine cz_le [some (.ref 34), some (iv ((mvS A b s0 i).1)), some (iv ((mvS A b s0 i).2)), some (iv (((b : Int)) + 1)), none, none] ⟨rfl, rfl, rfl, rfl, trivial⟩ ?_
      rw [show i = 28 by omega]
      exact hK t
    · have hmi := mvS_in (A := A) (b := b) hs0 i
      refine cz_aload_n (pc' := 43) (g_d dtbX11_move_0 25 rfl) rfl rfl ?_
      refine nz_cVv (M' := mX11_copyNow) (k := 34) (As := []) (S := []) (L := [some (.ref 34), some (iv ((mvS A b s0 i).1)), some (iv ((mvS A b s0 i).2)), some (iv ((b : Int))), some (iv ((i : Int) + 1)), none]) (pc' := 46) (g_d dtbX11_move_0 26 rfl) lk_X11_147 okX11_copyNow (by decide) rfl rfl rfl rfl (Nat.le_of_ble_eq_true rfl) (Nat.le_of_ble_eq_true rfl) (by decide) rfl (m_copyNow G Z A.1 t hM.1) ?_
      rintro _ rfl
      refine cz_aload_n (pc' := 47) (g_d dtbX11_move_0 27 rfl) rfl rfl ?_
      refine nz_getf (v := .ref 36) (pc' := 50) (g_d dtbX11_move_0 28 rfl) gf_X11_13 (by decide) rfl rfl rfl ?_
      refine nz_bipush (pc' := 52) (g_d dtbX11_move_0 29 rfl) (by decide) rfl ?_
      refine cz_iload_n (pc' := 53) (g_d dtbX11_move_0 30 rfl) rfl rfl ?_
      refine nz_iadd (pc' := 54) (g_d dtbX11_move_0 31 rfl) rfl ?_
      refine cz_iload (pc' := 56) (g_d dtbX11_move_0 32 rfl) rfl rfl ?_
      refine nz_iast (14 + b) (pc' := 57) (g_d dtbX11_move_0 33 rfl) (by decide) rfl (by omega) (by push_cast; omega) (by omega) rfl ?_
      rw [zr_ru]
      refine cz_aload_n (pc' := 58) (g_d dtbX11_move_0 34 rfl) rfl rfl ?_
      refine nz_bipush (pc' := 60) (g_d dtbX11_move_0 35 rfl) (by decide) rfl ?_
      refine cz_aload_n (pc' := 61) (g_d dtbX11_move_0 36 rfl) rfl rfl ?_
      refine nz_getf (v := .ref 35) (pc' := 64) (g_d dtbX11_move_0 37 rfl) gf_X11_7 (by decide) rfl rfl rfl ?_
      refine nz_iconst (pc' := 65) (g_d dtbX11_move_0 38 rfl) rfl ?_
      refine nz_iald 5 (pc' := 66) (g_d dtbX11_move_0 39 rfl) (by decide) rfl (by omega) (by rfl) (by omega) rfl ?_
      rw [show (zr Z 36 (ru (rT A.1 t) (14 + b) ((i : Int) + 1))) 35 5 = A.1 5 from by rw [zr_ne (by decide)]; exact congrFun hM.1 _]
      refine nz_cVi (M' := mX11_chargesOn) (k := 34) (As := [iv 28, iv (A.1 5)]) (S := []) (L := [some (.ref 34), some (iv ((mvS A b s0 i).1)), some (iv ((mvS A b s0 i).2)), some (iv ((b : Int))), some (iv ((i : Int) + 1)), none]) (pc' := 69) (g_d dtbX11_move_0 40 rfl) lk_X11_150 okX11_chargesOn (by decide) rfl rfl rfl rfl (Nat.le_of_ble_eq_true rfl) (Nat.le_of_ble_eq_true rfl) (by decide) rfl (m_chargesOn G Z (ru (rT A.1 t) (14 + b) ((i : Int) + 1)) B (A.1 5) 28 (mv_tr hT (by omega) hb (by omega)) (by omega) (by omega) (by omega)) ?_
      rintro _ _ ⟨rfl, rfl⟩
      rw [mv_dr h6 hb, ru_ne (show 0 ≠ 14 + b by omega), rT_lo (by decide)]
      have hrc := rC_in (g := gMv A b ((i : Int) + 1)) (sp := A.1 5) (a := A.1 0) 28
      obtain ⟨t2, et2⟩ : ∃ x : Row, x = rGs (ru (rT A.1 t) (14 + b) ((i : Int) + 1)) (A.1 5) 28 := ⟨_, rfl⟩
      rw [← et2]
      refine cz_istore (L' := [some (.ref 34), some (iv ((mvS A b s0 i).1)), some (iv ((mvS A b s0 i).2)), some (iv ((b : Int))), some (iv ((i : Int) + 1)), some (iv (rC (gMv A b ((i : Int) + 1)) (A.1 5) (A.1 0) 28))]) (pc' := 71) (g_d dtbX11_move_0 41 rfl) (by decide) rfl rfl ?_
      refine cz_iload (pc' := 73) (g_d dtbX11_move_0 42 rfl) rfl rfl ?_
      refine cz_iload_n (pc' := 74) (g_d dtbX11_move_0 43 rfl) rfl rfl ?_
      refine nz_icmp_ge (tgt := 87) (pc' := 77) (g_d dtbX11_move_0 44 rfl) (by omega) (by omega) rfl rfl (fun h74 => ?_) (fun h74 => ?_)
      · refine cz_iload_n (pc' := 88) (g_d dtbX11_move_0 51 rfl) rfl rfl ?_
        refine cz_istore_n (L' := [some (.ref 34), some (iv ((mvS A b s0 i).1)), some (iv ((mvS A b s0 i).2)), some (iv ((b : Int))), some (iv ((i : Int) + 1)), some (iv (rC (gMv A b ((i : Int) + 1)) (A.1 5) (A.1 0) 28))]) (pc' := 89) (g_d dtbX11_move_0 52 rfl) (by decide) rfl rfl ?_
        refine cz_iload (pc' := 91) (g_d dtbX11_move_0 53 rfl) rfl rfl ?_
        refine cz_iload_n (pc' := 92) (g_d dtbX11_move_0 54 rfl) rfl rfl ?_
        refine nz_icmp_ge_t (tgt := 100) (g_d dtbX11_move_0 55 rfl) (by omega) (by omega) rfl (by omega) ?_
        refine cz_iload_n (pc' := 101) (g_d dtbX11_move_0 58 rfl) rfl rfl ?_
        refine cz_istore_n (L' := [some (.ref 34), some (iv ((mvS A b s0 i).1)), some (iv ((mvS A b s0 i).2)), some (iv ((b : Int))), some (iv ((i : Int) + 1)), some (iv (rC (gMv A b ((i : Int) + 1)) (A.1 5) (A.1 0) 28))]) (pc' := 102) (g_d dtbX11_move_0 59 rfl) (by decide) rfl rfl ?_
        refine nz_iinc (L' := [some (.ref 34), some (iv ((mvS A b s0 i).1)), some (iv ((mvS A b s0 i).2)), some (iv ((b : Int))), some (iv (((i : Int) + 1) + 1)), some (iv (rC (gMv A b ((i : Int) + 1)) (A.1 5) (A.1 0) 28))]) (pc' := 105) (g_d dtbX11_move_1 0 rfl) (by decide) rfl rfl rfl ?_
        refine cz_goto (pc' := 35) (g_d dtbX11_move_1 1 rfl) rfl ?_
        refine cz_le [some (.ref 34), some (iv ((mvS A b s0 i).1)), some (iv ((mvS A b s0 i).2)), some (iv ((b : Int))), some (iv (((i : Int) + 1) + 1)), none] ⟨rfl, rfl, rfl, rfl, rfl, trivial⟩ ?_
        have e1 : mvS A b s0 (i + 1) = mvS A b s0 i := by rw [mvS, if_neg (by omega)]
        have q := ih (28 - (i + 1)) (by omega) (i + 1) t2 rfl (by omega)
        rw [e1, show ((i + 1 : Nat) : Int) + 1 = (i : Int) + 1 + 1 by push_cast; omega] at q
        exact q
      · refine nz_bipush (pc' := 79) (g_d dtbX11_move_0 45 rfl) (by decide) rfl ?_
        refine cz_iload_n (pc' := 80) (g_d dtbX11_move_0 46 rfl) rfl rfl ?_
        refine nz_imul (pc' := 81) (g_d dtbX11_move_0 47 rfl) rfl ?_
        refine cz_iload (pc' := 83) (g_d dtbX11_move_0 48 rfl) rfl rfl ?_
        refine nz_iadd (pc' := 84) (g_d dtbX11_move_0 49 rfl) rfl ?_
        refine cz_goto (pc' := 88) (g_d dtbX11_move_0 50 rfl) rfl ?_
        refine cz_istore_n (L' := [some (.ref 34), some (iv ((mvS A b s0 i).1)), some (iv ((100 * ((b : Int))) + ((i : Int) + 1))), some (iv ((b : Int))), some (iv ((i : Int) + 1)), some (iv (rC (gMv A b ((i : Int) + 1)) (A.1 5) (A.1 0) 28))]) (pc' := 89) (g_d dtbX11_move_0 52 rfl) (by decide) rfl rfl ?_
        refine cz_iload (pc' := 91) (g_d dtbX11_move_0 53 rfl) rfl rfl ?_
        refine cz_iload_n (pc' := 92) (g_d dtbX11_move_0 54 rfl) rfl rfl ?_
        refine nz_icmp_ge_f (pc' := 95) (g_d dtbX11_move_0 55 rfl) (by omega) (by omega) (by decide) rfl (by omega) ?_
        refine cz_iload (pc' := 97) (g_d dtbX11_move_0 56 rfl) rfl rfl ?_
        refine cz_goto (pc' := 101) (g_d dtbX11_move_0 57 rfl) rfl ?_
        refine cz_istore_n (L' := [some (.ref 34), some (iv (rC (gMv A b ((i : Int) + 1)) (A.1 5) (A.1 0) 28)), some (iv ((100 * ((b : Int))) + ((i : Int) + 1))), some (iv ((b : Int))), some (iv ((i : Int) + 1)), some (iv (rC (gMv A b ((i : Int) + 1)) (A.1 5) (A.1 0) 28))]) (pc' := 102) (g_d dtbX11_move_0 59 rfl) (by decide) rfl rfl ?_
        refine nz_iinc (L' := [some (.ref 34), some (iv (rC (gMv A b ((i : Int) + 1)) (A.1 5) (A.1 0) 28)), some (iv ((100 * ((b : Int))) + ((i : Int) + 1))), some (iv ((b : Int))), some (iv (((i : Int) + 1) + 1)), some (iv (rC (gMv A b ((i : Int) + 1)) (A.1 5) (A.1 0) 28))]) (pc' := 105) (g_d dtbX11_move_1 0 rfl) (by decide) rfl rfl rfl ?_
        refine cz_goto (pc' := 35) (g_d dtbX11_move_1 1 rfl) rfl ?_
        refine cz_le [some (.ref 34), some (iv (rC (gMv A b ((i : Int) + 1)) (A.1 5) (A.1 0) 28)), some (iv ((100 * ((b : Int))) + ((i : Int) + 1))), some (iv ((b : Int))), some (iv (((i : Int) + 1) + 1)), none] ⟨rfl, rfl, rfl, rfl, rfl, trivial⟩ ?_
        have e1 : mvS A b s0 (i + 1) = (rC (gMv A b ((i : Int) + 1)) (A.1 5) (A.1 0) 28, 100 * (b : Int) + ((i : Int) + 1)) := by rw [mvS, if_pos (by omega)]
        have q := ih (28 - (i + 1)) (by omega) (i + 1) t2 rfl (by omega)
        rw [e1, show ((i + 1 : Nat) : Int) + 1 = (i : Int) + 1 + 1 by push_cast; omega] at q
        exact q

set_option maxRecDepth 20000 in
set_option maxHeartbeats 4000000 in
theorem k_move (G : Wd) (Z : ZS) (A : AS) (B : Int) (hM : MS Z A) (hA : AO B A) (hbb : B + 700000 ≤ 60000000) : ∀ (d : Nat) (b : Nat) (t : Row), (A.1 6).toNat - b = d → ((b : Int) ≤ A.1 6) → Cn G mX11_move 21 [some (.ref 34), some (iv ((mvB A b).1)), some (iv ((mvB A b).2)), some (iv ((b : Int))), none, none] [] (zr Z 36 t) (qi (fun r W => (xMove A).1 = r ∧ MS W (xMove A).2 ∧ FC Z W)) := by
  intro d
  induction d using Nat.strongRecOn with
  | ind d ih =>
    intro b t hd hi
    have hb0 := hA.1
    have hO := hA.2.1
    have h6 : 0 ≤ A.1 6 ∧ A.1 6 ≤ 7 := hO.2.1
    have h28 : 0 ≤ A.1 28 ∧ A.1 28 ≤ 6 := hO.2.2.2.1
    have h59 : 0 ≤ A.1 59 ∧ A.1 59 ≤ 8 := hO.2.2.2.2.2.1
    have hf := hO.1
    unfold FO at hf
    have hct := hA.2.2.2.2.2.2
    have hT := hO.tr (by omega)
    refine cz_iload_n (pc' := 22) (g_d dtbX11_move_0 14 rfl) rfl rfl ?_
    refine cz_aload_n (pc' := 23) (g_d dtbX11_move_0 15 rfl) rfl rfl ?_
    refine nz_getf (v := .ref 35) (pc' := 26) (g_d dtbX11_move_0 16 rfl) gf_X11_7 (by decide) rfl rfl rfl ?_
    refine nz_bipush (pc' := 28) (g_d dtbX11_move_0 17 rfl) (by decide) rfl ?_
    refine nz_iald 6 (pc' := 29) (g_d dtbX11_move_0 18 rfl) (by decide) rfl (by omega) (by rfl) (by omega) rfl ?_
    rw [show (zr Z 36 t) 35 6 = A.1 6 from by rw [zr_ne (by decide)]; exact congrFun hM.1 _]
    refine nz_icmp_ge (tgt := 114) (pc' := 32) (g_d dtbX11_move_0 19 rfl) (by omega) (by omega) rfl rfl (fun h29 => ?_) (fun h29 => ?_)
    · refine cz_iload_n (pc' := 115) (g_d dtbX11_move_1 4 rfl) rfl rfl ?_
      refine nz_ri .int (g_d dtbX11_move_1 5 rfl) rfl rfl ?_
      rw [show b = (A.1 6).toNat by omega]
      exact ⟨rfl, hM.tr, (FC.r FC.rf (by decide))⟩
    · refine nz_iconst (pc' := 33) (g_d dtbX11_move_0 20 rfl) rfl ?_
      refine cz_istore (L' := [some (.ref 34), some (iv ((mvB A b).1)), some (iv ((mvB A b).2)), some (iv ((b : Int))), some (iv 1), none]) (pc' := 35) (g_d dtbX11_move_0 21 rfl) (by decide) rfl rfl ?_
      exact k_mvIn G Z A B hM hA hbb _ b h29 (mvB A b) (mvB_in b) (fun t2 => ih ((A.1 6).toNat - (b + 1)) (by omega) (b + 1) t2 rfl (by omega)) (28 - 0) 0 t rfl (by omega)

set_option maxRecDepth 20000 in
set_option maxHeartbeats 4000000 in
theorem b_move (G : Wd) (Z : ZS) (A : AS) (B : Int) (hM : MS Z A) (hA : AO B A) (hbb : B + 700000 ≤ 60000000) : Cn G mX11_move 0 [some (.ref 34), none, none, none, none, none] [] Z (qi (fun r W => (xMove A).1 = r ∧ MS W (xMove A).2 ∧ FC Z W)) := by
  have hb0 := hA.1
  have hO := hA.2.1
  have h6 : 0 ≤ A.1 6 ∧ A.1 6 ≤ 7 := hO.2.1
  have h28 : 0 ≤ A.1 28 ∧ A.1 28 ≤ 6 := hO.2.2.2.1
  have h59 : 0 ≤ A.1 59 ∧ A.1 59 ≤ 8 := hO.2.2.2.2.2.1
  have hf := hO.1
  unfold FO at hf
  have hct := hA.2.2.2.2.2.2
  have hT := hO.tr (by omega)
  have hgA : drA A.1 (A.1 6).toNat = gA A := rfl
  obtain ⟨t, ht0⟩ : ∃ t : Row, Z 36 = t := ⟨_, rfl⟩
  refine nz_st (zr_self ht0) ?_
  refine cz_aload_n (pc' := 1) (g_d dtbX11_move_0 0 rfl) rfl rfl ?_
  refine nz_cVv (M' := mX11_copyNow) (k := 34) (As := []) (S := []) (L := [some (.ref 34), none, none, none, none, none]) (pc' := 4) (g_d dtbX11_move_0 1 rfl) lk_X11_147 okX11_copyNow (by decide) rfl rfl rfl rfl (Nat.le_of_ble_eq_true rfl) (Nat.le_of_ble_eq_true rfl) (by decide) rfl (m_copyNow G Z A.1 t hM.1) ?_
  rintro _ rfl
  refine cz_aload_n (pc' := 5) (g_d dtbX11_move_0 2 rfl) rfl rfl ?_
  refine nz_bipush (pc' := 7) (g_d dtbX11_move_0 3 rfl) (by decide) rfl ?_
  refine cz_aload_n (pc' := 8) (g_d dtbX11_move_0 4 rfl) rfl rfl ?_
  refine nz_getf (v := .ref 35) (pc' := 11) (g_d dtbX11_move_0 5 rfl) gf_X11_7 (by decide) rfl rfl rfl ?_
  refine nz_iconst (pc' := 12) (g_d dtbX11_move_0 6 rfl) rfl ?_
  refine nz_iald 5 (pc' := 13) (g_d dtbX11_move_0 7 rfl) (by decide) rfl (by omega) (by rfl) (by omega) rfl ?_
  rw [show (zr Z 36 (rT A.1 t)) 35 5 = A.1 5 from by rw [zr_ne (by decide)]; exact congrFun hM.1 _]
  refine nz_cVi (M' := mX11_chargesOn) (k := 34) (As := [iv 28, iv (A.1 5)]) (S := []) (L := [some (.ref 34), none, none, none, none, none]) (pc' := 16) (g_d dtbX11_move_0 8 rfl) lk_X11_150 okX11_chargesOn (by decide) rfl rfl rfl rfl (Nat.le_of_ble_eq_true rfl) (Nat.le_of_ble_eq_true rfl) (by decide) rfl (m_chargesOn G Z (rT A.1 t) B (A.1 5) 28 (tr_T hT) (by omega) (by omega) (by omega)) ?_
  rintro _ _ ⟨rfl, rfl⟩
  rw [drA_T h6, rT_lo (by decide), hgA]
  refine cz_istore_n (L' := [some (.ref 34), some (iv (rC (gA A) (A.1 5) (A.1 0) 28)), none, none, none, none]) (pc' := 17) (g_d dtbX11_move_0 9 rfl) (by decide) rfl rfl ?_
  refine nz_iconst (pc' := 18) (g_d dtbX11_move_0 10 rfl) rfl ?_
  refine cz_istore_n (L' := [some (.ref 34), some (iv (rC (gA A) (A.1 5) (A.1 0) 28)), some (iv (-1)), none, none, none]) (pc' := 19) (g_d dtbX11_move_0 11 rfl) (by decide) rfl rfl ?_
  refine nz_iconst (pc' := 20) (g_d dtbX11_move_0 12 rfl) rfl ?_
  refine cz_istore_n (L' := [some (.ref 34), some (iv (rC (gA A) (A.1 5) (A.1 0) 28)), some (iv (-1)), some (iv 0), none, none]) (pc' := 21) (g_d dtbX11_move_0 13 rfl) (by decide) rfl rfl ?_
  exact k_move G Z A B hM hA hbb ((A.1 6).toNat - 0) 0 _ rfl (by omega)

set_option maxRecDepth 20000 in
set_option maxHeartbeats 4000000 in
theorem k_dear (G : Wd) (Z : ZS) (A : AS) (B : Int) (hM : MS Z A) (hA : AO B A) (hbb : B + 700000 ≤ 60000000) : ∀ (d : Nat) (b : Nat) (t : Row), (A.1 6).toNat - b = d → ((b : Int) ≤ A.1 6) → Cn G mX11_dear 6 [some (.ref 34), some (iv ((drS A b).2)), some (iv ((drS A b).1)), some (iv ((b : Int))), none, none] [] (zr Z 36 t) (qi (fun r W => (xDear A).1 = r ∧ MS W (xDear A).2 ∧ FC Z W)) := by
  intro d
  induction d using Nat.strongRecOn with
  | ind d ih =>
    intro b t hd hi
    have hb0 := hA.1
    have hO := hA.2.1
    have h6 : 0 ≤ A.1 6 ∧ A.1 6 ≤ 7 := hO.2.1
    have h28 : 0 ≤ A.1 28 ∧ A.1 28 ≤ 6 := hO.2.2.2.1
    have h59 : 0 ≤ A.1 59 ∧ A.1 59 ≤ 8 := hO.2.2.2.2.2.1
    have hf := hO.1
    unfold FO at hf
    have hct := hA.2.2.2.2.2.2
    have hT := hO.tr (by omega)
    refine cz_iload_n (pc' := 7) (g_d dtbX11_dear_0 6 rfl) rfl rfl ?_
    refine cz_aload_n (pc' := 8) (g_d dtbX11_dear_0 7 rfl) rfl rfl ?_
    refine nz_getf (v := .ref 35) (pc' := 11) (g_d dtbX11_dear_0 8 rfl) gf_X11_7 (by decide) rfl rfl rfl ?_
    refine nz_bipush (pc' := 13) (g_d dtbX11_dear_0 9 rfl) (by decide) rfl ?_
    refine nz_iald 6 (pc' := 14) (g_d dtbX11_dear_0 10 rfl) (by decide) rfl (by omega) (by rfl) (by omega) rfl ?_
    rw [show (zr Z 36 t) 35 6 = A.1 6 from by rw [zr_ne (by decide)]; exact congrFun hM.1 _]
    refine nz_icmp_ge (tgt := 102) (pc' := 17) (g_d dtbX11_dear_0 11 rfl) (by omega) (by omega) rfl rfl (fun h14 => ?_) (fun h14 => ?_)
    · refine cz_iload_n (pc' := 103) (g_d dtbX11_dear_1 0 rfl) rfl rfl ?_
      refine nz_ri .int (g_d dtbX11_dear_1 1 rfl) rfl rfl ?_
      rw [show b = (A.1 6).toNat by omega]
      exact ⟨rfl, hM.tr, (FC.r FC.rf (by decide))⟩
    · have hdi := drS_in (A := A) b (by omega)
      refine cz_aload_n (pc' := 18) (g_d dtbX11_dear_0 12 rfl) rfl rfl ?_
      refine nz_cVv (M' := mX11_copyNow) (k := 34) (As := []) (S := []) (L := [some (.ref 34), some (iv ((drS A b).2)), some (iv ((drS A b).1)), some (iv ((b : Int))), none, none]) (pc' := 21) (g_d dtbX11_dear_0 13 rfl) lk_X11_147 okX11_copyNow (by decide) rfl rfl rfl rfl (Nat.le_of_ble_eq_true rfl) (Nat.le_of_ble_eq_true rfl) (by decide) rfl (m_copyNow G Z A.1 t hM.1) ?_
      rintro _ rfl
      refine cz_aload_n (pc' := 22) (g_d dtbX11_dear_0 14 rfl) rfl rfl ?_
      refine nz_getf (v := .ref 36) (pc' := 25) (g_d dtbX11_dear_0 15 rfl) gf_X11_13 (by decide) rfl rfl rfl ?_
      refine nz_bipush (pc' := 27) (g_d dtbX11_dear_0 16 rfl) (by decide) rfl ?_
      refine cz_iload_n (pc' := 28) (g_d dtbX11_dear_0 17 rfl) rfl rfl ?_
      refine nz_iadd (pc' := 29) (g_d dtbX11_dear_0 18 rfl) rfl ?_
      refine nz_iconst (pc' := 30) (g_d dtbX11_dear_0 19 rfl) rfl ?_
      refine nz_iast (7 + b) (pc' := 31) (g_d dtbX11_dear_0 20 rfl) (by decide) rfl (by omega) (by push_cast; omega) (by omega) rfl ?_
      rw [zr_ru]
      refine cz_aload_n (pc' := 32) (g_d dtbX11_dear_0 21 rfl) rfl rfl ?_
      refine nz_getf (v := .ref 36) (pc' := 35) (g_d dtbX11_dear_0 22 rfl) gf_X11_13 (by decide) rfl rfl rfl ?_
      refine nz_bipush (pc' := 37) (g_d dtbX11_dear_0 23 rfl) (by decide) rfl ?_
      refine cz_iload_n (pc' := 38) (g_d dtbX11_dear_0 24 rfl) rfl rfl ?_
      refine nz_iadd (pc' := 39) (g_d dtbX11_dear_0 25 rfl) rfl ?_
      refine nz_iconst (pc' := 40) (g_d dtbX11_dear_0 26 rfl) rfl ?_
      refine nz_iast (21 + b) (pc' := 41) (g_d dtbX11_dear_0 27 rfl) (by decide) rfl (by omega) (by push_cast; omega) (by omega) rfl ?_
      rw [zr_ru]
      refine cz_aload_n (pc' := 42) (g_d dtbX11_dear_0 28 rfl) rfl rfl ?_
      refine nz_bipush (pc' := 44) (g_d dtbX11_dear_0 29 rfl) (by decide) rfl ?_
      refine cz_aload_n (pc' := 45) (g_d dtbX11_dear_0 30 rfl) rfl rfl ?_
      refine nz_getf (v := .ref 35) (pc' := 48) (g_d dtbX11_dear_0 31 rfl) gf_X11_7 (by decide) rfl rfl rfl ?_
      refine nz_iconst (pc' := 49) (g_d dtbX11_dear_0 32 rfl) rfl ?_
      refine nz_iald 5 (pc' := 50) (g_d dtbX11_dear_0 33 rfl) (by decide) rfl (by omega) (by rfl) (by omega) rfl ?_
      rw [show (zr Z 36 (ru (ru (rT A.1 t) (7 + b) 0) (21 + b) 0)) 35 5 = A.1 5 from by rw [zr_ne (by decide)]; exact congrFun hM.1 _]
      refine nz_cVi (M' := mX11_chargesOn) (k := 34) (As := [iv 28, iv (A.1 5)]) (S := []) (L := [some (.ref 34), some (iv ((drS A b).2)), some (iv ((drS A b).1)), some (iv ((b : Int))), none, none]) (pc' := 53) (g_d dtbX11_dear_0 34 rfl) lk_X11_150 okX11_chargesOn (by decide) rfl rfl rfl rfl (Nat.le_of_ble_eq_true rfl) (Nat.le_of_ble_eq_true rfl) (by decide) rfl (m_chargesOn G Z (ru (ru (rT A.1 t) (7 + b) 0) (21 + b) 0) B (A.1 5) 28 (ls_tr hT (by omega) (by omega)) (by omega) (by omega) (by omega)) ?_
      rintro _ _ ⟨rfl, rfl⟩
      rw [ls_dr h6 (by omega), ru_ne (show 0 ≠ 21 + b by omega), ru_ne (show 0 ≠ 7 + b by omega), rT_lo (by decide)]
      have hrc := rC_in (g := gLs A b) (sp := A.1 5) (a := A.1 0) 28
      obtain ⟨t2, et2⟩ : ∃ x : Row, x = rGs (ru (ru (rT A.1 t) (7 + b) 0) (21 + b) 0) (A.1 5) 28 := ⟨_, rfl⟩
      rw [← et2]
      refine cz_istore (L' := [some (.ref 34), some (iv ((drS A b).2)), some (iv ((drS A b).1)), some (iv ((b : Int))), some (iv (rC (gLs A b) (A.1 5) (A.1 0) 28)), none]) (pc' := 55) (g_d dtbX11_dear_0 35 rfl) (by decide) rfl rfl ?_
      refine cz_iload_n (pc' := 56) (g_d dtbX11_dear_0 36 rfl) rfl rfl ?_
      refine nz_iconst (pc' := 57) (g_d dtbX11_dear_0 37 rfl) rfl ?_
      refine nz_icmp_eq (tgt := 66) (pc' := 60) (g_d dtbX11_dear_0 38 rfl) (by omega) (by omega) rfl rfl (fun h57 => ?_) (fun h57 => ?_)
      · refine nz_iconst (pc' := 67) (g_d dtbX11_dear_0 42 rfl) rfl ?_
        refine cz_goto (pc' := 71) (g_d dtbX11_dear_0 43 rfl) rfl ?_
        refine cz_istore (L' := [some (.ref 34), some (iv ((drS A b).2)), some (iv ((drS A b).1)), some (iv ((b : Int))), some (iv (rC (gLs A b) (A.1 5) (A.1 0) 28)), some (iv 1)]) (pc' := 73) (g_d dtbX11_dear_0 45 rfl) (by decide) rfl rfl ?_
        refine cz_iload (pc' := 75) (g_d dtbX11_dear_0 46 rfl) rfl rfl ?_
        refine nz_if_eq_f (pc' := 78) (g_d dtbX11_dear_0 47 rfl) (by omega) (by decide) rfl (by omega) ?_
        refine cz_iload_n (pc' := 79) (g_d dtbX11_dear_0 48 rfl) rfl rfl ?_
        refine cz_goto (pc' := 83) (g_d dtbX11_dear_0 49 rfl) rfl ?_
        refine cz_istore_n (L' := [some (.ref 34), some (iv ((drS A b).2)), some (iv ((b : Int))), some (iv ((b : Int))), some (iv (rC (gLs A b) (A.1 5) (A.1 0) 28)), some (iv 1)]) (pc' := 84) (g_d dtbX11_dear_0 51 rfl) (by decide) rfl rfl ?_
        refine cz_iload (pc' := 86) (g_d dtbX11_dear_0 52 rfl) rfl rfl ?_
        refine nz_if_eq_f (pc' := 89) (g_d dtbX11_dear_0 53 rfl) (by omega) (by decide) rfl (by omega) ?_
        refine cz_iload (pc' := 91) (g_d dtbX11_dear_0 54 rfl) rfl rfl ?_
        refine cz_goto (pc' := 95) (g_d dtbX11_dear_0 55 rfl) rfl ?_
        refine cz_istore_n (L' := [some (.ref 34), some (iv (rC (gLs A b) (A.1 5) (A.1 0) 28)), some (iv ((b : Int))), some (iv ((b : Int))), some (iv (rC (gLs A b) (A.1 5) (A.1 0) 28)), some (iv 1)]) (pc' := 96) (g_d dtbX11_dear_0 57 rfl) (by decide) rfl rfl ?_
        refine nz_iinc (L' := [some (.ref 34), some (iv (rC (gLs A b) (A.1 5) (A.1 0) 28)), some (iv ((b : Int))), some (iv (((b : Int)) + 1)), some (iv (rC (gLs A b) (A.1 5) (A.1 0) 28)), some (iv 1)]) (pc' := 99) (g_d dtbX11_dear_0 58 rfl) (by decide) rfl rfl rfl ?_
        refine cz_goto (pc' := 6) (g_d dtbX11_dear_0 59 rfl) rfl ?_
        refine cz_le [some (.ref 34), some (iv (rC (gLs A b) (A.1 5) (A.1 0) 28)), some (iv ((b : Int))), some (iv (((b : Int)) + 1)), none, none] ⟨rfl, rfl, rfl, rfl, trivial⟩ ?_
        have e1 : drS A (b + 1) = ((b : Int), rC (gLs A b) (A.1 5) (A.1 0) 28) := by rw [drS, if_pos (by omega)]
        have q := ih ((A.1 6).toNat - (b + 1)) (by omega) (b + 1) t2 rfl (by omega)
        rw [e1] at q
        exact q
      · refine cz_iload (pc' := 62) (g_d dtbX11_dear_0 39 rfl) rfl rfl ?_
        refine cz_iload_n (pc' := 63) (g_d dtbX11_dear_0 40 rfl) rfl rfl ?_
        refine nz_icmp_ge (tgt := 70) (pc' := 66) (g_d dtbX11_dear_0 41 rfl) (by omega) (by omega) rfl rfl (fun h63 => ?_) (fun h63 => ?_)
        · refine nz_iconst (pc' := 71) (g_d dtbX11_dear_0 44 rfl) rfl ?_
          refine cz_istore (L' := [some (.ref 34), some (iv ((drS A b).2)), some (iv ((drS A b).1)), some (iv ((b : Int))), some (iv (rC (gLs A b) (A.1 5) (A.1 0) 28)), some (iv 0)]) (pc' := 73) (g_d dtbX11_dear_0 45 rfl) (by decide) rfl rfl ?_
          refine cz_iload (pc' := 75) (g_d dtbX11_dear_0 46 rfl) rfl rfl ?_
          refine nz_if_eq_t (tgt := 82) (g_d dtbX11_dear_0 47 rfl) (by omega) rfl (by omega) ?_
          refine cz_iload_n (pc' := 83) (g_d dtbX11_dear_0 50 rfl) rfl rfl ?_
          refine cz_istore_n (L' := [some (.ref 34), some (iv ((drS A b).2)), some (iv ((drS A b).1)), some (iv ((b : Int))), some (iv (rC (gLs A b) (A.1 5) (A.1 0) 28)), some (iv 0)]) (pc' := 84) (g_d dtbX11_dear_0 51 rfl) (by decide) rfl rfl ?_
          refine cz_iload (pc' := 86) (g_d dtbX11_dear_0 52 rfl) rfl rfl ?_
          refine nz_if_eq_t (tgt := 94) (g_d dtbX11_dear_0 53 rfl) (by omega) rfl (by omega) ?_
          refine cz_iload_n (pc' := 95) (g_d dtbX11_dear_0 56 rfl) rfl rfl ?_
          refine cz_istore_n (L' := [some (.ref 34), some (iv ((drS A b).2)), some (iv ((drS A b).1)), some (iv ((b : Int))), some (iv (rC (gLs A b) (A.1 5) (A.1 0) 28)), some (iv 0)]) (pc' := 96) (g_d dtbX11_dear_0 57 rfl) (by decide) rfl rfl ?_
          refine nz_iinc (L' := [some (.ref 34), some (iv ((drS A b).2)), some (iv ((drS A b).1)), some (iv (((b : Int)) + 1)), some (iv (rC (gLs A b) (A.1 5) (A.1 0) 28)), some (iv 0)]) (pc' := 99) (g_d dtbX11_dear_0 58 rfl) (by decide) rfl rfl rfl ?_
          refine cz_goto (pc' := 6) (g_d dtbX11_dear_0 59 rfl) rfl ?_
          refine cz_le [some (.ref 34), some (iv ((drS A b).2)), some (iv ((drS A b).1)), some (iv (((b : Int)) + 1)), none, none] ⟨rfl, rfl, rfl, rfl, trivial⟩ ?_
          have e1 : drS A (b + 1) = drS A b := by rw [drS, if_neg (by omega)]
          have q := ih ((A.1 6).toNat - (b + 1)) (by omega) (b + 1) t2 rfl (by omega)
          rw [e1] at q
          exact q
        · refine nz_iconst (pc' := 67) (g_d dtbX11_dear_0 42 rfl) rfl ?_
          refine cz_goto (pc' := 71) (g_d dtbX11_dear_0 43 rfl) rfl ?_
          refine cz_istore (L' := [some (.ref 34), some (iv ((drS A b).2)), some (iv ((drS A b).1)), some (iv ((b : Int))), some (iv (rC (gLs A b) (A.1 5) (A.1 0) 28)), some (iv 1)]) (pc' := 73) (g_d dtbX11_dear_0 45 rfl) (by decide) rfl rfl ?_
          refine cz_iload (pc' := 75) (g_d dtbX11_dear_0 46 rfl) rfl rfl ?_
          refine nz_if_eq_f (pc' := 78) (g_d dtbX11_dear_0 47 rfl) (by omega) (by decide) rfl (by omega) ?_
          refine cz_iload_n (pc' := 79) (g_d dtbX11_dear_0 48 rfl) rfl rfl ?_
          refine cz_goto (pc' := 83) (g_d dtbX11_dear_0 49 rfl) rfl ?_
          refine cz_istore_n (L' := [some (.ref 34), some (iv ((drS A b).2)), some (iv ((b : Int))), some (iv ((b : Int))), some (iv (rC (gLs A b) (A.1 5) (A.1 0) 28)), some (iv 1)]) (pc' := 84) (g_d dtbX11_dear_0 51 rfl) (by decide) rfl rfl ?_
          refine cz_iload (pc' := 86) (g_d dtbX11_dear_0 52 rfl) rfl rfl ?_
          refine nz_if_eq_f (pc' := 89) (g_d dtbX11_dear_0 53 rfl) (by omega) (by decide) rfl (by omega) ?_
          refine cz_iload (pc' := 91) (g_d dtbX11_dear_0 54 rfl) rfl rfl ?_
          refine cz_goto (pc' := 95) (g_d dtbX11_dear_0 55 rfl) rfl ?_
          refine cz_istore_n (L' := [some (.ref 34), some (iv (rC (gLs A b) (A.1 5) (A.1 0) 28)), some (iv ((b : Int))), some (iv ((b : Int))), some (iv (rC (gLs A b) (A.1 5) (A.1 0) 28)), some (iv 1)]) (pc' := 96) (g_d dtbX11_dear_0 57 rfl) (by decide) rfl rfl ?_
          refine nz_iinc (L' := [some (.ref 34), some (iv (rC (gLs A b) (A.1 5) (A.1 0) 28)), some (iv ((b : Int))), some (iv (((b : Int)) + 1)), some (iv (rC (gLs A b) (A.1 5) (A.1 0) 28)), some (iv 1)]) (pc' := 99) (g_d dtbX11_dear_0 58 rfl) (by decide) rfl rfl rfl ?_
          refine cz_goto (pc' := 6) (g_d dtbX11_dear_0 59 rfl) rfl ?_
          refine cz_le [some (.ref 34), some (iv (rC (gLs A b) (A.1 5) (A.1 0) 28)), some (iv ((b : Int))), some (iv (((b : Int)) + 1)), none, none] ⟨rfl, rfl, rfl, rfl, trivial⟩ ?_
          have e1 : drS A (b + 1) = ((b : Int), rC (gLs A b) (A.1 5) (A.1 0) 28) := by rw [drS, if_pos (by omega)]
          have q := ih ((A.1 6).toNat - (b + 1)) (by omega) (b + 1) t2 rfl (by omega)
          rw [e1] at q
          exact q

set_option maxRecDepth 20000 in
set_option maxHeartbeats 4000000 in
theorem b_dear (G : Wd) (Z : ZS) (A : AS) (B : Int) (hM : MS Z A) (hA : AO B A) (hbb : B + 700000 ≤ 60000000) : Cn G mX11_dear 0 [some (.ref 34), none, none, none, none, none] [] Z (qi (fun r W => (xDear A).1 = r ∧ MS W (xDear A).2 ∧ FC Z W)) := by
  have hb0 := hA.1
  have hO := hA.2.1
  have h6 : 0 ≤ A.1 6 ∧ A.1 6 ≤ 7 := hO.2.1
  have h28 : 0 ≤ A.1 28 ∧ A.1 28 ≤ 6 := hO.2.2.2.1
  have h59 : 0 ≤ A.1 59 ∧ A.1 59 ≤ 8 := hO.2.2.2.2.2.1
  have hf := hO.1
  unfold FO at hf
  have hct := hA.2.2.2.2.2.2
  have hT := hO.tr (by omega)
  have hgA : drA A.1 (A.1 6).toNat = gA A := rfl
  obtain ⟨t, ht0⟩ : ∃ t : Row, Z 36 = t := ⟨_, rfl⟩
  refine nz_st (zr_self ht0) ?_
  refine nz_iconst (pc' := 1) (g_d dtbX11_dear_0 0 rfl) rfl ?_
  refine cz_istore_n (L' := [some (.ref 34), some (iv 0), none, none, none, none]) (pc' := 2) (g_d dtbX11_dear_0 1 rfl) (by decide) rfl rfl ?_
  refine nz_iconst (pc' := 3) (g_d dtbX11_dear_0 2 rfl) rfl ?_
  refine cz_istore_n (L' := [some (.ref 34), some (iv 0), some (iv (-1)), none, none, none]) (pc' := 4) (g_d dtbX11_dear_0 3 rfl) (by decide) rfl rfl ?_
  refine nz_iconst (pc' := 5) (g_d dtbX11_dear_0 4 rfl) rfl ?_
  refine cz_istore_n (L' := [some (.ref 34), some (iv 0), some (iv (-1)), some (iv 0), none, none]) (pc' := 6) (g_d dtbX11_dear_0 5 rfl) (by decide) rfl rfl ?_
  exact k_dear G Z A B hM hA hbb ((A.1 6).toNat - 0) 0 t rfl (by omega)

theorem MS.frac {Z : ZS} {A : AS} {u l : Int} (h : MS Z A) : MS (zu (zu Z 34 6 u) 34 7 l) (sQ A u l) := by
  obtain ⟨h1, h2, h3, h4, h5, h6⟩ := h
  have e : ∀ a, a ≠ 34 → (zu (zu Z 34 6 u) 34 7 l) a = Z a := fun a ha => by rw [zu_row ha, zu_row ha]
  unfold MS
  rw [e 35 (by decide), e 39 (by decide), e 38 (by decide), e 41 (by decide), e 40 (by decide)]
  exact ⟨h1, h2, h3, ⟨by rw [zu_ne (by omega), zu_ne (by omega)]; exact h4.1, h4.2⟩, ⟨by rw [zu_ne (by omega), zu_eq]; rfl, by rw [zu_eq]; rfl⟩, h6⟩
theorem gcd10 : ∀ u : Nat, u < 991 → ((Nat.gcd u 10 : Nat) : Int) = cT (u : Int) := by decide +kernel
theorem drA_lo {A : AS} {t : Row} {x : Int} (h6 : 0 ≤ A.1 6 ∧ A.1 6 ≤ 7) : drA (ru (rT A.1 t) 0 x) ((ru (rT A.1 t) 0 x) 6).toNat = gA A := by rw [drA_0, drA_T h6]; rfl
theorem tr_dn {C x : Int} {f : Row} (h : TR C f) (hx : 0 ≤ x ∧ x ≤ 1000) : TR (C + 1000) (ru f 0 (f 0 - x)) := by
  obtain ⟨h1, h2, h3, h4, h5, h6⟩ := h
  unfold TR
  rw [ru_eq, ru_ne (by decide), ru_ne (by decide), ru_ne (by decide), ru_ne (by decide)]
  refine ⟨by omega, by omega, h3, by omega, h5, fun b hb hb2 => ?_⟩
  rw [ru_ne (by omega), ru_ne (by omega), ru_ne (by omega)]; exact h6 b hb hb2

set_option maxRecDepth 20000 in
set_option maxHeartbeats 4000000 in
theorem k_gcd (G : Wd) (Z : ZS) (b c : Int) (N u g : Nat) (hg1 : 1 ≤ g) (hu : u < 991) : ∀ (d : Nat) (x y : Nat), y = d → (y ≤ 10) → (x < 991) → (1 ≤ x + y) → (Nat.gcd x y = g) → Cn G mX11_boiler 104 [some (.ref 34), some (iv (b)), some (iv ((N : Int))), some (iv (c)), some (il ((u : Int))), none, some (il ((x : Int))), none, some (il ((y : Int))), none, none, none] [] Z (qi (fun r W => 1 = r ∧ zu (zu Z 34 6 ((u : Int) / (g : Int))) 34 7 (10 / (g : Int)) = W)) := by
  intro d
  induction d using Nat.strongRecOn with
  | ind d ih =>
    intro x y hd hy hx hxy hg
    refine cz_lload (pc' := 106) (g_d dtbX11_boiler_1 2 rfl) rfl rfl ?_
    refine nz_lconst (pc' := 107) (v := 0) (g_d dtbX11_boiler_1 3 rfl) rfl rfl ?_
    refine nz_lcmp (pc' := 108) (g_d dtbX11_boiler_1 4 rfl) (by omega) (by omega) rfl ?_
    refine nz_if_le (tgt := 129) (pc' := 111) (g_d dtbX11_boiler_1 5 rfl) (by omega) rfl rfl (fun h108 => ?_) (fun h108 => ?_)
    · refine cz_aload_n (pc' := 130) (g_d dtbX11_boiler_1 15 rfl) rfl rfl ?_
      refine cz_lload (pc' := 132) (g_d dtbX11_boiler_1 16 rfl) rfl rfl ?_
      refine cz_lload (pc' := 134) (g_d dtbX11_boiler_1 17 rfl) rfl rfl ?_
      refine nz_ldiv (pc' := 135) (g_d dtbX11_boiler_1 18 rfl) (by omega) (by omega) rfl ?_
      refine nz_putl (pc' := 138) (g_d dtbX11_boiler_1 19 rfl) pf_X11_171 rfl (by decide) rfl rfl ?_
      refine cz_aload_n (pc' := 139) (g_d dtbX11_boiler_1 20 rfl) rfl rfl ?_
      refine nz_ldc2 (pc' := 142) (v := 10) (g_d dtbX11_boiler_1 21 rfl) kn_X11_169 rfl ?_
      refine cz_lload (pc' := 144) (g_d dtbX11_boiler_1 22 rfl) rfl rfl ?_
      refine nz_ldiv (pc' := 145) (g_d dtbX11_boiler_1 23 rfl) (by omega) (by omega) rfl ?_
      refine nz_putl (pc' := 148) (g_d dtbX11_boiler_1 24 rfl) pf_X11_29 rfl (by decide) rfl rfl ?_
      refine nz_iconst (pc' := 149) (g_d dtbX11_boiler_1 25 rfl) rfl ?_
      refine nz_ri .int (g_d dtbX11_boiler_1 26 rfl) rfl rfl ?_
      have hy : y = 0 := by omega
      subst hy
      rw [Nat.gcd_zero_right] at hg
      rw [hg]
      exact ⟨rfl, rfl⟩
    · have hy0 : 0 < y := by omega
      refine cz_lload (pc' := 113) (g_d dtbX11_boiler_1 6 rfl) rfl rfl ?_
      refine cz_lload (pc' := 115) (g_d dtbX11_boiler_1 7 rfl) rfl rfl ?_
      refine nz_lrem (pc' := 116) (g_d dtbX11_boiler_1 8 rfl) (by omega) (by omega) rfl ?_
      refine cz_lstore (L' := [some (.ref 34), some (iv (b)), some (iv ((N : Int))), some (iv (c)), some (il ((u : Int))), none, some (il ((x : Int))), none, some (il ((y : Int))), none, some (il (((x : Int)) % ((y : Int)))), none]) (pc' := 118) (g_d dtbX11_boiler_1 9 rfl) (by decide) rfl rfl ?_
      refine cz_lload (pc' := 120) (g_d dtbX11_boiler_1 10 rfl) rfl rfl ?_
      refine cz_lstore (L' := [some (.ref 34), some (iv (b)), some (iv ((N : Int))), some (iv (c)), some (il ((u : Int))), none, some (il ((y : Int))), none, some (il ((y : Int))), none, some (il (((x : Int)) % ((y : Int)))), none]) (pc' := 122) (g_d dtbX11_boiler_1 11 rfl) (by decide) rfl rfl ?_
      refine cz_lload (pc' := 124) (g_d dtbX11_boiler_1 12 rfl) rfl rfl ?_
      refine cz_lstore (L' := [some (.ref 34), some (iv (b)), some (iv ((N : Int))), some (iv (c)), some (il ((u : Int))), none, some (il ((y : Int))), none, some (il (((x : Int)) % ((y : Int)))), none, some (il (((x : Int)) % ((y : Int)))), none]) (pc' := 126) (g_d dtbX11_boiler_1 13 rfl) (by decide) rfl rfl ?_
      refine cz_goto (pc' := 104) (g_d dtbX11_boiler_1 14 rfl) rfl ?_
      refine cz_le [some (.ref 34), some (iv (b)), some (iv ((N : Int))), some (iv (c)), some (il ((u : Int))), none, some (il ((y : Int))), none, some (il (((x : Int)) % ((y : Int)))), none, none, none] ⟨rfl, rfl, rfl, rfl, rfl, rfl, rfl, trivial⟩ ?_
      have q := ih (x % y) (by have := Nat.mod_lt x (show 0 < y by omega); omega) y (x % y) rfl (by have := Nat.mod_lt x (show 0 < y by omega); omega) (by omega) (by omega) (by rw [Nat.gcd_comm, ← Nat.gcd_rec, Nat.gcd_comm]; exact hg)
      rw [show ((x % y : Nat) : Int) = (x : Int) % (y : Int) by push_cast; rfl] at q
      exact q

set_option maxRecDepth 20000 in
set_option maxHeartbeats 4000000 in
theorem b_boiler (G : Wd) (Z : ZS) (A : AS) (B : Int) (hM : MS Z A) (hA : AO B A) (b m c : Int) (hb : -2147483648 ≤ b ∧ b ≤ 2147483647) (hm : -2147483648 ≤ m ∧ m ≤ 2147483647) (hc : -2147483648 ≤ c ∧ c ≤ 2147483647) (hbb : B + 700000 ≤ 60000000) : Cn G mX11_boiler 0 [some (.ref 34), some (iv (b)), some (iv (m)), some (iv (c)), none, none, none, none, none, none, none, none] [] Z (qi (fun r W => (xBoiler A b m c).1 = r ∧ MS W (xBoiler A b m c).2 ∧ FC Z W)) := by
  have hb0 := hA.1
  have hO := hA.2.1
  have h6 : 0 ≤ A.1 6 ∧ A.1 6 ≤ 7 := hO.2.1
  have h28 : 0 ≤ A.1 28 ∧ A.1 28 ≤ 6 := hO.2.2.2.1
  have h59 : 0 ≤ A.1 59 ∧ A.1 59 ≤ 8 := hO.2.2.2.2.2.1
  have hf := hO.1
  unfold FO at hf
  have hct := hA.2.2.2.2.2.2
  have hT := hO.tr (by omega)
  have hgA : drA A.1 (A.1 6).toNat = gA A := rfl
  obtain ⟨t, ht0⟩ : ∃ t : Row, Z 36 = t := ⟨_, rfl⟩
  refine nz_st (zr_self ht0) ?_
  refine cz_iload_n (pc' := 1) (g_d dtbX11_boiler_0 0 rfl) rfl rfl ?_
  refine nz_iconst (pc' := 2) (g_d dtbX11_boiler_0 1 rfl) rfl ?_
  refine nz_sipush (pc' := 5) (g_d dtbX11_boiler_0 2 rfl) (by decide) rfl ?_
  refine nz_cSi (M' := mX11_in) (As := [iv (b), iv 0, iv 999]) (S := []) (L := [some (.ref 34), some (iv (b)), some (iv (m)), some (iv (c)), none, none, none, none, none, none, none, none]) (pc' := 8) (g_d dtbX11_boiler_0 3 rfl) lk_X11_40 okX11_in rfl rfl (Nat.le_of_ble_eq_true rfl) (Nat.le_of_ble_eq_true rfl) (by decide) rfl (m_in G (zr Z 36 t) b 0 999 (by omega) (by omega) (by omega)) ?_
  rintro _ _ ⟨rfl, ⟨rfl, hw5⟩ | ⟨rfl, hw5⟩⟩
  · refine nz_if_eq_f (pc' := 11) (g_d dtbX11_boiler_0 4 rfl) (by omega) (by decide) rfl (by omega) ?_
    refine cz_iload_n (pc' := 12) (g_d dtbX11_boiler_0 5 rfl) rfl rfl ?_
    refine nz_iconst (pc' := 13) (g_d dtbX11_boiler_0 6 rfl) rfl ?_
    refine nz_bipush (pc' := 15) (g_d dtbX11_boiler_0 7 rfl) (by decide) rfl ?_
    refine nz_cSi (M' := mX11_in) (As := [iv (m), iv 0, iv 99]) (S := []) (L := [some (.ref 34), some (iv (b)), some (iv (m)), some (iv (c)), none, none, none, none, none, none, none, none]) (pc' := 18) (g_d dtbX11_boiler_0 8 rfl) lk_X11_40 okX11_in rfl rfl (Nat.le_of_ble_eq_true rfl) (Nat.le_of_ble_eq_true rfl) (by decide) rfl (m_in G (zr Z 36 t) m 0 99 (by omega) (by omega) (by omega)) ?_
    rintro _ _ ⟨rfl, ⟨rfl, hw15⟩ | ⟨rfl, hw15⟩⟩
    · refine nz_if_eq_f (pc' := 21) (g_d dtbX11_boiler_0 9 rfl) (by omega) (by decide) rfl (by omega) ?_
      refine cz_iload_n (pc' := 22) (g_d dtbX11_boiler_0 10 rfl) rfl rfl ?_
      refine nz_iconst (pc' := 23) (g_d dtbX11_boiler_0 11 rfl) rfl ?_
      refine nz_bipush (pc' := 25) (g_d dtbX11_boiler_0 12 rfl) (by decide) rfl ?_
      refine nz_cSi (M' := mX11_in) (As := [iv (c), iv 0, iv 10]) (S := []) (L := [some (.ref 34), some (iv (b)), some (iv (m)), some (iv (c)), none, none, none, none, none, none, none, none]) (pc' := 28) (g_d dtbX11_boiler_0 13 rfl) lk_X11_40 okX11_in rfl rfl (Nat.le_of_ble_eq_true rfl) (Nat.le_of_ble_eq_true rfl) (by decide) rfl (m_in G (zr Z 36 t) c 0 10 (by omega) (by omega) (by omega)) ?_
      rintro _ _ ⟨rfl, ⟨rfl, hw25⟩ | ⟨rfl, hw25⟩⟩
      · refine nz_if_ne_t (tgt := 36) (g_d dtbX11_boiler_0 14 rfl) (by omega) rfl (by omega) ?_
        obtain ⟨N, rfl⟩ : ∃ N : Nat, m = (N : Int) := ⟨m.toNat, by omega⟩
        refine cz_aload_n (pc' := 37) (g_d dtbX11_boiler_0 18 rfl) rfl rfl ?_
        refine nz_cVv (M' := mX11_copyNow) (k := 34) (As := []) (S := []) (L := [some (.ref 34), some (iv (b)), some (iv ((N : Int))), some (iv (c)), none, none, none, none, none, none, none, none]) (pc' := 40) (g_d dtbX11_boiler_0 19 rfl) lk_X11_147 okX11_copyNow (by decide) rfl rfl rfl rfl (Nat.le_of_ble_eq_true rfl) (Nat.le_of_ble_eq_true rfl) (by decide) rfl (m_copyNow G Z A.1 t hM.1) ?_
        rintro _ rfl
        refine nz_ldc2 (pc' := 43) (v := 10) (g_d dtbX11_boiler_0 20 rfl) kn_X11_169 rfl ?_
        refine cz_iload_n (pc' := 44) (g_d dtbX11_boiler_0 21 rfl) rfl rfl ?_
        refine nz_i2l (pc' := 45) (g_d dtbX11_boiler_0 22 rfl) (by omega) rfl ?_
        refine nz_lsub (pc' := 46) (g_d dtbX11_boiler_0 23 rfl) rfl ?_
        refine cz_aload_n (pc' := 47) (g_d dtbX11_boiler_0 24 rfl) rfl rfl ?_
        refine cz_iload_n (pc' := 48) (g_d dtbX11_boiler_0 25 rfl) rfl rfl ?_
        refine cz_aload_n (pc' := 49) (g_d dtbX11_boiler_0 26 rfl) rfl rfl ?_
        refine nz_getf (v := .ref 35) (pc' := 52) (g_d dtbX11_boiler_0 27 rfl) gf_X11_7 (by decide) rfl rfl rfl ?_
        refine nz_iconst (pc' := 53) (g_d dtbX11_boiler_0 28 rfl) rfl ?_
        refine nz_iald 5 (pc' := 54) (g_d dtbX11_boiler_0 29 rfl) (by decide) rfl (by omega) (by rfl) (by omega) rfl ?_
        rw [show (zr Z 36 (rT A.1 t)) 35 5 = A.1 5 from by rw [zr_ne (by decide)]; exact congrFun hM.1 _]
        refine nz_cVi (M' := mX11_chargesOn) (k := 34) (As := [iv ((N : Int)), iv (A.1 5)]) (S := [il (10 - c)]) (L := [some (.ref 34), some (iv (b)), some (iv ((N : Int))), some (iv (c)), none, none, none, none, none, none, none, none]) (pc' := 57) (g_d dtbX11_boiler_0 30 rfl) lk_X11_150 okX11_chargesOn (by decide) rfl rfl rfl rfl (Nat.le_of_ble_eq_true rfl) (Nat.le_of_ble_eq_true rfl) (by decide) rfl (m_chargesOn G Z (rT A.1 t) B (A.1 5) N (tr_T hT) (by omega) (by omega) (by omega)) ?_
        rintro _ _ ⟨rfl, rfl⟩
        rw [drA_T h6, rT_lo (by decide), hgA]
        have hc1 := rC_in (g := gA A) (sp := A.1 5) (a := A.1 0) N
        refine nz_i2l (pc' := 58) (g_d dtbX11_boiler_0 31 rfl) (by omega) rfl ?_
        refine nz_lmul (pc' := 59) (g_d dtbX11_boiler_0 32 rfl) rfl ?_
        refine cz_lstore (L' := [some (.ref 34), some (iv (b)), some (iv ((N : Int))), some (iv (c)), some (il ((10 - c) * (rC (gA A) (A.1 5) (A.1 0) N))), none, none, none, none, none, none, none]) (pc' := 61) (g_d dtbX11_boiler_0 33 rfl) (by decide) rfl rfl ?_
        refine cz_aload_n (pc' := 62) (g_d dtbX11_boiler_0 34 rfl) rfl rfl ?_
        refine nz_cVv (M' := mX11_copyNow) (k := 34) (As := []) (S := []) (L := [some (.ref 34), some (iv (b)), some (iv ((N : Int))), some (iv (c)), some (il ((10 - c) * (rC (gA A) (A.1 5) (A.1 0) N))), none, none, none, none, none, none, none]) (pc' := 65) (g_d dtbX11_boiler_0 35 rfl) lk_X11_147 okX11_copyNow (by decide) rfl rfl rfl rfl (Nat.le_of_ble_eq_true rfl) (Nat.le_of_ble_eq_true rfl) (by decide) rfl (m_copyNow G Z A.1 (rGs (rT A.1 t) (A.1 5) N) hM.1) ?_
        rintro _ rfl
        refine cz_aload_n (pc' := 66) (g_d dtbX11_boiler_0 36 rfl) rfl rfl ?_
        refine nz_getf (v := .ref 36) (pc' := 69) (g_d dtbX11_boiler_0 37 rfl) gf_X11_13 (by decide) rfl rfl rfl ?_
        refine nz_iconst (pc' := 70) (g_d dtbX11_boiler_0 38 rfl) rfl ?_
        refine cz_dup2 (pc' := 71) (g_d dtbX11_boiler_0 39 rfl) rfl rfl rfl ?_
        refine nz_iald 0 (pc' := 72) (g_d dtbX11_boiler_0 40 rfl) (by decide) rfl (by omega) (by rfl) (by omega) rfl ?_
        rw [show (zr Z 36 (rT A.1 (rGs (rT A.1 t) (A.1 5) N))) 36 0 = A.1 0 from by rw [zr_eq]; exact rT_lo (by decide)]
        refine cz_iload_n (pc' := 73) (g_d dtbX11_boiler_0 41 rfl) rfl rfl ?_
        refine nz_isub (pc' := 74) (g_d dtbX11_boiler_0 42 rfl) rfl ?_
        refine nz_iast 0 (pc' := 75) (g_d dtbX11_boiler_0 43 rfl) (by decide) rfl (by omega) (by rfl) (by omega) rfl ?_
        rw [zr_ru]
        refine cz_lload (pc' := 77) (g_d dtbX11_boiler_0 44 rfl) rfl rfl ?_
        refine cz_iload_n (pc' := 78) (g_d dtbX11_boiler_0 45 rfl) rfl rfl ?_
        refine nz_i2l (pc' := 79) (g_d dtbX11_boiler_0 46 rfl) (by omega) rfl ?_
        refine cz_aload_n (pc' := 80) (g_d dtbX11_boiler_0 47 rfl) rfl rfl ?_
        refine cz_iload_n (pc' := 81) (g_d dtbX11_boiler_0 48 rfl) rfl rfl ?_
        refine cz_aload_n (pc' := 82) (g_d dtbX11_boiler_0 49 rfl) rfl rfl ?_
        refine nz_getf (v := .ref 35) (pc' := 85) (g_d dtbX11_boiler_0 50 rfl) gf_X11_7 (by decide) rfl rfl rfl ?_
        refine nz_iconst (pc' := 86) (g_d dtbX11_boiler_0 51 rfl) rfl ?_
        refine nz_iald 5 (pc' := 87) (g_d dtbX11_boiler_0 52 rfl) (by decide) rfl (by omega) (by rfl) (by omega) rfl ?_
        rw [show (zr Z 36 (ru (rT A.1 (rGs (rT A.1 t) (A.1 5) N)) 0 ((A.1 0) - b))) 35 5 = A.1 5 from by rw [zr_ne (by decide)]; exact congrFun hM.1 _]
        refine nz_cVi (M' := mX11_chargesOn) (k := 34) (As := [iv ((N : Int)), iv (A.1 5)]) (S := [il (c), il ((10 - c) * (rC (gA A) (A.1 5) (A.1 0) N))]) (L := [some (.ref 34), some (iv (b)), some (iv ((N : Int))), some (iv (c)), some (il ((10 - c) * (rC (gA A) (A.1 5) (A.1 0) N))), none, none, none, none, none, none, none]) (pc' := 90) (g_d dtbX11_boiler_0 53 rfl) lk_X11_150 okX11_chargesOn (by decide) rfl rfl rfl rfl (Nat.le_of_ble_eq_true rfl) (Nat.le_of_ble_eq_true rfl) (by decide) rfl (m_chargesOn G Z (ru (rT A.1 (rGs (rT A.1 t) (A.1 5) N)) 0 ((A.1 0) - b)) (B + 1000) (A.1 5) N ((show ru (rT A.1 (rGs (rT A.1 t) (A.1 5) N)) 0 ((rT A.1 (rGs (rT A.1 t) (A.1 5) N)) 0 - b) = (ru (rT A.1 (rGs (rT A.1 t) (A.1 5) N)) 0 ((A.1 0) - b)) by rw [rT_lo (j := 0) (by decide)]) ▸ tr_dn (tr_T hT) (by omega)) (by omega) (by omega) (by omega)) ?_
        rintro _ _ ⟨rfl, rfl⟩
        rw [drA_lo h6, ru_eq]
        have hc2 := rC_in (g := gA A) (sp := A.1 5) (a := A.1 0 - b) N
        refine nz_i2l (pc' := 91) (g_d dtbX11_boiler_0 54 rfl) (by omega) rfl ?_
        refine nz_lmul (pc' := 92) (g_d dtbX11_boiler_0 55 rfl) rfl ?_
        refine nz_ladd (pc' := 93) (g_d dtbX11_boiler_0 56 rfl) rfl ?_
        refine cz_lstore (L' := [some (.ref 34), some (iv (b)), some (iv ((N : Int))), some (iv (c)), some (il (((10 - c) * (rC (gA A) (A.1 5) (A.1 0) N)) + (c * (rC (gA A) (A.1 5) (A.1 0 - b) N)))), none, none, none, none, none, none, none]) (pc' := 95) (g_d dtbX11_boiler_0 57 rfl) (by decide) rfl rfl ?_
        refine cz_lload (pc' := 97) (g_d dtbX11_boiler_0 58 rfl) rfl rfl ?_
        refine cz_lstore (L' := [some (.ref 34), some (iv (b)), some (iv ((N : Int))), some (iv (c)), some (il (((10 - c) * (rC (gA A) (A.1 5) (A.1 0) N)) + (c * (rC (gA A) (A.1 5) (A.1 0 - b) N)))), none, some (il (((10 - c) * (rC (gA A) (A.1 5) (A.1 0) N)) + (c * (rC (gA A) (A.1 5) (A.1 0 - b) N)))), none, none, none, none, none]) (pc' := 99) (g_d dtbX11_boiler_0 59 rfl) (by decide) rfl rfl ?_
        refine nz_ldc2 (pc' := 102) (v := 10) (g_d dtbX11_boiler_1 0 rfl) kn_X11_169 rfl ?_
        refine cz_lstore (L' := [some (.ref 34), some (iv (b)), some (iv ((N : Int))), some (iv (c)), some (il (((10 - c) * (rC (gA A) (A.1 5) (A.1 0) N)) + (c * (rC (gA A) (A.1 5) (A.1 0 - b) N)))), none, some (il (((10 - c) * (rC (gA A) (A.1 5) (A.1 0) N)) + (c * (rC (gA A) (A.1 5) (A.1 0 - b) N)))), none, some (il (10)), none, none, none]) (pc' := 104) (g_d dtbX11_boiler_1 1 rfl) (by decide) rfl rfl ?_
        have htb := tB_in (A := A) (b := b) (c := c) (m := N) (by omega) (by omega)
        obtain ⟨u, hu⟩ : ∃ u : Nat, tB A b c N = (u : Int) := ⟨(tB A b c N).toNat, by omega⟩
        rw [show ((10 - c) * (rC (gA A) (A.1 5) (A.1 0) N)) + (c * (rC (gA A) (A.1 5) (A.1 0 - b) N)) = (u : Int) from by rw [← hu]; unfold tB; rw [Int.add_comm]]
        have hgd := gcd10 u (by omega)
        have hct := cT_in (u : Int)
        have q := k_gcd G ((zr Z 36 (rGs (ru (rT A.1 (rGs (rT A.1 t) (A.1 5) N)) 0 ((A.1 0) - b)) (A.1 5) N))) b c N u (Nat.gcd u 10) (by omega) (by omega) 10 u 10 rfl (by omega) (by omega) (by omega) rfl
        refine nz_wi q (fun r W h => ?_)
        rw [show xBoiler A b (N : Int) c = (1, sQ A ((u : Int) / cT (u : Int)) (10 / cT (u : Int))) from by unfold xBoiler; rw [if_pos (by omega), Int.toNat_natCast, hu]]
        rw [← hgd]
        refine ⟨h.1, ?_, ?_⟩
        · rw [← h.2]; exact hM.tr.frac
        · rw [← h.2]; exact FC.u (FC.u (FC.r FC.rf (by decide)) (by decide)) (by decide)
      · refine nz_if_ne_f (pc' := 31) (g_d dtbX11_boiler_0 14 rfl) (by omega) (by decide) rfl (by omega) ?_
        refine cz_aload_n (pc' := 32) (g_d dtbX11_boiler_0 15 rfl) rfl rfl ?_
        refine nz_cVi (M' := mX11_bad) (k := 34) (As := []) (S := []) (L := [some (.ref 34), some (iv (b)), some (iv (m)), some (iv (c)), none, none, none, none, none, none, none, none]) (pc' := 35) (g_d dtbX11_boiler_0 16 rfl) lk_X11_44 okX11_bad (by decide) rfl rfl rfl rfl (Nat.le_of_ble_eq_true rfl) (Nat.le_of_ble_eq_true rfl) (by decide) rfl (m_bad G (zr Z 36 t)) ?_
        rintro _ _ ⟨rfl, rfl⟩
        refine nz_ri .int (g_d dtbX11_boiler_0 17 rfl) rfl rfl ?_
        rw [show xBoiler A b m c = (-2, aBad A) from by unfold xBoiler; rw [if_neg (by omega)]]
        exact ⟨rfl, ms_bad hM.tr, (FC.u (FC.r FC.rf (by decide)) (by decide))⟩
    · refine nz_if_eq_t (tgt := 31) (g_d dtbX11_boiler_0 9 rfl) (by omega) rfl (by omega) ?_
      refine cz_aload_n (pc' := 32) (g_d dtbX11_boiler_0 15 rfl) rfl rfl ?_
      refine nz_cVi (M' := mX11_bad) (k := 34) (As := []) (S := []) (L := [some (.ref 34), some (iv (b)), some (iv (m)), some (iv (c)), none, none, none, none, none, none, none, none]) (pc' := 35) (g_d dtbX11_boiler_0 16 rfl) lk_X11_44 okX11_bad (by decide) rfl rfl rfl rfl (Nat.le_of_ble_eq_true rfl) (Nat.le_of_ble_eq_true rfl) (by decide) rfl (m_bad G (zr Z 36 t)) ?_
      rintro _ _ ⟨rfl, rfl⟩
      refine nz_ri .int (g_d dtbX11_boiler_0 17 rfl) rfl rfl ?_
      rw [show xBoiler A b m c = (-2, aBad A) from by unfold xBoiler; rw [if_neg (by omega)]]
      exact ⟨rfl, ms_bad hM.tr, (FC.u (FC.r FC.rf (by decide)) (by decide))⟩
  · refine nz_if_eq_t (tgt := 31) (g_d dtbX11_boiler_0 4 rfl) (by omega) rfl (by omega) ?_
    refine cz_aload_n (pc' := 32) (g_d dtbX11_boiler_0 15 rfl) rfl rfl ?_
    refine nz_cVi (M' := mX11_bad) (k := 34) (As := []) (S := []) (L := [some (.ref 34), some (iv (b)), some (iv (m)), some (iv (c)), none, none, none, none, none, none, none, none]) (pc' := 35) (g_d dtbX11_boiler_0 16 rfl) lk_X11_44 okX11_bad (by decide) rfl rfl rfl rfl (Nat.le_of_ble_eq_true rfl) (Nat.le_of_ble_eq_true rfl) (by decide) rfl (m_bad G (zr Z 36 t)) ?_
    rintro _ _ ⟨rfl, rfl⟩
    refine nz_ri .int (g_d dtbX11_boiler_0 17 rfl) rfl rfl ?_
    rw [show xBoiler A b m c = (-2, aBad A) from by unfold xBoiler; rw [if_neg (by omega)]]
    exact ⟨rfl, ms_bad hM.tr, (FC.u (FC.r FC.rf (by decide)) (by decide))⟩
