/-! days that go by -/
def g_le : List (Option Value) → List (Option Value) → Prop
  | [], _ => True
  | none :: a, [] => g_le a []
  | none :: a, _ :: b => g_le a b
  | some v :: a, some w :: b => v = w ∧ g_le a b
  | some _ :: _, _ => False
theorem g_le_at : ∀ (a b : List (Option Value)), g_le a b → ∀ (i : Nat) (v : Value), a[i]? = some (some v) → b[i]? = some (some v) := by
  intro a
  induction a with
  | nil => intro b _ i v h; simp at h
  | cons x a ih =>
    intro b hb i v h
    cases x with
    | none =>
      cases b with
      | nil =>
        cases i with
        | zero => simp at h
        | succ i =>
          rw [List.getElem?_cons_succ] at h
          have := ih [] hb i v h
          simp at this
      | cons y b =>
        cases i with
        | zero => simp at h
        | succ i =>
          rw [List.getElem?_cons_succ] at h ⊢
          exact ih b hb i v h
    | some w =>
      cases b with
      | nil => exact hb.elim
      | cons y b =>
        cases y with
        | none => exact hb.elim
        | some z =>
          cases i with
          | zero => simp at h ⊢; rw [← hb.1]; exact h
          | succ i =>
            rw [List.getElem?_cons_succ] at h ⊢
            exact ih b hb.2 i v h
theorem cz_le {G : Wd} {M : MD} {nE pc : Nat} {L : List (Option Value)} {S : List Value} {σ : St} {Q : Option Value → St → Prop} (L' : List (Option Value)) (hl : g_le L' L) (h : Cc G M nE pc L' S σ Q) : Cc G M nE pc L S σ Q := cz_less (g_le_at L' L hl) h
theorem dyA0 {f : Row} (h : 1 ≤ f 3 ∧ f 3 ≤ 28) : dyA f 0 = f 3 := by unfold dyA; omega
theorem mnA0 {f : Row} (h : 1 ≤ f 3 ∧ f 3 ≤ 28) : mnA f 0 = f 4 := by unfold mnA; omega
def rGo (f : Row) (s : Int) : Row := fun j => if j = 0 then (if f 0 - (drA f (f 6).toNat 0 + s) < 0 then f 0 - (drA f (f 6).toNat 0 + s) - 1 else f 0 - (drA f (f 6).toNat 0 + s)) else if j = 2 then (if f 0 - (drA f (f 6).toNat 0 + s) < 0 then f 2 + 1 else f 2) else if j = 3 then (if f 3 < 28 then f 3 + 1 else 1) else if j = 4 then (if f 3 < 28 then f 4 else f 4 + 1) else f j
theorem rGo_hi {f : Row} {s : Int} {j : Nat} (h : 5 ≤ j) : rGo f s j = f j := by
  simp only [rGo]
  rw [if_neg (by omega), if_neg (by omega), if_neg (by omega), if_neg (by omega)]
theorem rGo_0 {f : Row} {s : Int} : rGo f s 0 = (if f 0 - (drA f (f 6).toNat 0 + s) < 0 then f 0 - (drA f (f 6).toNat 0 + s) - 1 else f 0 - (drA f (f 6).toNat 0 + s)) := rfl
theorem rGo_1 {f : Row} {s : Int} : rGo f s 1 = f 1 := rfl
theorem rGo_2 {f : Row} {s : Int} : rGo f s 2 = (if f 0 - (drA f (f 6).toNat 0 + s) < 0 then f 2 + 1 else f 2) := rfl
theorem rGo_3 {f : Row} {s : Int} : rGo f s 3 = (if f 3 < 28 then f 3 + 1 else 1) := rfl
theorem rGo_4 {f : Row} {s : Int} : rGo f s 4 = (if f 3 < 28 then f 4 else f 4 + 1) := rfl
theorem rGo_5 {f : Row} {s : Int} : rGo f s 5 = f 5 := rfl
theorem ro_go {B s : Int} {f : Row} (h : RO B f) (hs : 0 ≤ s ∧ s ≤ 40) : RO (B + 7000) (rGo f s) := by
  have h6 := h.2.1
  have hd := drA_in h 0 (f 6).toNat (by omega) (by omega)
  refine ro_fig (h.mono (show B ≤ B + 7000 by omega)) (fun j hj => rGo_hi (by omega)) ?_
  have hf := h.1
  unfold FO at hf ⊢
  rw [rGo_0, rGo_1, rGo_2, rGo_3, rGo_4, rGo_5]
  refine ⟨?_, ?_, ?_, ?_, ?_, ?_⟩
  · split <;> omega
  · omega
  · split <;> omega
  · split <;> omega
  · split <;> omega
  · omega
def rDs (g : Row) : Nat → Row
  | 0 => g
  | i + 1 => rGo (rDs g i) (rDs g i 5)
theorem ro_ds {B : Int} {g : Row} (h : RO B g) : ∀ i : Nat, RO (B + 7000 * (i : Int)) (rDs g i) := by
  intro i
  induction i with
  | zero => simpa [rDs] using h
  | succ i ih =>
    have h5 := ih.1.2.2.2.2.2
    have := ro_go ih (s := rDs g i 5) (by omega)
    rw [show B + 7000 * ((i + 1 : Nat) : Int) = B + 7000 * (i : Int) + 7000 by push_cast; omega]
    exact this
def xDays (A : AS) (n : Int) : Int × AS := if 1 ≤ n ∧ n ≤ 99 then (rDs (rKeep A.1) n.toNat 2 - A.1 2, sF A (rDs (rKeep A.1) n.toNat)) else (-2, aBad A)
def xOf (A : AS) (b w : Int) : Int × AS := if (0 ≤ b ∧ b < A.1 6) ∧ (0 ≤ w ∧ w ≤ 4) then (if w = 0 then A.1 (7 + b.toNat) else if w = 1 then A.1 (14 + b.toNat) else if w = 2 then A.1 (21 + b.toNat) else if w = 3 then dayB (A.1 (7 + b.toNat)) (A.1 (14 + b.toNat)) else pndB (A.1 (7 + b.toNat)) (A.1 (21 + b.toNat)) (A.1 4), A) else (-10000, aBad A)
def trF (f : Row) : Nat → Int
  | 0 => f 0
  | n + 1 => if f (7 + n) ≠ 5 ∧ f 3 ≤ dayB (f (7 + n)) (f (14 + n)) then trF f n - pndB (f (7 + n)) (f (21 + n)) (f 4) else trF f n
def xTruly (A : AS) : Int × AS := (trF A.1 (A.1 6).toNat, A)
def mnF (f : Row) (b : Nat) : Nat → Int
  | 0 => 0
  | i + 1 => mnF f b i + (pndB (f (7 + b)) (f (21 + b)) (f 4 + i) - f (21 + b))
def xMonthly (A : AS) (b : Int) : Int × AS := if 0 ≤ b ∧ b < A.1 6 then (mnF A.1 b.toNat 12, A) else (-100000, aBad A)

set_option maxRecDepth 20000 in
set_option maxHeartbeats 4000000 in
theorem l_drawnToday (G : Wd) (Z : ZS) (f : Row) (B : Int) (hB : BR Z 1 f) (hR : RO B f) (hBB : B ≤ 60000000) : ∀ (d : Nat) (n : Nat), (f 6).toNat - n = d → (n : Int) ≤ f 6 → Cn G mX10_drawnToday 4 [some (.ref 0), some (iv (drA f n 0)), some (iv ((n : Int))), none] [] Z (qi (fun r W => drA f (f 6).toNat 0 = r ∧ Z = W)) := by
  intro d
  induction d using Nat.strongRecOn with
  | ind d ih =>
    intro n hd hn
    have h6 := hR.2.1
    have hf3 : 1 ≤ f 3 ∧ f 3 ≤ 28 := hR.1.2.2.2.1
    have hf4 : 0 ≤ f 4 ∧ f 4 ≤ B := by have := hR.1.2.2.2.2.1; omega
    have hf0 := hR.1.1
    refine cz_iload_n (pc' := 5) (g_d dtbX10_drawnToday_0 4 rfl) rfl rfl ?_
    refine cz_aload_n (pc' := 6) (g_d dtbX10_drawnToday_0 5 rfl) rfl rfl ?_
    refine nz_getf (v := .ref 1) (pc' := 9) (g_d dtbX10_drawnToday_0 6 rfl) gf_X10_10 (by decide) rfl rfl rfl ?_
    refine nz_getf (v := iv (f 6)) (pc' := 12) (g_d dtbX10_drawnToday_0 7 rfl) gf_X10_61 (by decide) rfl (congrArg iv (br1_4 (hB))) rfl ?_
    refine nz_icmp_ge (tgt := 85) (pc' := 15) (g_d dtbX10_drawnToday_0 8 rfl) (by omega) (by omega) rfl rfl (fun h12 => ?_) (fun h12 => ?_)
    · refine cz_iload_n (pc' := 86) (g_d dtbX10_drawnToday_0 45 rfl) rfl rfl ?_
      refine nz_ri .int (g_d dtbX10_drawnToday_0 46 rfl) rfl rfl ?_
      rw [show n = (f 6).toNat by omega]; exact ⟨rfl, rfl⟩
    · have hn7 : n < 7 := by omega
      have hn2 : (n : Int) < f 6 := by omega
      have hbo := hR.2.2.1 n hn7 hn2
      have hto : 1 ≤ f (14 + n) ∧ f (14 + n) ≤ 28 := hbo.2.1
      have hpo : 1 ≤ f (21 + n) ∧ f (21 + n) ≤ 99 := hbo.2.2
      obtain ⟨κ, hκ, hκ6⟩ : ∃ κ : Nat, f (7 + n) = (κ : Int) ∧ κ < 6 := ⟨(f (7 + n)).toNat, by have := hbo.1; omega, by have := hbo.1; omega⟩
      have hdI := dayB_in (κ := (κ : Int)) hto
      have hpI := pndB_in (κ := (κ : Int)) (p := f (21 + n)) (m := f 4) (by omega)
      refine cz_aload_n (pc' := 16) (g_d dtbX10_drawnToday_0 9 rfl) rfl rfl ?_
      refine nz_getf (v := .ref 25) (pc' := 19) (g_d dtbX10_drawnToday_0 10 rfl) gf_X10_44 (by decide) rfl rfl rfl ?_
      refine cz_aload_n (pc' := 20) (g_d dtbX10_drawnToday_0 11 rfl) rfl rfl ?_
      refine nz_getf (v := .ref 1) (pc' := 23) (g_d dtbX10_drawnToday_0 12 rfl) gf_X10_10 (by decide) rfl rfl rfl ?_
      refine cz_iload_n (pc' := 24) (g_d dtbX10_drawnToday_0 13 rfl) rfl rfl ?_
      refine nz_cVi (M' := mX0_kindAt) (k := 1) (As := [iv ((n : Int))]) (S := [.ref 25]) (L := [some (.ref 0), some (iv (drA f n 0)), some (iv ((n : Int))), none]) (pc' := 27) (g_d dtbX10_drawnToday_0 14 rfl) lk_X10_118 okX0_kindAt (by decide) rfl rfl rfl rfl (Nat.le_of_ble_eq_true rfl) (Nat.le_of_ble_eq_true rfl) (by decide) rfl (c_kindR G Z n f (hB) hn7 hn2) ?_
      rintro _ _ ⟨rfl, rfl⟩
      rw [hκ]
      refine nz_cVr (M' := mX2_numbered) (k := 25) (As := [iv ((κ : Int))]) (S := []) (L := [some (.ref 0), some (iv (drA f n 0)), some (iv ((n : Int))), none]) (pc' := 30) (g_d dtbX10_drawnToday_0 15 rfl) lk_X10_121 okX2_numbered (by decide) rfl rfl rfl rfl (Nat.le_of_ble_eq_true rfl) (Nat.le_of_ble_eq_true rfl) (by decide) rfl (c_numbered G Z κ hκ6) ?_
      rintro _ _ ⟨rfl, rfl⟩
      refine cz_astore_n (L' := [some (.ref 0), some (iv (drA f n 0)), some (iv ((n : Int))), some (.ref (26 + κ))]) (pc' := 31) (g_d dtbX10_drawnToday_0 16 rfl) (by decide) rfl rfl ?_
      refine cz_aload_n (pc' := 32) (g_d dtbX10_drawnToday_0 17 rfl) rfl rfl ?_
      refine cz_aload_n (pc' := 33) (g_d dtbX10_drawnToday_0 18 rfl) rfl rfl ?_
      refine nz_getf (v := .ref 1) (pc' := 36) (g_d dtbX10_drawnToday_0 19 rfl) gf_X10_10 (by decide) rfl rfl rfl ?_
      refine cz_iload_n (pc' := 37) (g_d dtbX10_drawnToday_0 20 rfl) rfl rfl ?_
      refine nz_cVi (M' := mX0_dayAt) (k := 1) (As := [iv ((n : Int))]) (S := [.ref (26 + κ)]) (L := [some (.ref 0), some (iv (drA f n 0)), some (iv ((n : Int))), some (.ref (26 + κ))]) (pc' := 40) (g_d dtbX10_drawnToday_0 21 rfl) lk_X10_127 okX0_dayAt (by decide) rfl rfl rfl rfl (Nat.le_of_ble_eq_true rfl) (Nat.le_of_ble_eq_true rfl) (by decide) rfl (c_dayR G Z n f (hB) hn7 hn2) ?_
      rintro _ _ ⟨rfl, rfl⟩
      refine nz_cD (κ := κ) (S := []) (L := [some (.ref 0), some (iv (drA f n 0)), some (iv ((n : Int))), some (.ref (26 + κ))]) (pc' := 43) (g_d dtbX10_drawnToday_0 22 rfl) kd_X10 hκ6 (by omega) (Nat.le_of_ble_eq_true rfl) (by decide) (by decide) rfl ?_
      refine cz_aload_n (pc' := 44) (g_d dtbX10_drawnToday_0 23 rfl) rfl rfl ?_
      refine nz_getf (v := .ref 1) (pc' := 47) (g_d dtbX10_drawnToday_0 24 rfl) gf_X10_10 (by decide) rfl rfl rfl ?_
      refine nz_getf (v := .ref 2) (pc' := 50) (g_d dtbX10_drawnToday_0 25 rfl) gf_X10_99 (by decide) rfl rfl rfl ?_
      refine nz_iconst (pc' := 51) (g_d dtbX10_drawnToday_0 26 rfl) rfl ?_
      refine nz_iald 3 (pc' := 52) (g_d dtbX10_drawnToday_0 27 rfl) (by decide) rfl (by omega) (by rfl) (by omega) rfl ?_
      rw [show Z 2 3 = f 3 from br1_fig (hB) (by decide)]
      refine nz_icmp_ne (tgt := 79) (pc' := 55) (g_d dtbX10_drawnToday_0 28 rfl) (by omega) (by omega) rfl rfl (fun h52 => ?_) (fun h52 => ?_)
      · refine nz_iinc (L' := [some (.ref 0), some (iv (drA f n 0)), some (iv (((n : Int)) + 1)), some (.ref (26 + κ))]) (pc' := 82) (g_d dtbX10_drawnToday_0 43 rfl) (by decide) rfl rfl rfl ?_
        refine cz_goto (pc' := 4) (g_d dtbX10_drawnToday_0 44 rfl) rfl ?_
        refine cz_le [some (.ref 0), some (iv (drA f n 0)), some (iv (((n : Int)) + 1)), none] ⟨rfl, rfl, rfl, trivial⟩ ?_
        rw [show drA f n 0 = drA f (n + 1) 0 from by simp only [drA, pA]; rw [hκ, dyA0 hf3, mnA0 hf3, if_neg (by omega)]; omega]
        exact ih ((f 6).toNat - (n + 1)) (by omega) (n + 1) rfl (by omega)
      · refine cz_iload_n (pc' := 56) (g_d dtbX10_drawnToday_0 29 rfl) rfl rfl ?_
        refine cz_aload_n (pc' := 57) (g_d dtbX10_drawnToday_0 30 rfl) rfl rfl ?_
        refine cz_aload_n (pc' := 58) (g_d dtbX10_drawnToday_0 31 rfl) rfl rfl ?_
        refine nz_getf (v := .ref 1) (pc' := 61) (g_d dtbX10_drawnToday_0 32 rfl) gf_X10_10 (by decide) rfl rfl rfl ?_
        refine nz_getf (v := .ref 2) (pc' := 64) (g_d dtbX10_drawnToday_0 33 rfl) gf_X10_99 (by decide) rfl rfl rfl ?_
        refine nz_iconst (pc' := 65) (g_d dtbX10_drawnToday_0 34 rfl) rfl ?_
        refine nz_iald 4 (pc' := 66) (g_d dtbX10_drawnToday_0 35 rfl) (by decide) rfl (by omega) (by rfl) (by omega) rfl ?_
        rw [show Z 2 4 = f 4 from br1_fig (hB) (by decide)]
        refine cz_aload_n (pc' := 67) (g_d dtbX10_drawnToday_0 36 rfl) rfl rfl ?_
        refine nz_getf (v := .ref 1) (pc' := 70) (g_d dtbX10_drawnToday_0 37 rfl) gf_X10_10 (by decide) rfl rfl rfl ?_
        refine cz_iload_n (pc' := 71) (g_d dtbX10_drawnToday_0 38 rfl) rfl rfl ?_
        refine nz_cVi (M' := mX0_poundsAt) (k := 1) (As := [iv ((n : Int))]) (S := [iv (f 4), .ref (26 + κ), iv (drA f n 0)]) (L := [some (.ref 0), some (iv (drA f n 0)), some (iv ((n : Int))), some (.ref (26 + κ))]) (pc' := 74) (g_d dtbX10_drawnToday_0 39 rfl) lk_X10_130 okX0_poundsAt (by decide) rfl rfl rfl rfl (Nat.le_of_ble_eq_true rfl) (Nat.le_of_ble_eq_true rfl) (by decide) rfl (c_poundsR G Z n f (hB) hn7 hn2) ?_
        rintro _ _ ⟨rfl, rfl⟩
        refine nz_cP (κ := κ) (S := [iv (drA f n 0)]) (L := [some (.ref 0), some (iv (drA f n 0)), some (iv ((n : Int))), some (.ref (26 + κ))]) (pc' := 77) (g_d dtbX10_drawnToday_0 40 rfl) kp_X10 hκ6 (by omega) (by omega) (Nat.le_of_ble_eq_true rfl) (by decide) (by decide) rfl ?_
        refine nz_iadd (pc' := 78) (g_d dtbX10_drawnToday_0 41 rfl) rfl ?_
        refine cz_istore_n (L' := [some (.ref 0), some (iv ((drA f n 0) + (pndB (κ : Int) (f (21 + n)) (f 4)))), some (iv ((n : Int))), some (.ref (26 + κ))]) (pc' := 79) (g_d dtbX10_drawnToday_0 42 rfl) (by decide) rfl rfl ?_
        refine nz_iinc (L' := [some (.ref 0), some (iv ((drA f n 0) + (pndB (κ : Int) (f (21 + n)) (f 4)))), some (iv (((n : Int)) + 1)), some (.ref (26 + κ))]) (pc' := 82) (g_d dtbX10_drawnToday_0 43 rfl) (by decide) rfl rfl rfl ?_
        refine cz_goto (pc' := 4) (g_d dtbX10_drawnToday_0 44 rfl) rfl ?_
        refine cz_le [some (.ref 0), some (iv ((drA f n 0) + (pndB (κ : Int) (f (21 + n)) (f 4)))), some (iv (((n : Int)) + 1)), none] ⟨rfl, rfl, rfl, trivial⟩ ?_
        rw [show drA f n 0 + pndB (κ : Int) (f (21 + n)) (f 4) = drA f (n + 1) 0 from by simp only [drA, pA]; rw [hκ, dyA0 hf3, mnA0 hf3, if_pos (by omega)]]
        exact ih ((f 6).toNat - (n + 1)) (by omega) (n + 1) rfl (by omega)

set_option maxRecDepth 20000 in
set_option maxHeartbeats 4000000 in
theorem c_drawnToday (G : Wd) (Z : ZS) (f : Row) (B : Int) (hB : BR Z 1 f) (hR : RO B f) (hBB : B ≤ 60000000) : Cn G mX10_drawnToday 0 [some (.ref 0), none, none, none] [] Z (qi (fun r W => drA f (f 6).toNat 0 = r ∧ Z = W)) := by
  refine nz_iconst (pc' := 1) (g_d dtbX10_drawnToday_0 0 rfl) rfl ?_
  refine cz_istore_n (L' := [some (.ref 0), some (iv 0), none, none]) (pc' := 2) (g_d dtbX10_drawnToday_0 1 rfl) (by decide) rfl rfl ?_
  refine nz_iconst (pc' := 3) (g_d dtbX10_drawnToday_0 2 rfl) rfl ?_
  refine cz_istore_n (L' := [some (.ref 0), some (iv 0), some (iv 0), none]) (pc' := 4) (g_d dtbX10_drawnToday_0 3 rfl) (by decide) rfl rfl ?_
  exact l_drawnToday G Z f B hB hR hBB ((f 6).toNat - 0) 0 rfl (by have := hR.2.1; omega)

set_option maxRecDepth 20000 in
set_option maxHeartbeats 4000000 in
theorem c_passDay (G : Wd) (Z : ZS) (f : Row) (B : Int) (hB : BR Z 1 f) (hR : RO B f) (hBB : B ≤ 60000000) (h5 : 0 ≤ f 5 ∧ f 5 ≤ 30) : Cn G mX10_passDay 0 [some (.ref 0), none] [] Z (qv (fun W => BR W 1 (rGo f (f 5)) ∧ Fb 1 Z W)) := by
  have h6 := hR.2.1
  have hf3 : 1 ≤ f 3 ∧ f 3 ≤ 28 := hR.1.2.2.2.1
  have hf4 : 0 ≤ f 4 ∧ f 4 ≤ B := by have := hR.1.2.2.2.2.1; omega
  have hf0 := hR.1.1
  have hmn := hR.1.2.2.2.2.1
  refine cz_aload_n (pc' := 1) (g_d dtbX10_passDay_0 0 rfl) rfl rfl ?_
  refine nz_getf (v := .ref 1) (pc' := 4) (g_d dtbX10_passDay_0 1 rfl) gf_X10_10 (by decide) rfl rfl rfl ?_
  refine nz_getf (v := .ref 2) (pc' := 7) (g_d dtbX10_passDay_0 2 rfl) gf_X10_99 (by decide) rfl rfl rfl ?_
  refine cz_astore_n (L' := [some (.ref 0), some (.ref 2)]) (pc' := 8) (g_d dtbX10_passDay_0 3 rfl) (by decide) rfl rfl ?_
  refine cz_aload_n (pc' := 9) (g_d dtbX10_passDay_0 4 rfl) rfl rfl ?_
  refine nz_iconst (pc' := 10) (g_d dtbX10_passDay_0 5 rfl) rfl ?_
  refine cz_dup2 (pc' := 11) (g_d dtbX10_passDay_0 6 rfl) rfl rfl rfl ?_
  refine nz_iald 0 (pc' := 12) (g_d dtbX10_passDay_0 7 rfl) (by decide) rfl (by omega) (by rfl) (by omega) rfl ?_
  rw [show Z 2 0 = f 0 from br1_fig (hB) (by decide)]
  refine cz_aload_n (pc' := 13) (g_d dtbX10_passDay_0 8 rfl) rfl rfl ?_
  refine nz_cVi (M' := mX10_drawnToday) (k := 0) (As := []) (S := [iv (f 0), iv 0, .ref 2]) (L := [some (.ref 0), some (.ref 2)]) (pc' := 16) (g_d dtbX10_passDay_0 9 rfl) lk_X10_248 okX10_drawnToday (by decide) rfl rfl rfl rfl (Nat.le_of_ble_eq_true rfl) (Nat.le_of_ble_eq_true rfl) (by decide) rfl (c_drawnToday G Z f B hB hR hBB) ?_
  rintro _ _ ⟨rfl, rfl⟩
  refine cz_aload_n (pc' := 17) (g_d dtbX10_passDay_0 10 rfl) rfl rfl ?_
  refine nz_iconst (pc' := 18) (g_d dtbX10_passDay_0 11 rfl) rfl ?_
  refine nz_iald 5 (pc' := 19) (g_d dtbX10_passDay_0 12 rfl) (by decide) rfl (by omega) (by rfl) (by omega) rfl ?_
  rw [show Z 2 5 = f 5 from br1_fig (hB) (by decide)]
  refine nz_iadd (pc' := 20) (g_d dtbX10_passDay_0 13 rfl) rfl ?_
  refine nz_isub (pc' := 21) (g_d dtbX10_passDay_0 14 rfl) rfl ?_
  refine nz_iast 0 (pc' := 22) (g_d dtbX10_passDay_0 15 rfl) (by decide) rfl (by omega) (by rfl) (by omega) rfl ?_
  have hdr := drA_in hR 0 (f 6).toNat (by omega) (by omega)
  refine cz_aload_n (pc' := 23) (g_d dtbX10_passDay_0 16 rfl) rfl rfl ?_
  refine nz_iconst (pc' := 24) (g_d dtbX10_passDay_0 17 rfl) rfl ?_
  refine nz_iald 0 (pc' := 25) (g_d dtbX10_passDay_0 18 rfl) (by decide) rfl (by omega) (by rfl) (by omega) rfl ?_
  rw [show (zu Z 2 0 ((f 0) - ((drA f (f 6).toNat 0) + (f 5)))) 2 0 = (f 0) - ((drA f (f 6).toNat 0) + (f 5)) from by simp [zu, zr]]
  refine nz_if_ge (tgt := 42) (pc' := 28) (g_d dtbX10_passDay_0 19 rfl) (by omega) rfl rfl (fun h25 => ?_) (fun h25 => ?_)
  · refine cz_aload_n (pc' := 43) (g_d dtbX10_passDay_0 34 rfl) rfl rfl ?_
    refine nz_iconst (pc' := 44) (g_d dtbX10_passDay_0 35 rfl) rfl ?_
    refine nz_iald 3 (pc' := 45) (g_d dtbX10_passDay_0 36 rfl) (by decide) rfl (by omega) (by rfl) (by omega) rfl ?_
    rw [show (zu Z 2 0 ((f 0) - ((drA f (f 6).toNat 0) + (f 5)))) 2 3 = f 3 from by rw [show (zu Z 2 0 ((f 0) - ((drA f (f 6).toNat 0) + (f 5)))) 2 3 = Z 2 3 from by simp [zu, zr]]; exact br1_fig (hB) (by decide)]
    refine nz_bipush (pc' := 47) (g_d dtbX10_passDay_0 37 rfl) (by decide) rfl ?_
    refine nz_icmp_ge (tgt := 60) (pc' := 50) (g_d dtbX10_passDay_0 38 rfl) (by omega) (by omega) rfl rfl (fun h47 => ?_) (fun h47 => ?_)
    · refine cz_aload_n (pc' := 61) (g_d dtbX10_passDay_0 47 rfl) rfl rfl ?_
      refine nz_iconst (pc' := 62) (g_d dtbX10_passDay_0 48 rfl) rfl ?_
      refine nz_iald 4 (pc' := 63) (g_d dtbX10_passDay_0 49 rfl) (by decide) rfl (by omega) (by rfl) (by omega) rfl ?_
      rw [show (zu Z 2 0 ((f 0) - ((drA f (f 6).toNat 0) + (f 5)))) 2 4 = f 4 from by rw [show (zu Z 2 0 ((f 0) - ((drA f (f 6).toNat 0) + (f 5)))) 2 4 = Z 2 4 from by simp [zu, zr]]; exact br1_fig (hB) (by decide)]
      refine nz_sipush (pc' := 66) (g_d dtbX10_passDay_0 50 rfl) (by decide) rfl ?_
      refine nz_icmp_ge_f (pc' := 69) (g_d dtbX10_passDay_0 51 rfl) (by omega) (by omega) (by decide) rfl (by omega) ?_
      refine cz_aload_n (pc' := 70) (g_d dtbX10_passDay_0 52 rfl) rfl rfl ?_
      refine nz_iconst (pc' := 71) (g_d dtbX10_passDay_0 53 rfl) rfl ?_
      refine nz_iconst (pc' := 72) (g_d dtbX10_passDay_0 54 rfl) rfl ?_
      refine nz_iast 3 (pc' := 73) (g_d dtbX10_passDay_0 55 rfl) (by decide) rfl (by omega) (by rfl) (by omega) rfl ?_
      refine cz_aload_n (pc' := 74) (g_d dtbX10_passDay_0 56 rfl) rfl rfl ?_
      refine nz_iconst (pc' := 75) (g_d dtbX10_passDay_0 57 rfl) rfl ?_
      refine cz_dup2 (pc' := 76) (g_d dtbX10_passDay_0 58 rfl) rfl rfl rfl ?_
      refine nz_iald 4 (pc' := 77) (g_d dtbX10_passDay_0 59 rfl) (by decide) rfl (by omega) (by rfl) (by omega) rfl ?_
      rw [show (zu (zu Z 2 0 ((f 0) - ((drA f (f 6).toNat 0) + (f 5)))) 2 3 1) 2 4 = f 4 from by rw [show (zu (zu Z 2 0 ((f 0) - ((drA f (f 6).toNat 0) + (f 5)))) 2 3 1) 2 4 = Z 2 4 from by simp [zu, zr]]; exact br1_fig (hB) (by decide)]
      refine nz_iconst (pc' := 78) (g_d dtbX10_passDay_1 0 rfl) rfl ?_
      refine nz_iadd (pc' := 79) (g_d dtbX10_passDay_1 1 rfl) rfl ?_
      refine nz_iast 4 (pc' := 80) (g_d dtbX10_passDay_1 2 rfl) (by decide) rfl (by omega) (by rfl) (by omega) rfl ?_
      refine nz_rv (g_d dtbX10_passDay_1 3 rfl) rfl ?_
      refine ⟨BR.ext (br_fig (br_fig (br_fig hB (by decide)) (by decide)) (by decide)) (fun j hj => ?_), (Fb.u (Fb.u (Fb.u Fb.rf ⟨by omega, by omega⟩) ⟨by omega, by omega⟩) ⟨by omega, by omega⟩)⟩
      simp only [rGo, ru]
      (repeat' split) <;> first | rfl | omega | (subst_vars; first | rfl | omega | contradiction) | contradiction
    · refine cz_aload_n (pc' := 51) (g_d dtbX10_passDay_0 39 rfl) rfl rfl ?_
      refine nz_iconst (pc' := 52) (g_d dtbX10_passDay_0 40 rfl) rfl ?_
      refine cz_dup2 (pc' := 53) (g_d dtbX10_passDay_0 41 rfl) rfl rfl rfl ?_
      refine nz_iald 3 (pc' := 54) (g_d dtbX10_passDay_0 42 rfl) (by decide) rfl (by omega) (by rfl) (by omega) rfl ?_
      rw [show (zu Z 2 0 ((f 0) - ((drA f (f 6).toNat 0) + (f 5)))) 2 3 = f 3 from by rw [show (zu Z 2 0 ((f 0) - ((drA f (f 6).toNat 0) + (f 5)))) 2 3 = Z 2 3 from by simp [zu, zr]]; exact br1_fig (hB) (by decide)]
      refine nz_iconst (pc' := 55) (g_d dtbX10_passDay_0 43 rfl) rfl ?_
      refine nz_iadd (pc' := 56) (g_d dtbX10_passDay_0 44 rfl) rfl ?_
      refine nz_iast 3 (pc' := 57) (g_d dtbX10_passDay_0 45 rfl) (by decide) rfl (by omega) (by rfl) (by omega) rfl ?_
      refine cz_goto (pc' := 80) (g_d dtbX10_passDay_0 46 rfl) rfl ?_
      refine nz_rv (g_d dtbX10_passDay_1 3 rfl) rfl ?_
      refine ⟨BR.ext (br_fig (br_fig hB (by decide)) (by decide)) (fun j hj => ?_), (Fb.u (Fb.u Fb.rf ⟨by omega, by omega⟩) ⟨by omega, by omega⟩)⟩
      simp only [rGo, ru]
      (repeat' split) <;> first | rfl | omega | (subst_vars; first | rfl | omega | contradiction) | contradiction
  · refine cz_aload_n (pc' := 29) (g_d dtbX10_passDay_0 20 rfl) rfl rfl ?_
    refine nz_iconst (pc' := 30) (g_d dtbX10_passDay_0 21 rfl) rfl ?_
    refine cz_dup2 (pc' := 31) (g_d dtbX10_passDay_0 22 rfl) rfl rfl rfl ?_
    refine nz_iald 0 (pc' := 32) (g_d dtbX10_passDay_0 23 rfl) (by decide) rfl (by omega) (by rfl) (by omega) rfl ?_
    rw [show (zu Z 2 0 ((f 0) - ((drA f (f 6).toNat 0) + (f 5)))) 2 0 = (f 0) - ((drA f (f 6).toNat 0) + (f 5)) from by simp [zu, zr]]
    refine nz_iconst (pc' := 33) (g_d dtbX10_passDay_0 24 rfl) rfl ?_
    refine nz_isub (pc' := 34) (g_d dtbX10_passDay_0 25 rfl) rfl ?_
    refine nz_iast 0 (pc' := 35) (g_d dtbX10_passDay_0 26 rfl) (by decide) rfl (by omega) (by rfl) (by omega) rfl ?_
    refine cz_aload_n (pc' := 36) (g_d dtbX10_passDay_0 27 rfl) rfl rfl ?_
    refine nz_iconst (pc' := 37) (g_d dtbX10_passDay_0 28 rfl) rfl ?_
    refine cz_dup2 (pc' := 38) (g_d dtbX10_passDay_0 29 rfl) rfl rfl rfl ?_
    refine nz_iald 2 (pc' := 39) (g_d dtbX10_passDay_0 30 rfl) (by decide) rfl (by omega) (by rfl) (by omega) rfl ?_
    rw [show (zu (zu Z 2 0 ((f 0) - ((drA f (f 6).toNat 0) + (f 5)))) 2 0 (((f 0) - ((drA f (f 6).toNat 0) + (f 5))) - 1)) 2 2 = f 2 from by rw [show (zu (zu Z 2 0 ((f 0) - ((drA f (f 6).toNat 0) + (f 5)))) 2 0 (((f 0) - ((drA f (f 6).toNat 0) + (f 5))) - 1)) 2 2 = Z 2 2 from by simp [zu, zr]]; exact br1_fig (hB) (by decide)]
    refine nz_iconst (pc' := 40) (g_d dtbX10_passDay_0 31 rfl) rfl ?_
    refine nz_iadd (pc' := 41) (g_d dtbX10_passDay_0 32 rfl) rfl ?_
    refine nz_iast 2 (pc' := 42) (g_d dtbX10_passDay_0 33 rfl) (by decide) rfl (by omega) (by rfl) (by omega) rfl ?_
    refine cz_aload_n (pc' := 43) (g_d dtbX10_passDay_0 34 rfl) rfl rfl ?_
    refine nz_iconst (pc' := 44) (g_d dtbX10_passDay_0 35 rfl) rfl ?_
    refine nz_iald 3 (pc' := 45) (g_d dtbX10_passDay_0 36 rfl) (by decide) rfl (by omega) (by rfl) (by omega) rfl ?_
    rw [show (zu (zu (zu Z 2 0 ((f 0) - ((drA f (f 6).toNat 0) + (f 5)))) 2 0 (((f 0) - ((drA f (f 6).toNat 0) + (f 5))) - 1)) 2 2 ((f 2) + 1)) 2 3 = f 3 from by rw [show (zu (zu (zu Z 2 0 ((f 0) - ((drA f (f 6).toNat 0) + (f 5)))) 2 0 (((f 0) - ((drA f (f 6).toNat 0) + (f 5))) - 1)) 2 2 ((f 2) + 1)) 2 3 = Z 2 3 from by simp [zu, zr]]; exact br1_fig (hB) (by decide)]
    refine nz_bipush (pc' := 47) (g_d dtbX10_passDay_0 37 rfl) (by decide) rfl ?_
    refine nz_icmp_ge (tgt := 60) (pc' := 50) (g_d dtbX10_passDay_0 38 rfl) (by omega) (by omega) rfl rfl (fun h47 => ?_) (fun h47 => ?_)
    · refine cz_aload_n (pc' := 61) (g_d dtbX10_passDay_0 47 rfl) rfl rfl ?_
      refine nz_iconst (pc' := 62) (g_d dtbX10_passDay_0 48 rfl) rfl ?_
      refine nz_iald 4 (pc' := 63) (g_d dtbX10_passDay_0 49 rfl) (by decide) rfl (by omega) (by rfl) (by omega) rfl ?_
      rw [show (zu (zu (zu Z 2 0 ((f 0) - ((drA f (f 6).toNat 0) + (f 5)))) 2 0 (((f 0) - ((drA f (f 6).toNat 0) + (f 5))) - 1)) 2 2 ((f 2) + 1)) 2 4 = f 4 from by rw [show (zu (zu (zu Z 2 0 ((f 0) - ((drA f (f 6).toNat 0) + (f 5)))) 2 0 (((f 0) - ((drA f (f 6).toNat 0) + (f 5))) - 1)) 2 2 ((f 2) + 1)) 2 4 = Z 2 4 from by simp [zu, zr]]; exact br1_fig (hB) (by decide)]
      refine nz_sipush (pc' := 66) (g_d dtbX10_passDay_0 50 rfl) (by decide) rfl ?_
      refine nz_icmp_ge_f (pc' := 69) (g_d dtbX10_passDay_0 51 rfl) (by omega) (by omega) (by decide) rfl (by omega) ?_
      refine cz_aload_n (pc' := 70) (g_d dtbX10_passDay_0 52 rfl) rfl rfl ?_
      refine nz_iconst (pc' := 71) (g_d dtbX10_passDay_0 53 rfl) rfl ?_
      refine nz_iconst (pc' := 72) (g_d dtbX10_passDay_0 54 rfl) rfl ?_
      refine nz_iast 3 (pc' := 73) (g_d dtbX10_passDay_0 55 rfl) (by decide) rfl (by omega) (by rfl) (by omega) rfl ?_
      refine cz_aload_n (pc' := 74) (g_d dtbX10_passDay_0 56 rfl) rfl rfl ?_
      refine nz_iconst (pc' := 75) (g_d dtbX10_passDay_0 57 rfl) rfl ?_
      refine cz_dup2 (pc' := 76) (g_d dtbX10_passDay_0 58 rfl) rfl rfl rfl ?_
      refine nz_iald 4 (pc' := 77) (g_d dtbX10_passDay_0 59 rfl) (by decide) rfl (by omega) (by rfl) (by omega) rfl ?_
      rw [show (zu (zu (zu (zu Z 2 0 ((f 0) - ((drA f (f 6).toNat 0) + (f 5)))) 2 0 (((f 0) - ((drA f (f 6).toNat 0) + (f 5))) - 1)) 2 2 ((f 2) + 1)) 2 3 1) 2 4 = f 4 from by rw [show (zu (zu (zu (zu Z 2 0 ((f 0) - ((drA f (f 6).toNat 0) + (f 5)))) 2 0 (((f 0) - ((drA f (f 6).toNat 0) + (f 5))) - 1)) 2 2 ((f 2) + 1)) 2 3 1) 2 4 = Z 2 4 from by simp [zu, zr]]; exact br1_fig (hB) (by decide)]
      refine nz_iconst (pc' := 78) (g_d dtbX10_passDay_1 0 rfl) rfl ?_
      refine nz_iadd (pc' := 79) (g_d dtbX10_passDay_1 1 rfl) rfl ?_
      refine nz_iast 4 (pc' := 80) (g_d dtbX10_passDay_1 2 rfl) (by decide) rfl (by omega) (by rfl) (by omega) rfl ?_
      refine nz_rv (g_d dtbX10_passDay_1 3 rfl) rfl ?_
      refine ⟨BR.ext (br_fig (br_fig (br_fig (br_fig (br_fig hB (by decide)) (by decide)) (by decide)) (by decide)) (by decide)) (fun j hj => ?_), (Fb.u (Fb.u (Fb.u (Fb.u (Fb.u Fb.rf ⟨by omega, by omega⟩) ⟨by omega, by omega⟩) ⟨by omega, by omega⟩) ⟨by omega, by omega⟩) ⟨by omega, by omega⟩)⟩
      simp only [rGo, ru]
      (repeat' split) <;> first | rfl | omega | (subst_vars; first | rfl | omega | contradiction) | contradiction
    · refine cz_aload_n (pc' := 51) (g_d dtbX10_passDay_0 39 rfl) rfl rfl ?_
      refine nz_iconst (pc' := 52) (g_d dtbX10_passDay_0 40 rfl) rfl ?_
      refine cz_dup2 (pc' := 53) (g_d dtbX10_passDay_0 41 rfl) rfl rfl rfl ?_
      refine nz_iald 3 (pc' := 54) (g_d dtbX10_passDay_0 42 rfl) (by decide) rfl (by omega) (by rfl) (by omega) rfl ?_
      rw [show (zu (zu (zu Z 2 0 ((f 0) - ((drA f (f 6).toNat 0) + (f 5)))) 2 0 (((f 0) - ((drA f (f 6).toNat 0) + (f 5))) - 1)) 2 2 ((f 2) + 1)) 2 3 = f 3 from by rw [show (zu (zu (zu Z 2 0 ((f 0) - ((drA f (f 6).toNat 0) + (f 5)))) 2 0 (((f 0) - ((drA f (f 6).toNat 0) + (f 5))) - 1)) 2 2 ((f 2) + 1)) 2 3 = Z 2 3 from by simp [zu, zr]]; exact br1_fig (hB) (by decide)]
      refine nz_iconst (pc' := 55) (g_d dtbX10_passDay_0 43 rfl) rfl ?_
      refine nz_iadd (pc' := 56) (g_d dtbX10_passDay_0 44 rfl) rfl ?_
      refine nz_iast 3 (pc' := 57) (g_d dtbX10_passDay_0 45 rfl) (by decide) rfl (by omega) (by rfl) (by omega) rfl ?_
      refine cz_goto (pc' := 80) (g_d dtbX10_passDay_0 46 rfl) rfl ?_
      refine nz_rv (g_d dtbX10_passDay_1 3 rfl) rfl ?_
      refine ⟨BR.ext (br_fig (br_fig (br_fig (br_fig hB (by decide)) (by decide)) (by decide)) (by decide)) (fun j hj => ?_), (Fb.u (Fb.u (Fb.u (Fb.u Fb.rf ⟨by omega, by omega⟩) ⟨by omega, by omega⟩) ⟨by omega, by omega⟩) ⟨by omega, by omega⟩)⟩
      simp only [rGo, ru]
      (repeat' split) <;> first | rfl | omega | (subst_vars; first | rfl | omega | contradiction) | contradiction

set_option maxRecDepth 20000 in
set_option maxHeartbeats 4000000 in
theorem l_days (G : Wd) (Z : ZS) (A : AS) (B c0 : Int) (N : Nat) (hO : RO B A.1) (hb0 : B + 700000 ≤ 60000000) (hN : N ≤ 99) : ∀ (d : Nat) (i : Nat) (W : ZS), N - i = d → i ≤ N → CS W (sF A (rDs (rKeep A.1) i)) → FM Z W → Cn G mX10_days 36 [some (.ref 0), some (iv ((N : Int))), some (iv (c0)), some (iv ((i : Int)))] [] W (qi (fun r V => rDs (rKeep A.1) N 2 - c0 = r ∧ CS V (sF A (rDs (rKeep A.1) N)) ∧ FM Z V)) := by
  intro d
  induction d using Nat.strongRecOn with
  | ind d ih =>
    intro i W hd hi hCW hFW
    have hRi := ro_ds (ro_keep hO) i
    refine cz_iload_n (pc' := 37) (g_d dtbX10_days_0 20 rfl) rfl rfl ?_
    refine cz_iload_n (pc' := 38) (g_d dtbX10_days_0 21 rfl) rfl rfl ?_
    refine nz_icmp_ge (tgt := 51) (pc' := 41) (g_d dtbX10_days_0 22 rfl) (by omega) (by omega) rfl rfl (fun h38 => ?_) (fun h38 => ?_)
    · refine cz_aload_n (pc' := 52) (g_d dtbX10_days_0 27 rfl) rfl rfl ?_
      refine nz_getf (v := .ref 1) (pc' := 55) (g_d dtbX10_days_0 28 rfl) gf_X10_10 (by decide) rfl rfl rfl ?_
      refine nz_getf (v := .ref 2) (pc' := 58) (g_d dtbX10_days_0 29 rfl) gf_X10_99 (by decide) rfl rfl rfl ?_
      refine nz_iconst (pc' := 59) (g_d dtbX10_days_0 30 rfl) rfl ?_
      refine nz_iald 2 (pc' := 60) (g_d dtbX10_days_0 31 rfl) (by decide) rfl (by omega) (by rfl) (by omega) rfl ?_
      rw [show W 2 2 = rDs (rKeep A.1) i 2 from br1_fig hCW.1 (by decide)]
      refine cz_iload_n (pc' := 61) (g_d dtbX10_days_0 32 rfl) rfl rfl ?_
      refine nz_isub (pc' := 62) (g_d dtbX10_days_0 33 rfl) rfl ?_
      refine nz_ri .int (g_d dtbX10_days_0 34 rfl) rfl rfl ?_
      rw [show i = N by omega] at hCW ⊢
      exact ⟨rfl, hCW, hFW⟩
    · refine cz_aload_n (pc' := 42) (g_d dtbX10_days_0 23 rfl) rfl rfl ?_
      refine nz_cVv (M' := mX10_passDay) (k := 0) (As := []) (S := []) (L := [some (.ref 0), some (iv ((N : Int))), some (iv (c0)), some (iv ((i : Int)))]) (pc' := 45) (g_d dtbX10_days_0 24 rfl) lk_X10_102 okX10_passDay (by decide) rfl rfl rfl rfl (Nat.le_of_ble_eq_true rfl) (Nat.le_of_ble_eq_true rfl) (by decide) rfl (c_passDay G W (rDs (rKeep A.1) i) (B + 7000 * (i : Int)) hCW.1 hRi (by omega) hRi.1.2.2.2.2.2) ?_
      rintro W2 ⟨hb2, hF2⟩
      refine nz_iinc (L' := [some (.ref 0), some (iv ((N : Int))), some (iv (c0)), some (iv (((i : Int)) + 1))]) (pc' := 48) (g_d dtbX10_days_0 25 rfl) (by decide) rfl rfl rfl ?_
      refine cz_goto (pc' := 36) (g_d dtbX10_days_0 26 rfl) rfl ?_
      exact ih (N - (i + 1)) (by omega) (i + 1) W2 rfl (by omega) (CS.book (A := sF A (rDs (rKeep A.1) i)) hCW hb2 hF2) (hFW.b (by decide) hF2)

set_option maxRecDepth 20000 in
set_option maxHeartbeats 4000000 in
theorem a_days (G : Wd) (Z : ZS) (A : AS) (B : Int) (hC : CS Z A) (hA : AO B A) (n : Int) (hn : -2147483648 ≤ n ∧ n ≤ 2147483647) (hbb : B + 700000 ≤ 60000000) : Cn G mX10_days 0 [some (.ref 0), some (iv (n)), none, none] [] Z (qi (fun r W => (xDays A n).1 = r ∧ CS W (xDays A n).2 ∧ FM Z W)) := by
  have hB := hC.1
  have hb0 := hA.1
  have hO := hA.2.1
  have h6 : 0 ≤ A.1 6 ∧ A.1 6 ≤ 7 := hO.2.1
  have h28 : 0 ≤ A.1 28 ∧ A.1 28 ≤ 6 := hO.2.2.2.1
  have h59 : 0 ≤ A.1 59 ∧ A.1 59 ≤ 8 := hO.2.2.2.2.2.1
  have hf := hO.1
  unfold FO at hf
  have hct := hA.2.2.2.2.2.2
  refine cz_iload_n (pc' := 1) (g_d dtbX10_days_0 0 rfl) rfl rfl ?_
  refine nz_iconst (pc' := 2) (g_d dtbX10_days_0 1 rfl) rfl ?_
  refine nz_bipush (pc' := 4) (g_d dtbX10_days_0 2 rfl) (by decide) rfl ?_
  refine nz_cSi (M' := mX10_within) (As := [iv (n), iv 1, iv 99]) (S := []) (L := [some (.ref 0), some (iv (n)), none, none]) (pc' := 7) (g_d dtbX10_days_0 3 rfl) lk_X10_53 okX10_within rfl rfl (Nat.le_of_ble_eq_true rfl) (Nat.le_of_ble_eq_true rfl) (by decide) rfl (c_within G Z n 1 99 (by omega) (by omega) (by omega)) ?_
  rintro _ _ ⟨rfl, ⟨rfl, hw4⟩ | ⟨rfl, hw4⟩⟩
  · refine nz_if_ne_t (tgt := 17) (g_d dtbX10_days_0 4 rfl) (by omega) rfl (by omega) ?_
    refine cz_aload_n (pc' := 18) (g_d dtbX10_days_0 9 rfl) rfl rfl ?_
    refine nz_getf (v := .ref 1) (pc' := 21) (g_d dtbX10_days_0 10 rfl) gf_X10_10 (by decide) rfl rfl rfl ?_
    refine nz_cVv (M' := mX0_keepPast) (k := 1) (As := []) (S := []) (L := [some (.ref 0), some (iv (n)), none, none]) (pc' := 24) (g_d dtbX10_days_0 11 rfl) lk_X10_96 okX0_keepPast (by decide) rfl rfl rfl rfl (Nat.le_of_ble_eq_true rfl) (Nat.le_of_ble_eq_true rfl) (by decide) rfl (c_keepPast G Z 1 A.1 bk1 hB h59) ?_
    rintro W1 ⟨hb1, hF1⟩
    have hC1 := hC.book hb1 hF1
    refine cz_aload_n (pc' := 25) (g_d dtbX10_days_0 12 rfl) rfl rfl ?_
    refine nz_getf (v := .ref 1) (pc' := 28) (g_d dtbX10_days_0 13 rfl) gf_X10_10 (by decide) rfl rfl rfl ?_
    refine nz_getf (v := .ref 2) (pc' := 31) (g_d dtbX10_days_0 14 rfl) gf_X10_99 (by decide) rfl rfl rfl ?_
    refine nz_iconst (pc' := 32) (g_d dtbX10_days_0 15 rfl) rfl ?_
    refine nz_iald 2 (pc' := 33) (g_d dtbX10_days_0 16 rfl) (by decide) rfl (by omega) (by rfl) (by omega) rfl ?_
    rw [show W1 2 2 = A.1 2 from (br1_fig hb1 (by decide)).trans (rKeep_lo (by decide))]
    refine cz_istore_n (L' := [some (.ref 0), some (iv (n)), some (iv (A.1 2)), none]) (pc' := 34) (g_d dtbX10_days_0 17 rfl) (by decide) rfl rfl ?_
    refine nz_iconst (pc' := 35) (g_d dtbX10_days_0 18 rfl) rfl ?_
    refine cz_istore_n (L' := [some (.ref 0), some (iv (n)), some (iv (A.1 2)), some (iv 0)]) (pc' := 36) (g_d dtbX10_days_0 19 rfl) (by decide) rfl rfl ?_
    obtain ⟨N, rfl⟩ : ∃ N : Nat, n = (N : Int) := ⟨n.toNat, by omega⟩
    rw [show xDays A (N : Int) = (rDs (rKeep A.1) N 2 - A.1 2, sF A (rDs (rKeep A.1) N)) from if_pos (by omega)]
    exact l_days G Z A B (A.1 2) N hO hbb (by omega) (N - 0) 0 W1 rfl (Nat.zero_le _) hC1 (FM.rf.b (by decide) hF1)
  · refine nz_if_ne_f (pc' := 10) (g_d dtbX10_days_0 4 rfl) (by omega) (by decide) rfl (by omega) ?_
    refine cz_aload_n (pc' := 11) (g_d dtbX10_days_0 5 rfl) rfl rfl ?_
    refine nz_bipush (pc' := 13) (g_d dtbX10_days_0 6 rfl) (by decide) rfl ?_
    refine nz_cVi (M' := mX10_refuseBad) (k := 0) (As := [iv (-2)]) (S := []) (L := [some (.ref 0), some (iv (n)), none, none]) (pc' := 16) (g_d dtbX10_days_0 7 rfl) lk_X10_57 okX10_refuseBad (by decide) rfl rfl rfl rfl (Nat.le_of_ble_eq_true rfl) (Nat.le_of_ble_eq_true rfl) (by decide) rfl (c_refuseBad G Z (-2)) ?_
    rintro _ _ ⟨rfl, rfl⟩
    refine nz_ri .int (g_d dtbX10_days_0 8 rfl) rfl rfl ?_
    rw [show xDays A n = (-2, aBad A) from by unfold xDays; rw [if_neg (by omega)]]
    exact ⟨rfl, cs_bad hC, (FM.u FM.rf (by decide))⟩

set_option maxRecDepth 20000 in
set_option maxHeartbeats 4000000 in
theorem a_of (G : Wd) (Z : ZS) (A : AS) (B : Int) (hC : CS Z A) (hA : AO B A) (b w : Int) (hb : -2147483648 ≤ b ∧ b ≤ 2147483647) (hw : -2147483648 ≤ w ∧ w ≤ 2147483647) : Cn G mX10_of 0 [some (.ref 0), some (iv (b)), some (iv (w)), none] [] Z (qi (fun r W => (xOf A b w).1 = r ∧ CS W (xOf A b w).2 ∧ FM Z W)) := by
  have hB := hC.1
  have hb0 := hA.1
  have hO := hA.2.1
  have h6 : 0 ≤ A.1 6 ∧ A.1 6 ≤ 7 := hO.2.1
  have h28 : 0 ≤ A.1 28 ∧ A.1 28 ≤ 6 := hO.2.2.2.1
  have h59 : 0 ≤ A.1 59 ∧ A.1 59 ≤ 8 := hO.2.2.2.2.2.1
  have hf := hO.1
  unfold FO at hf
  have hct := hA.2.2.2.2.2.2
  obtain ⟨f, ef⟩ : ∃ f : Row, f = A.1 := ⟨_, rfl⟩
  rw [← ef] at hB hO h6 h28 h59 hf
  have hR := hO
  have hf3 : 1 ≤ f 3 ∧ f 3 ≤ 28 := hR.1.2.2.2.1
  have hf4 : 0 ≤ f 4 ∧ f 4 ≤ B := by have := hR.1.2.2.2.2.1; omega
  refine cz_aload_n (pc' := 1) (g_d dtbX10_of_0 0 rfl) rfl rfl ?_
  refine cz_iload_n (pc' := 2) (g_d dtbX10_of_0 1 rfl) rfl rfl ?_
  refine nz_cVi (M' := mX10_isBillNumber) (k := 0) (As := [iv (b)]) (S := []) (L := [some (.ref 0), some (iv (b)), some (iv (w)), none]) (pc' := 5) (g_d dtbX10_of_0 2 rfl) lk_X10_114 okX10_isBillNumber (by decide) rfl rfl rfl rfl (Nat.le_of_ble_eq_true rfl) (Nat.le_of_ble_eq_true rfl) (by decide) rfl (c_isBN G Z A B hC hA b (by omega)) ?_
  rintro _ _ ⟨rfl, ⟨rfl, hw2⟩ | ⟨rfl, hw2⟩⟩
  · rw [← ef] at hw2
    refine nz_if_eq_f (pc' := 8) (g_d dtbX10_of_0 3 rfl) (by omega) (by decide) rfl (by omega) ?_
    refine cz_iload_n (pc' := 9) (g_d dtbX10_of_0 4 rfl) rfl rfl ?_
    refine nz_iconst (pc' := 10) (g_d dtbX10_of_0 5 rfl) rfl ?_
    refine nz_iconst (pc' := 11) (g_d dtbX10_of_0 6 rfl) rfl ?_
    refine nz_cSi (M' := mX10_within) (As := [iv (w), iv 0, iv 4]) (S := []) (L := [some (.ref 0), some (iv (b)), some (iv (w)), none]) (pc' := 14) (g_d dtbX10_of_0 7 rfl) lk_X10_53 okX10_within rfl rfl (Nat.le_of_ble_eq_true rfl) (Nat.le_of_ble_eq_true rfl) (by decide) rfl (c_within G Z w 0 4 (by omega) (by omega) (by omega)) ?_
    rintro _ _ ⟨rfl, ⟨rfl, hw11⟩ | ⟨rfl, hw11⟩⟩
    · refine nz_if_ne_t (tgt := 25) (g_d dtbX10_of_0 8 rfl) (by omega) rfl (by omega) ?_
      obtain ⟨n, rfl⟩ : ∃ n : Nat, b = (n : Int) := ⟨b.toNat, by omega⟩
      have hn7 : n < 7 := by omega
      have hn2 : (n : Int) < f 6 := by omega
      have hbo := hR.2.2.1 n hn7 hn2
      have hto : 1 ≤ f (14 + n) ∧ f (14 + n) ≤ 28 := hbo.2.1
      have hpo : 1 ≤ f (21 + n) ∧ f (21 + n) ≤ 99 := hbo.2.2
      obtain ⟨κ, hκ, hκ6⟩ : ∃ κ : Nat, f (7 + n) = (κ : Int) ∧ κ < 6 := ⟨(f (7 + n)).toNat, by have := hbo.1; omega, by have := hbo.1; omega⟩
      have hdI := dayB_in (κ := (κ : Int)) hto
      have hpI := pndB_in (κ := (κ : Int)) (p := f (21 + n)) (m := f 4) (by omega)
      refine cz_aload_n (pc' := 26) (g_d dtbX10_of_0 13 rfl) rfl rfl ?_
      refine nz_getf (v := .ref 25) (pc' := 29) (g_d dtbX10_of_0 14 rfl) gf_X10_44 (by decide) rfl rfl rfl ?_
      refine cz_aload_n (pc' := 30) (g_d dtbX10_of_0 15 rfl) rfl rfl ?_
      refine nz_getf (v := .ref 1) (pc' := 33) (g_d dtbX10_of_0 16 rfl) gf_X10_10 (by decide) rfl rfl rfl ?_
      refine cz_iload_n (pc' := 34) (g_d dtbX10_of_0 17 rfl) rfl rfl ?_
      refine nz_cVi (M' := mX0_kindAt) (k := 1) (As := [iv ((n : Int))]) (S := [.ref 25]) (L := [some (.ref 0), some (iv ((n : Int))), some (iv (w)), none]) (pc' := 37) (g_d dtbX10_of_0 18 rfl) lk_X10_118 okX0_kindAt (by decide) rfl rfl rfl rfl (Nat.le_of_ble_eq_true rfl) (Nat.le_of_ble_eq_true rfl) (by decide) rfl (c_kindR G Z n f (hB) hn7 hn2) ?_
      rintro _ _ ⟨rfl, rfl⟩
      rw [hκ]
      refine nz_cVr (M' := mX2_numbered) (k := 25) (As := [iv ((κ : Int))]) (S := []) (L := [some (.ref 0), some (iv ((n : Int))), some (iv (w)), none]) (pc' := 40) (g_d dtbX10_of_0 19 rfl) lk_X10_121 okX2_numbered (by decide) rfl rfl rfl rfl (Nat.le_of_ble_eq_true rfl) (Nat.le_of_ble_eq_true rfl) (by decide) rfl (c_numbered G Z κ hκ6) ?_
      rintro _ _ ⟨rfl, rfl⟩
      refine cz_astore_n (L' := [some (.ref 0), some (iv ((n : Int))), some (iv (w)), some (.ref (26 + κ))]) (pc' := 41) (g_d dtbX10_of_0 20 rfl) (by decide) rfl rfl ?_
      refine cz_iload_n (pc' := 42) (g_d dtbX10_of_0 21 rfl) rfl rfl ?_
      rcases (show w = 0 ∨ w = 1 ∨ w = 2 ∨ w = 3 ∨ (w < 0 ∨ 3 < w) from by omega) with h42 | h42 | h42 | h42 | h42
      · refine nz_tabIn (tgt := 72) 0 (g_d dtbX10_of_0 22 rfl) (by omega) (by omega) (by omega) rfl rfl ?_
        refine cz_aload_n (pc' := 73) (g_d dtbX10_of_0 23 rfl) rfl rfl ?_
        refine nz_getf (v := .ref 1) (pc' := 76) (g_d dtbX10_of_0 24 rfl) gf_X10_10 (by decide) rfl rfl rfl ?_
        refine cz_iload_n (pc' := 77) (g_d dtbX10_of_0 25 rfl) rfl rfl ?_
        refine nz_cVi (M' := mX0_kindAt) (k := 1) (As := [iv ((n : Int))]) (S := []) (L := [some (.ref 0), some (iv ((n : Int))), some (iv (w)), some (.ref (26 + κ))]) (pc' := 80) (g_d dtbX10_of_0 26 rfl) lk_X10_118 okX0_kindAt (by decide) rfl rfl rfl rfl (Nat.le_of_ble_eq_true rfl) (Nat.le_of_ble_eq_true rfl) (by decide) rfl (c_kindR G Z n f (hB) hn7 hn2) ?_
        rintro _ _ ⟨rfl, rfl⟩
        rw [hκ]
        refine nz_ri .int (g_d dtbX10_of_0 27 rfl) rfl rfl ?_
        refine ⟨?_, ?_, FM.rf⟩
        · unfold xOf
          rw [← ef, if_pos (by omega)]
          simp only [Int.toNat_natCast]
          rw [if_pos (by omega), hκ]
        · unfold xOf; rw [← ef, if_pos (by omega)]; exact hC
      · refine nz_tabIn (tgt := 81) 1 (g_d dtbX10_of_0 22 rfl) (by omega) (by omega) (by omega) rfl rfl ?_
        refine cz_aload_n (pc' := 82) (g_d dtbX10_of_0 28 rfl) rfl rfl ?_
        refine nz_getf (v := .ref 1) (pc' := 85) (g_d dtbX10_of_0 29 rfl) gf_X10_10 (by decide) rfl rfl rfl ?_
        refine cz_iload_n (pc' := 86) (g_d dtbX10_of_0 30 rfl) rfl rfl ?_
        refine nz_cVi (M' := mX0_dayAt) (k := 1) (As := [iv ((n : Int))]) (S := []) (L := [some (.ref 0), some (iv ((n : Int))), some (iv (w)), some (.ref (26 + κ))]) (pc' := 89) (g_d dtbX10_of_0 31 rfl) lk_X10_127 okX0_dayAt (by decide) rfl rfl rfl rfl (Nat.le_of_ble_eq_true rfl) (Nat.le_of_ble_eq_true rfl) (by decide) rfl (c_dayR G Z n f (hB) hn7 hn2) ?_
        rintro _ _ ⟨rfl, rfl⟩
        refine nz_ri .int (g_d dtbX10_of_0 32 rfl) rfl rfl ?_
        refine ⟨?_, ?_, FM.rf⟩
        · unfold xOf
          rw [← ef, if_pos (by omega)]
          simp only [Int.toNat_natCast]
          rw [if_neg (by omega), if_pos (by omega)]
        · unfold xOf; rw [← ef, if_pos (by omega)]; exact hC
      · refine nz_tabIn (tgt := 90) 2 (g_d dtbX10_of_0 22 rfl) (by omega) (by omega) (by omega) rfl rfl ?_
        refine cz_aload_n (pc' := 91) (g_d dtbX10_of_0 33 rfl) rfl rfl ?_
        refine nz_getf (v := .ref 1) (pc' := 94) (g_d dtbX10_of_0 34 rfl) gf_X10_10 (by decide) rfl rfl rfl ?_
        refine cz_iload_n (pc' := 95) (g_d dtbX10_of_0 35 rfl) rfl rfl ?_
        refine nz_cVi (M' := mX0_poundsAt) (k := 1) (As := [iv ((n : Int))]) (S := []) (L := [some (.ref 0), some (iv ((n : Int))), some (iv (w)), some (.ref (26 + κ))]) (pc' := 98) (g_d dtbX10_of_0 36 rfl) lk_X10_130 okX0_poundsAt (by decide) rfl rfl rfl rfl (Nat.le_of_ble_eq_true rfl) (Nat.le_of_ble_eq_true rfl) (by decide) rfl (c_poundsR G Z n f (hB) hn7 hn2) ?_
        rintro _ _ ⟨rfl, rfl⟩
        refine nz_ri .int (g_d dtbX10_of_0 37 rfl) rfl rfl ?_
        refine ⟨?_, ?_, FM.rf⟩
        · unfold xOf
          rw [← ef, if_pos (by omega)]
          simp only [Int.toNat_natCast]
          rw [if_neg (by omega), if_neg (by omega), if_pos (by omega)]
        · unfold xOf; rw [← ef, if_pos (by omega)]; exact hC
      · refine nz_tabIn (tgt := 99) 3 (g_d dtbX10_of_0 22 rfl) (by omega) (by omega) (by omega) rfl rfl ?_
        refine cz_aload_n (pc' := 100) (g_d dtbX10_of_0 38 rfl) rfl rfl ?_
        refine cz_aload_n (pc' := 101) (g_d dtbX10_of_0 39 rfl) rfl rfl ?_
        refine nz_getf (v := .ref 1) (pc' := 104) (g_d dtbX10_of_0 40 rfl) gf_X10_10 (by decide) rfl rfl rfl ?_
        refine cz_iload_n (pc' := 105) (g_d dtbX10_of_0 41 rfl) rfl rfl ?_
        refine nz_cVi (M' := mX0_dayAt) (k := 1) (As := [iv ((n : Int))]) (S := [.ref (26 + κ)]) (L := [some (.ref 0), some (iv ((n : Int))), some (iv (w)), some (.ref (26 + κ))]) (pc' := 108) (g_d dtbX10_of_0 42 rfl) lk_X10_127 okX0_dayAt (by decide) rfl rfl rfl rfl (Nat.le_of_ble_eq_true rfl) (Nat.le_of_ble_eq_true rfl) (by decide) rfl (c_dayR G Z n f (hB) hn7 hn2) ?_
        rintro _ _ ⟨rfl, rfl⟩
        refine nz_cD (κ := κ) (S := []) (L := [some (.ref 0), some (iv ((n : Int))), some (iv (w)), some (.ref (26 + κ))]) (pc' := 111) (g_d dtbX10_of_0 43 rfl) kd_X10 hκ6 (by omega) (Nat.le_of_ble_eq_true rfl) (by decide) (by decide) rfl ?_
        refine nz_ri .int (g_d dtbX10_of_0 44 rfl) rfl rfl ?_
        refine ⟨?_, ?_, FM.rf⟩
        · unfold xOf
          rw [← ef, if_pos (by omega)]
          simp only [Int.toNat_natCast]
          rw [if_neg (by omega), if_neg (by omega), if_neg (by omega), if_pos (by omega), hκ]
        · unfold xOf; rw [← ef, if_pos (by omega)]; exact hC
      · refine nz_tabOut (tgt := 112) (g_d dtbX10_of_0 22 rfl) (by omega) h42 rfl ?_
        refine cz_aload_n (pc' := 113) (g_d dtbX10_of_0 45 rfl) rfl rfl ?_
        refine cz_aload_n (pc' := 114) (g_d dtbX10_of_0 46 rfl) rfl rfl ?_
        refine nz_getf (v := .ref 1) (pc' := 117) (g_d dtbX10_of_0 47 rfl) gf_X10_10 (by decide) rfl rfl rfl ?_
        refine nz_getf (v := .ref 2) (pc' := 120) (g_d dtbX10_of_0 48 rfl) gf_X10_99 (by decide) rfl rfl rfl ?_
        refine nz_iconst (pc' := 121) (g_d dtbX10_of_0 49 rfl) rfl ?_
        refine nz_iald 4 (pc' := 122) (g_d dtbX10_of_0 50 rfl) (by decide) rfl (by omega) (by rfl) (by omega) rfl ?_
        rw [show Z 2 4 = f 4 from br1_fig (hB) (by decide)]
        refine cz_aload_n (pc' := 123) (g_d dtbX10_of_0 51 rfl) rfl rfl ?_
        refine nz_getf (v := .ref 1) (pc' := 126) (g_d dtbX10_of_0 52 rfl) gf_X10_10 (by decide) rfl rfl rfl ?_
        refine cz_iload_n (pc' := 127) (g_d dtbX10_of_0 53 rfl) rfl rfl ?_
        refine nz_cVi (M' := mX0_poundsAt) (k := 1) (As := [iv ((n : Int))]) (S := [iv (f 4), .ref (26 + κ)]) (L := [some (.ref 0), some (iv ((n : Int))), some (iv (w)), some (.ref (26 + κ))]) (pc' := 130) (g_d dtbX10_of_0 54 rfl) lk_X10_130 okX0_poundsAt (by decide) rfl rfl rfl rfl (Nat.le_of_ble_eq_true rfl) (Nat.le_of_ble_eq_true rfl) (by decide) rfl (c_poundsR G Z n f (hB) hn7 hn2) ?_
        rintro _ _ ⟨rfl, rfl⟩
        refine nz_cP (κ := κ) (S := []) (L := [some (.ref 0), some (iv ((n : Int))), some (iv (w)), some (.ref (26 + κ))]) (pc' := 133) (g_d dtbX10_of_0 55 rfl) kp_X10 hκ6 (by omega) (by omega) (Nat.le_of_ble_eq_true rfl) (by decide) (by decide) rfl ?_
        refine nz_ri .int (g_d dtbX10_of_0 56 rfl) rfl rfl ?_
        refine ⟨?_, ?_, FM.rf⟩
        · unfold xOf
          rw [← ef, if_pos (by omega)]
          simp only [Int.toNat_natCast]
          rw [if_neg (by omega), if_neg (by omega), if_neg (by omega), if_neg (by omega), hκ]
        · unfold xOf; rw [← ef, if_pos (by omega)]; exact hC
    · refine nz_if_ne_f (pc' := 17) (g_d dtbX10_of_0 8 rfl) (by omega) (by decide) rfl (by omega) ?_
      refine cz_aload_n (pc' := 18) (g_d dtbX10_of_0 9 rfl) rfl rfl ?_
      refine nz_sipush (pc' := 21) (g_d dtbX10_of_0 10 rfl) (by decide) rfl ?_
      refine nz_cVi (M' := mX10_refuseBad) (k := 0) (As := [iv (-10000)]) (S := []) (L := [some (.ref 0), some (iv (b)), some (iv (w)), none]) (pc' := 24) (g_d dtbX10_of_0 11 rfl) lk_X10_57 okX10_refuseBad (by decide) rfl rfl rfl rfl (Nat.le_of_ble_eq_true rfl) (Nat.le_of_ble_eq_true rfl) (by decide) rfl (c_refuseBad G Z (-10000)) ?_
      rintro _ _ ⟨rfl, rfl⟩
      refine nz_ri .int (g_d dtbX10_of_0 12 rfl) rfl rfl ?_
      rw [show xOf A b w = (-10000, aBad A) from by unfold xOf; rw [← ef, if_neg (by omega)]]
      exact ⟨rfl, cs_bad hC, (FM.u FM.rf (by decide))⟩
  · rw [← ef] at hw2
    refine nz_if_eq_t (tgt := 17) (g_d dtbX10_of_0 3 rfl) (by omega) rfl (by omega) ?_
    refine cz_aload_n (pc' := 18) (g_d dtbX10_of_0 9 rfl) rfl rfl ?_
    refine nz_sipush (pc' := 21) (g_d dtbX10_of_0 10 rfl) (by decide) rfl ?_
    refine nz_cVi (M' := mX10_refuseBad) (k := 0) (As := [iv (-10000)]) (S := []) (L := [some (.ref 0), some (iv (b)), some (iv (w)), none]) (pc' := 24) (g_d dtbX10_of_0 11 rfl) lk_X10_57 okX10_refuseBad (by decide) rfl rfl rfl rfl (Nat.le_of_ble_eq_true rfl) (Nat.le_of_ble_eq_true rfl) (by decide) rfl (c_refuseBad G Z (-10000)) ?_
    rintro _ _ ⟨rfl, rfl⟩
    refine nz_ri .int (g_d dtbX10_of_0 12 rfl) rfl rfl ?_
    rw [show xOf A b w = (-10000, aBad A) from by unfold xOf; rw [← ef, if_neg (by omega)]]
    exact ⟨rfl, cs_bad hC, (FM.u FM.rf (by decide))⟩

set_option maxRecDepth 20000 in
set_option maxHeartbeats 4000000 in
theorem l_truly (G : Wd) (Z : ZS) (f : Row) (B : Int) (hB : BR Z 1 f) (hR : RO B f) (hBB : B ≤ 60000000) : ∀ (d : Nat) (n : Nat), (f 6).toNat - n = d → (n : Int) ≤ f 6 → Cn G mX10_truly 12 [some (.ref 0), some (iv (trF f n)), some (iv ((n : Int))), none] [] Z (qi (fun r W => trF f (f 6).toNat = r ∧ Z = W)) := by
  intro d
  induction d using Nat.strongRecOn with
  | ind d ih =>
    intro n hd hn
    have h6 := hR.2.1
    have hf3 : 1 ≤ f 3 ∧ f 3 ≤ 28 := hR.1.2.2.2.1
    have hf4 : 0 ≤ f 4 ∧ f 4 ≤ B := by have := hR.1.2.2.2.2.1; omega
    have hf0 := hR.1.1
    refine cz_iload_n (pc' := 13) (g_d dtbX10_truly_0 8 rfl) rfl rfl ?_
    refine cz_aload_n (pc' := 14) (g_d dtbX10_truly_0 9 rfl) rfl rfl ?_
    refine nz_getf (v := .ref 1) (pc' := 17) (g_d dtbX10_truly_0 10 rfl) gf_X10_10 (by decide) rfl rfl rfl ?_
    refine nz_getf (v := iv (f 6)) (pc' := 20) (g_d dtbX10_truly_0 11 rfl) gf_X10_61 (by decide) rfl (congrArg iv (br1_4 (hB))) rfl ?_
    refine nz_icmp_ge (tgt := 105) (pc' := 23) (g_d dtbX10_truly_0 12 rfl) (by omega) (by omega) rfl rfl (fun h20 => ?_) (fun h20 => ?_)
    · refine cz_iload_n (pc' := 106) (g_d dtbX10_truly_0 55 rfl) rfl rfl ?_
      refine nz_ri .int (g_d dtbX10_truly_0 56 rfl) rfl rfl ?_
      rw [show n = (f 6).toNat by omega]; exact ⟨rfl, rfl⟩
    · have hn7 : n < 7 := by omega
      have hn2 : (n : Int) < f 6 := by omega
      have hbo := hR.2.2.1 n hn7 hn2
      have hto : 1 ≤ f (14 + n) ∧ f (14 + n) ≤ 28 := hbo.2.1
      have hpo : 1 ≤ f (21 + n) ∧ f (21 + n) ≤ 99 := hbo.2.2
      obtain ⟨κ, hκ, hκ6⟩ : ∃ κ : Nat, f (7 + n) = (κ : Int) ∧ κ < 6 := ⟨(f (7 + n)).toNat, by have := hbo.1; omega, by have := hbo.1; omega⟩
      have hdI := dayB_in (κ := (κ : Int)) hto
      have hpI := pndB_in (κ := (κ : Int)) (p := f (21 + n)) (m := f 4) (by omega)
      refine cz_aload_n (pc' := 24) (g_d dtbX10_truly_0 13 rfl) rfl rfl ?_
      refine nz_getf (v := .ref 25) (pc' := 27) (g_d dtbX10_truly_0 14 rfl) gf_X10_44 (by decide) rfl rfl rfl ?_
      refine cz_aload_n (pc' := 28) (g_d dtbX10_truly_0 15 rfl) rfl rfl ?_
      refine nz_getf (v := .ref 1) (pc' := 31) (g_d dtbX10_truly_0 16 rfl) gf_X10_10 (by decide) rfl rfl rfl ?_
      refine cz_iload_n (pc' := 32) (g_d dtbX10_truly_0 17 rfl) rfl rfl ?_
      refine nz_cVi (M' := mX0_kindAt) (k := 1) (As := [iv ((n : Int))]) (S := [.ref 25]) (L := [some (.ref 0), some (iv (trF f n)), some (iv ((n : Int))), none]) (pc' := 35) (g_d dtbX10_truly_0 18 rfl) lk_X10_118 okX0_kindAt (by decide) rfl rfl rfl rfl (Nat.le_of_ble_eq_true rfl) (Nat.le_of_ble_eq_true rfl) (by decide) rfl (c_kindR G Z n f (hB) hn7 hn2) ?_
      rintro _ _ ⟨rfl, rfl⟩
      rw [hκ]
      refine nz_cVr (M' := mX2_numbered) (k := 25) (As := [iv ((κ : Int))]) (S := []) (L := [some (.ref 0), some (iv (trF f n)), some (iv ((n : Int))), none]) (pc' := 38) (g_d dtbX10_truly_0 19 rfl) lk_X10_121 okX2_numbered (by decide) rfl rfl rfl rfl (Nat.le_of_ble_eq_true rfl) (Nat.le_of_ble_eq_true rfl) (by decide) rfl (c_numbered G Z κ hκ6) ?_
      rintro _ _ ⟨rfl, rfl⟩
      refine cz_astore_n (L' := [some (.ref 0), some (iv (trF f n)), some (iv ((n : Int))), some (.ref (26 + κ))]) (pc' := 39) (g_d dtbX10_truly_0 20 rfl) (by decide) rfl rfl ?_
      refine cz_aload_n (pc' := 40) (g_d dtbX10_truly_0 21 rfl) rfl rfl ?_
      refine nz_getf (v := .ref 1) (pc' := 43) (g_d dtbX10_truly_0 22 rfl) gf_X10_10 (by decide) rfl rfl rfl ?_
      refine cz_iload_n (pc' := 44) (g_d dtbX10_truly_0 23 rfl) rfl rfl ?_
      refine nz_cVi (M' := mX0_kindAt) (k := 1) (As := [iv ((n : Int))]) (S := []) (L := [some (.ref 0), some (iv (trF f n)), some (iv ((n : Int))), some (.ref (26 + κ))]) (pc' := 47) (g_d dtbX10_truly_0 24 rfl) lk_X10_118 okX0_kindAt (by decide) rfl rfl rfl rfl (Nat.le_of_ble_eq_true rfl) (Nat.le_of_ble_eq_true rfl) (by decide) rfl (c_kindR G Z n f (hB) hn7 hn2) ?_
      rintro _ _ ⟨rfl, rfl⟩
      rw [hκ]
      refine nz_iconst (pc' := 48) (g_d dtbX10_truly_0 25 rfl) rfl ?_
      refine nz_icmp_eq (tgt := 99) (pc' := 51) (g_d dtbX10_truly_0 26 rfl) (by omega) (by omega) rfl rfl (fun h48 => ?_) (fun h48 => ?_)
      · refine nz_iinc (L' := [some (.ref 0), some (iv (trF f n)), some (iv (((n : Int)) + 1)), some (.ref (26 + κ))]) (pc' := 102) (g_d dtbX10_truly_0 53 rfl) (by decide) rfl rfl rfl ?_
        refine cz_goto (pc' := 12) (g_d dtbX10_truly_0 54 rfl) rfl ?_
        refine cz_le [some (.ref 0), some (iv (trF f n)), some (iv (((n : Int)) + 1)), none] ⟨rfl, rfl, rfl, trivial⟩ ?_
        rw [show trF f n = trF f (n + 1) from by simp only [trF]; rw [hκ, if_neg (by omega)]]
        exact ih ((f 6).toNat - (n + 1)) (by omega) (n + 1) rfl (by omega)
      · refine cz_aload_n (pc' := 52) (g_d dtbX10_truly_0 27 rfl) rfl rfl ?_
        refine cz_aload_n (pc' := 53) (g_d dtbX10_truly_0 28 rfl) rfl rfl ?_
        refine nz_getf (v := .ref 1) (pc' := 56) (g_d dtbX10_truly_0 29 rfl) gf_X10_10 (by decide) rfl rfl rfl ?_
        refine cz_iload_n (pc' := 57) (g_d dtbX10_truly_0 30 rfl) rfl rfl ?_
        refine nz_cVi (M' := mX0_dayAt) (k := 1) (As := [iv ((n : Int))]) (S := [.ref (26 + κ)]) (L := [some (.ref 0), some (iv (trF f n)), some (iv ((n : Int))), some (.ref (26 + κ))]) (pc' := 60) (g_d dtbX10_truly_0 31 rfl) lk_X10_127 okX0_dayAt (by decide) rfl rfl rfl rfl (Nat.le_of_ble_eq_true rfl) (Nat.le_of_ble_eq_true rfl) (by decide) rfl (c_dayR G Z n f (hB) hn7 hn2) ?_
        rintro _ _ ⟨rfl, rfl⟩
        refine nz_cD (κ := κ) (S := []) (L := [some (.ref 0), some (iv (trF f n)), some (iv ((n : Int))), some (.ref (26 + κ))]) (pc' := 63) (g_d dtbX10_truly_0 32 rfl) kd_X10 hκ6 (by omega) (Nat.le_of_ble_eq_true rfl) (by decide) (by decide) rfl ?_
        refine cz_aload_n (pc' := 64) (g_d dtbX10_truly_0 33 rfl) rfl rfl ?_
        refine nz_getf (v := .ref 1) (pc' := 67) (g_d dtbX10_truly_0 34 rfl) gf_X10_10 (by decide) rfl rfl rfl ?_
        refine nz_getf (v := .ref 2) (pc' := 70) (g_d dtbX10_truly_0 35 rfl) gf_X10_99 (by decide) rfl rfl rfl ?_
        refine nz_iconst (pc' := 71) (g_d dtbX10_truly_0 36 rfl) rfl ?_
        refine nz_iald 3 (pc' := 72) (g_d dtbX10_truly_0 37 rfl) (by decide) rfl (by omega) (by rfl) (by omega) rfl ?_
        rw [show Z 2 3 = f 3 from br1_fig (hB) (by decide)]
        refine nz_icmp_lt (tgt := 99) (pc' := 75) (g_d dtbX10_truly_0 38 rfl) (by omega) (by omega) rfl rfl (fun h72 => ?_) (fun h72 => ?_)
        · refine nz_iinc (L' := [some (.ref 0), some (iv (trF f n)), some (iv (((n : Int)) + 1)), some (.ref (26 + κ))]) (pc' := 102) (g_d dtbX10_truly_0 53 rfl) (by decide) rfl rfl rfl ?_
          refine cz_goto (pc' := 12) (g_d dtbX10_truly_0 54 rfl) rfl ?_
          refine cz_le [some (.ref 0), some (iv (trF f n)), some (iv (((n : Int)) + 1)), none] ⟨rfl, rfl, rfl, trivial⟩ ?_
          rw [show trF f n = trF f (n + 1) from by simp only [trF]; rw [hκ, if_neg (by omega)]]
          exact ih ((f 6).toNat - (n + 1)) (by omega) (n + 1) rfl (by omega)
        · refine cz_iload_n (pc' := 76) (g_d dtbX10_truly_0 39 rfl) rfl rfl ?_
          refine cz_aload_n (pc' := 77) (g_d dtbX10_truly_0 40 rfl) rfl rfl ?_
          refine cz_aload_n (pc' := 78) (g_d dtbX10_truly_0 41 rfl) rfl rfl ?_
          refine nz_getf (v := .ref 1) (pc' := 81) (g_d dtbX10_truly_0 42 rfl) gf_X10_10 (by decide) rfl rfl rfl ?_
          refine nz_getf (v := .ref 2) (pc' := 84) (g_d dtbX10_truly_0 43 rfl) gf_X10_99 (by decide) rfl rfl rfl ?_
          refine nz_iconst (pc' := 85) (g_d dtbX10_truly_0 44 rfl) rfl ?_
          refine nz_iald 4 (pc' := 86) (g_d dtbX10_truly_0 45 rfl) (by decide) rfl (by omega) (by rfl) (by omega) rfl ?_
          rw [show Z 2 4 = f 4 from br1_fig (hB) (by decide)]
          refine cz_aload_n (pc' := 87) (g_d dtbX10_truly_0 46 rfl) rfl rfl ?_
          refine nz_getf (v := .ref 1) (pc' := 90) (g_d dtbX10_truly_0 47 rfl) gf_X10_10 (by decide) rfl rfl rfl ?_
          refine cz_iload_n (pc' := 91) (g_d dtbX10_truly_0 48 rfl) rfl rfl ?_
          refine nz_cVi (M' := mX0_poundsAt) (k := 1) (As := [iv ((n : Int))]) (S := [iv (f 4), .ref (26 + κ), iv (trF f n)]) (L := [some (.ref 0), some (iv (trF f n)), some (iv ((n : Int))), some (.ref (26 + κ))]) (pc' := 94) (g_d dtbX10_truly_0 49 rfl) lk_X10_130 okX0_poundsAt (by decide) rfl rfl rfl rfl (Nat.le_of_ble_eq_true rfl) (Nat.le_of_ble_eq_true rfl) (by decide) rfl (c_poundsR G Z n f (hB) hn7 hn2) ?_
          rintro _ _ ⟨rfl, rfl⟩
          refine nz_cP (κ := κ) (S := [iv (trF f n)]) (L := [some (.ref 0), some (iv (trF f n)), some (iv ((n : Int))), some (.ref (26 + κ))]) (pc' := 97) (g_d dtbX10_truly_0 50 rfl) kp_X10 hκ6 (by omega) (by omega) (Nat.le_of_ble_eq_true rfl) (by decide) (by decide) rfl ?_
          refine nz_isub (pc' := 98) (g_d dtbX10_truly_0 51 rfl) rfl ?_
          refine cz_istore_n (L' := [some (.ref 0), some (iv ((trF f n) - (pndB (κ : Int) (f (21 + n)) (f 4)))), some (iv ((n : Int))), some (.ref (26 + κ))]) (pc' := 99) (g_d dtbX10_truly_0 52 rfl) (by decide) rfl rfl ?_
          refine nz_iinc (L' := [some (.ref 0), some (iv ((trF f n) - (pndB (κ : Int) (f (21 + n)) (f 4)))), some (iv (((n : Int)) + 1)), some (.ref (26 + κ))]) (pc' := 102) (g_d dtbX10_truly_0 53 rfl) (by decide) rfl rfl rfl ?_
          refine cz_goto (pc' := 12) (g_d dtbX10_truly_0 54 rfl) rfl ?_
          refine cz_le [some (.ref 0), some (iv ((trF f n) - (pndB (κ : Int) (f (21 + n)) (f 4)))), some (iv (((n : Int)) + 1)), none] ⟨rfl, rfl, rfl, trivial⟩ ?_
          rw [show trF f n - pndB (κ : Int) (f (21 + n)) (f 4) = trF f (n + 1) from by simp only [trF]; rw [hκ, if_pos (by omega)]]
          exact ih ((f 6).toNat - (n + 1)) (by omega) (n + 1) rfl (by omega)

set_option maxRecDepth 20000 in
set_option maxHeartbeats 4000000 in
theorem a_truly (G : Wd) (Z : ZS) (A : AS) (B : Int) (hC : CS Z A) (hA : AO B A) : Cn G mX10_truly 0 [some (.ref 0), none, none, none] [] Z (qi (fun r W => (xTruly A).1 = r ∧ CS W (xTruly A).2 ∧ FM Z W)) := by
  have hB := hC.1
  have hb0 := hA.1
  have hO := hA.2.1
  have h6 : 0 ≤ A.1 6 ∧ A.1 6 ≤ 7 := hO.2.1
  have h28 : 0 ≤ A.1 28 ∧ A.1 28 ≤ 6 := hO.2.2.2.1
  have h59 : 0 ≤ A.1 59 ∧ A.1 59 ≤ 8 := hO.2.2.2.2.2.1
  have hf := hO.1
  unfold FO at hf
  have hct := hA.2.2.2.2.2.2
  refine cz_aload_n (pc' := 1) (g_d dtbX10_truly_0 0 rfl) rfl rfl ?_
  refine nz_getf (v := .ref 1) (pc' := 4) (g_d dtbX10_truly_0 1 rfl) gf_X10_10 (by decide) rfl rfl rfl ?_
  refine nz_getf (v := .ref 2) (pc' := 7) (g_d dtbX10_truly_0 2 rfl) gf_X10_99 (by decide) rfl rfl rfl ?_
  refine nz_iconst (pc' := 8) (g_d dtbX10_truly_0 3 rfl) rfl ?_
  refine nz_iald 0 (pc' := 9) (g_d dtbX10_truly_0 4 rfl) (by decide) rfl (by omega) (by rfl) (by omega) rfl ?_
  rw [show Z 2 0 = A.1 0 from br1_fig (hB) (by decide)]
  refine cz_istore_n (L' := [some (.ref 0), some (iv (A.1 0)), none, none]) (pc' := 10) (g_d dtbX10_truly_0 5 rfl) (by decide) rfl rfl ?_
  refine nz_iconst (pc' := 11) (g_d dtbX10_truly_0 6 rfl) rfl ?_
  refine cz_istore_n (L' := [some (.ref 0), some (iv (A.1 0)), some (iv 0), none]) (pc' := 12) (g_d dtbX10_truly_0 7 rfl) (by decide) rfl rfl ?_
  refine nz_wi (l_truly G Z A.1 B hB hO (by omega) ((A.1 6).toNat - 0) 0 rfl (by omega)) (fun r W h => ⟨h.1, ?_, ?_⟩)
  · rw [← h.2]; exact hC
  · rw [← h.2]; exact FM.rf

set_option maxRecDepth 20000 in
set_option maxHeartbeats 4000000 in
theorem l_monthly (G : Wd) (Z : ZS) (f : Row) (B : Int) (hB : BR Z 1 f) (hR : RO B f) (hBB : B ≤ 60000000) (n κ : Nat) (hκ : f (7 + n) = (κ : Int)) (hκ6 : κ < 6) (hpo : 1 ≤ f (21 + n) ∧ f (21 + n) ≤ 99) : ∀ (d : Nat) (i : Nat), 12 - i = d → i ≤ 12 → Cn G mX10_monthly 56 [some (.ref 0), some (iv ((n : Int))), some (.ref (26 + κ)), some (.ref (26 + 0)), some (iv (f (21 + n))), some (iv (mnF f n i)), some (iv ((i : Int))), none] [] Z (qi (fun r W => mnF f n 12 = r ∧ Z = W)) := by
  intro d
  induction d using Nat.strongRecOn with
  | ind d ih =>
    intro i hd hi
    have h6 := hR.2.1
    have hf3 : 1 ≤ f 3 ∧ f 3 ≤ 28 := hR.1.2.2.2.1
    have hf4 : 0 ≤ f 4 ∧ f 4 ≤ B := by have := hR.1.2.2.2.2.1; omega
    have hf0 := hR.1.1
    refine cz_iload (pc' := 58) (g_d dtbX10_monthly_0 30 rfl) rfl rfl ?_
    refine nz_bipush (pc' := 60) (g_d dtbX10_monthly_0 31 rfl) (by decide) rfl ?_
    refine nz_icmp_ge (tgt := 105) (pc' := 63) (g_d dtbX10_monthly_0 32 rfl) (by omega) (by omega) rfl rfl (fun h60 => ?_) (fun h60 => ?_)
    · refine cz_iload (pc' := 107) (g_d dtbX10_monthly_0 55 rfl) rfl rfl ?_
      refine nz_ri .int (g_d dtbX10_monthly_0 56 rfl) rfl rfl ?_
      rw [show i = 12 by omega]; exact ⟨rfl, rfl⟩
    · refine cz_aload_n (pc' := 64) (g_d dtbX10_monthly_0 33 rfl) rfl rfl ?_
      refine nz_getf (v := .ref 1) (pc' := 67) (g_d dtbX10_monthly_0 34 rfl) gf_X10_10 (by decide) rfl rfl rfl ?_
      refine nz_getf (v := .ref 2) (pc' := 70) (g_d dtbX10_monthly_0 35 rfl) gf_X10_99 (by decide) rfl rfl rfl ?_
      refine nz_iconst (pc' := 71) (g_d dtbX10_monthly_0 36 rfl) rfl ?_
      refine nz_iald 4 (pc' := 72) (g_d dtbX10_monthly_0 37 rfl) (by decide) rfl (by omega) (by rfl) (by omega) rfl ?_
      rw [show Z 2 4 = f 4 from br1_fig (hB) (by decide)]
      refine cz_iload (pc' := 74) (g_d dtbX10_monthly_0 38 rfl) rfl rfl ?_
      refine nz_iadd (pc' := 75) (g_d dtbX10_monthly_0 39 rfl) rfl ?_
      refine cz_istore (L' := [some (.ref 0), some (iv ((n : Int))), some (.ref (26 + κ)), some (.ref (26 + 0)), some (iv (f (21 + n))), some (iv (mnF f n i)), some (iv ((i : Int))), some (iv ((f 4) + ((i : Int))))]) (pc' := 77) (g_d dtbX10_monthly_0 40 rfl) (by decide) rfl rfl ?_
      refine cz_iload (pc' := 79) (g_d dtbX10_monthly_0 41 rfl) rfl rfl ?_
      refine cz_aload_n (pc' := 80) (g_d dtbX10_monthly_0 42 rfl) rfl rfl ?_
      refine cz_iload (pc' := 82) (g_d dtbX10_monthly_0 43 rfl) rfl rfl ?_
      refine cz_iload (pc' := 84) (g_d dtbX10_monthly_0 44 rfl) rfl rfl ?_
      refine nz_cP (κ := κ) (S := [iv (mnF f n i)]) (L := [some (.ref 0), some (iv ((n : Int))), some (.ref (26 + κ)), some (.ref (26 + 0)), some (iv (f (21 + n))), some (iv (mnF f n i)), some (iv ((i : Int))), some (iv ((f 4) + ((i : Int))))]) (pc' := 87) (g_d dtbX10_monthly_0 45 rfl) kp_X10 hκ6 (by omega) (by omega) (Nat.le_of_ble_eq_true rfl) (by decide) (by decide) rfl ?_
      refine cz_aload_n (pc' := 88) (g_d dtbX10_monthly_0 46 rfl) rfl rfl ?_
      refine cz_iload (pc' := 90) (g_d dtbX10_monthly_0 47 rfl) rfl rfl ?_
      refine cz_iload (pc' := 92) (g_d dtbX10_monthly_0 48 rfl) rfl rfl ?_
      refine nz_cP (κ := 0) (S := [iv (pndB (κ : Int) (f (21 + n)) ((f 4) + ((i : Int)))), iv (mnF f n i)]) (L := [some (.ref 0), some (iv ((n : Int))), some (.ref (26 + κ)), some (.ref (26 + 0)), some (iv (f (21 + n))), some (iv (mnF f n i)), some (iv ((i : Int))), some (iv ((f 4) + ((i : Int))))]) (pc' := 95) (g_d dtbX10_monthly_0 49 rfl) kp_X10 (by decide) (by omega) (by omega) (Nat.le_of_ble_eq_true rfl) (by decide) (by decide) rfl ?_
      refine nz_isub (pc' := 96) (g_d dtbX10_monthly_0 50 rfl) rfl ?_
      refine nz_iadd (pc' := 97) (g_d dtbX10_monthly_0 51 rfl) rfl ?_
      refine cz_istore (L' := [some (.ref 0), some (iv ((n : Int))), some (.ref (26 + κ)), some (.ref (26 + 0)), some (iv (f (21 + n))), some (iv ((mnF f n i) + ((pndB (κ : Int) (f (21 + n)) ((f 4) + ((i : Int)))) - (pndB (0 : Int) (f (21 + n)) ((f 4) + ((i : Int))))))), some (iv ((i : Int))), some (iv ((f 4) + ((i : Int))))]) (pc' := 99) (g_d dtbX10_monthly_0 52 rfl) (by decide) rfl rfl ?_
      refine nz_iinc (L' := [some (.ref 0), some (iv ((n : Int))), some (.ref (26 + κ)), some (.ref (26 + 0)), some (iv (f (21 + n))), some (iv ((mnF f n i) + ((pndB (κ : Int) (f (21 + n)) ((f 4) + ((i : Int)))) - (pndB (0 : Int) (f (21 + n)) ((f 4) + ((i : Int))))))), some (iv (((i : Int)) + 1)), some (iv ((f 4) + ((i : Int))))]) (pc' := 102) (g_d dtbX10_monthly_0 53 rfl) (by decide) rfl rfl rfl ?_
      refine cz_goto (pc' := 56) (g_d dtbX10_monthly_0 54 rfl) rfl ?_
      refine cz_le [some (.ref 0), some (iv ((n : Int))), some (.ref (26 + κ)), some (.ref (26 + 0)), some (iv (f (21 + n))), some (iv ((mnF f n i) + ((pndB (κ : Int) (f (21 + n)) ((f 4) + ((i : Int)))) - (pndB (0 : Int) (f (21 + n)) ((f 4) + ((i : Int))))))), some (iv (((i : Int)) + 1)), none] ⟨rfl, rfl, rfl, rfl, rfl, rfl, rfl, trivial⟩ ?_
      rw [show mnF f n i + (pndB (κ : Int) (f (21 + n)) (f 4 + (i : Int)) - pndB (0 : Int) (f (21 + n)) (f 4 + (i : Int))) = mnF f n (i + 1) from by simp only [mnF]; rw [hκ]; simp [pndB]]
      exact ih (12 - (i + 1)) (by omega) (i + 1) rfl (by omega)

set_option maxRecDepth 20000 in
set_option maxHeartbeats 4000000 in
theorem a_monthly (G : Wd) (Z : ZS) (A : AS) (B : Int) (hC : CS Z A) (hA : AO B A) (b : Int) (hb : -2147483648 ≤ b ∧ b ≤ 2147483647) : Cn G mX10_monthly 0 [some (.ref 0), some (iv (b)), none, none, none, none, none, none] [] Z (qi (fun r W => (xMonthly A b).1 = r ∧ CS W (xMonthly A b).2 ∧ FM Z W)) := by
  have hB := hC.1
  have hb0 := hA.1
  have hO := hA.2.1
  have h6 : 0 ≤ A.1 6 ∧ A.1 6 ≤ 7 := hO.2.1
  have h28 : 0 ≤ A.1 28 ∧ A.1 28 ≤ 6 := hO.2.2.2.1
  have h59 : 0 ≤ A.1 59 ∧ A.1 59 ≤ 8 := hO.2.2.2.2.2.1
  have hf := hO.1
  unfold FO at hf
  have hct := hA.2.2.2.2.2.2
  obtain ⟨f, ef⟩ : ∃ f : Row, f = A.1 := ⟨_, rfl⟩
  rw [← ef] at hB hO h6 h28 h59 hf
  have hR := hO
  have hf3 : 1 ≤ f 3 ∧ f 3 ≤ 28 := hR.1.2.2.2.1
  have hf4 : 0 ≤ f 4 ∧ f 4 ≤ B := by have := hR.1.2.2.2.2.1; omega
  refine cz_aload_n (pc' := 1) (g_d dtbX10_monthly_0 0 rfl) rfl rfl ?_
  refine cz_iload_n (pc' := 2) (g_d dtbX10_monthly_0 1 rfl) rfl rfl ?_
  refine nz_cVi (M' := mX10_isBillNumber) (k := 0) (As := [iv (b)]) (S := []) (L := [some (.ref 0), some (iv (b)), none, none, none, none, none, none]) (pc' := 5) (g_d dtbX10_monthly_0 2 rfl) lk_X10_114 okX10_isBillNumber (by decide) rfl rfl rfl rfl (Nat.le_of_ble_eq_true rfl) (Nat.le_of_ble_eq_true rfl) (by decide) rfl (c_isBN G Z A B hC hA b (by omega)) ?_
  rintro _ _ ⟨rfl, ⟨rfl, hw2⟩ | ⟨rfl, hw2⟩⟩
  · rw [← ef] at hw2
    refine nz_if_ne_t (tgt := 15) (g_d dtbX10_monthly_0 3 rfl) (by omega) rfl (by omega) ?_
    obtain ⟨n, rfl⟩ : ∃ n : Nat, b = (n : Int) := ⟨b.toNat, by omega⟩
    have hn7 : n < 7 := by omega
    have hn2 : (n : Int) < f 6 := by omega
    have hbo := hR.2.2.1 n hn7 hn2
    have hto : 1 ≤ f (14 + n) ∧ f (14 + n) ≤ 28 := hbo.2.1
    have hpo : 1 ≤ f (21 + n) ∧ f (21 + n) ≤ 99 := hbo.2.2
    obtain ⟨κ, hκ, hκ6⟩ : ∃ κ : Nat, f (7 + n) = (κ : Int) ∧ κ < 6 := ⟨(f (7 + n)).toNat, by have := hbo.1; omega, by have := hbo.1; omega⟩
    have hdI := dayB_in (κ := (κ : Int)) hto
    have hpI := pndB_in (κ := (κ : Int)) (p := f (21 + n)) (m := f 4) (by omega)
    refine cz_aload_n (pc' := 16) (g_d dtbX10_monthly_0 8 rfl) rfl rfl ?_
    refine nz_getf (v := .ref 25) (pc' := 19) (g_d dtbX10_monthly_0 9 rfl) gf_X10_44 (by decide) rfl rfl rfl ?_
    refine cz_aload_n (pc' := 20) (g_d dtbX10_monthly_0 10 rfl) rfl rfl ?_
    refine nz_getf (v := .ref 1) (pc' := 23) (g_d dtbX10_monthly_0 11 rfl) gf_X10_10 (by decide) rfl rfl rfl ?_
    refine cz_iload_n (pc' := 24) (g_d dtbX10_monthly_0 12 rfl) rfl rfl ?_
    refine nz_cVi (M' := mX0_kindAt) (k := 1) (As := [iv ((n : Int))]) (S := [.ref 25]) (L := [some (.ref 0), some (iv ((n : Int))), none, none, none, none, none, none]) (pc' := 27) (g_d dtbX10_monthly_0 13 rfl) lk_X10_118 okX0_kindAt (by decide) rfl rfl rfl rfl (Nat.le_of_ble_eq_true rfl) (Nat.le_of_ble_eq_true rfl) (by decide) rfl (c_kindR G Z n f (hB) hn7 hn2) ?_
    rintro _ _ ⟨rfl, rfl⟩
    rw [hκ]
    refine nz_cVr (M' := mX2_numbered) (k := 25) (As := [iv ((κ : Int))]) (S := []) (L := [some (.ref 0), some (iv ((n : Int))), none, none, none, none, none, none]) (pc' := 30) (g_d dtbX10_monthly_0 14 rfl) lk_X10_121 okX2_numbered (by decide) rfl rfl rfl rfl (Nat.le_of_ble_eq_true rfl) (Nat.le_of_ble_eq_true rfl) (by decide) rfl (c_numbered G Z κ hκ6) ?_
    rintro _ _ ⟨rfl, rfl⟩
    refine cz_astore_n (L' := [some (.ref 0), some (iv ((n : Int))), some (.ref (26 + κ)), none, none, none, none, none]) (pc' := 31) (g_d dtbX10_monthly_0 15 rfl) (by decide) rfl rfl ?_
    refine cz_aload_n (pc' := 32) (g_d dtbX10_monthly_0 16 rfl) rfl rfl ?_
    refine nz_getf (v := .ref 25) (pc' := 35) (g_d dtbX10_monthly_0 17 rfl) gf_X10_44 (by decide) rfl rfl rfl ?_
    refine nz_iconst (pc' := 36) (g_d dtbX10_monthly_0 18 rfl) rfl ?_
    refine nz_cVr (M' := mX2_numbered) (k := 25) (As := [iv 0]) (S := []) (L := [some (.ref 0), some (iv ((n : Int))), some (.ref (26 + κ)), none, none, none, none, none]) (pc' := 39) (g_d dtbX10_monthly_0 19 rfl) lk_X10_121 okX2_numbered (by decide) rfl rfl rfl rfl (Nat.le_of_ble_eq_true rfl) (Nat.le_of_ble_eq_true rfl) (by decide) rfl (c_numbered G Z 0 (by decide)) ?_
    rintro _ _ ⟨rfl, rfl⟩
    refine cz_astore_n (L' := [some (.ref 0), some (iv ((n : Int))), some (.ref (26 + κ)), some (.ref (26 + 0)), none, none, none, none]) (pc' := 40) (g_d dtbX10_monthly_0 20 rfl) (by decide) rfl rfl ?_
    refine cz_aload_n (pc' := 41) (g_d dtbX10_monthly_0 21 rfl) rfl rfl ?_
    refine nz_getf (v := .ref 1) (pc' := 44) (g_d dtbX10_monthly_0 22 rfl) gf_X10_10 (by decide) rfl rfl rfl ?_
    refine cz_iload_n (pc' := 45) (g_d dtbX10_monthly_0 23 rfl) rfl rfl ?_
    refine nz_cVi (M' := mX0_poundsAt) (k := 1) (As := [iv ((n : Int))]) (S := []) (L := [some (.ref 0), some (iv ((n : Int))), some (.ref (26 + κ)), some (.ref (26 + 0)), none, none, none, none]) (pc' := 48) (g_d dtbX10_monthly_0 24 rfl) lk_X10_130 okX0_poundsAt (by decide) rfl rfl rfl rfl (Nat.le_of_ble_eq_true rfl) (Nat.le_of_ble_eq_true rfl) (by decide) rfl (c_poundsR G Z n f (hB) hn7 hn2) ?_
    rintro _ _ ⟨rfl, rfl⟩
    refine cz_istore (L' := [some (.ref 0), some (iv ((n : Int))), some (.ref (26 + κ)), some (.ref (26 + 0)), some (iv (f (21 + n))), none, none, none]) (pc' := 50) (g_d dtbX10_monthly_0 25 rfl) (by decide) rfl rfl ?_
    refine nz_iconst (pc' := 51) (g_d dtbX10_monthly_0 26 rfl) rfl ?_
    refine cz_istore (L' := [some (.ref 0), some (iv ((n : Int))), some (.ref (26 + κ)), some (.ref (26 + 0)), some (iv (f (21 + n))), some (iv 0), none, none]) (pc' := 53) (g_d dtbX10_monthly_0 27 rfl) (by decide) rfl rfl ?_
    refine nz_iconst (pc' := 54) (g_d dtbX10_monthly_0 28 rfl) rfl ?_
    refine cz_istore (L' := [some (.ref 0), some (iv ((n : Int))), some (.ref (26 + κ)), some (.ref (26 + 0)), some (iv (f (21 + n))), some (iv 0), some (iv 0), none]) (pc' := 56) (g_d dtbX10_monthly_0 29 rfl) (by decide) rfl rfl ?_
    refine nz_wi (l_monthly G Z f B hB hR (by omega) n κ hκ hκ6 hpo (12 - 0) 0 rfl (by omega)) (fun r W h => ?_)
    rw [show xMonthly A (n : Int) = (mnF f n 12, A) from by unfold xMonthly; rw [← ef, if_pos (by omega)]; rfl]
    refine ⟨h.1, ?_, ?_⟩
    · rw [← h.2]; exact hC
    · rw [← h.2]; exact FM.rf
  · rw [← ef] at hw2
    refine nz_if_ne_f (pc' := 8) (g_d dtbX10_monthly_0 3 rfl) (by omega) (by decide) rfl (by omega) ?_
    refine cz_aload_n (pc' := 9) (g_d dtbX10_monthly_0 4 rfl) rfl rfl ?_
    refine nz_ldc (pc' := 11) (v := -100000) (g_d dtbX10_monthly_0 5 rfl) kn_X10_142 rfl ?_
    refine nz_cVi (M' := mX10_refuseBad) (k := 0) (As := [iv (-100000)]) (S := []) (L := [some (.ref 0), some (iv (b)), none, none, none, none, none, none]) (pc' := 14) (g_d dtbX10_monthly_0 6 rfl) lk_X10_57 okX10_refuseBad (by decide) rfl rfl rfl rfl (Nat.le_of_ble_eq_true rfl) (Nat.le_of_ble_eq_true rfl) (by decide) rfl (c_refuseBad G Z (-100000)) ?_
    rintro _ _ ⟨rfl, rfl⟩
    refine nz_ri .int (g_d dtbX10_monthly_0 7 rfl) rfl rfl ?_
    rw [show xMonthly A b = (-100000, aBad A) from by unfold xMonthly; rw [← ef, if_neg (by omega)]]
    exact ⟨rfl, cs_bad hC, (FM.u FM.rf (by decide))⟩
