/-! a row of 108 numbers tells an account: figures 0 .. 5, bills 6 (how many), 7 (kinds), 14 (days), 21 (pounds), notes 28, 29 .., what may be undone 59, 60 .. -/
abbrev Row : Type := Nat → Int
def ru (f : Row) (j : Nat) (v : Int) : Row := fun i => if i = j then v else f i
theorem ru_eq {f : Row} {j : Nat} {v : Int} : ru f j v j = v := by simp [ru]
theorem ru_ne {f : Row} {i j : Nat} {v : Int} (h : i ≠ j) : ru f j v i = f i := by simp [ru, h]
/-- figures as they may be -/
def FO (B : Int) (g : Row) : Prop := (-B ≤ g 0 ∧ g 0 ≤ B) ∧ (0 ≤ g 1 ∧ g 1 ≤ B) ∧ (0 ≤ g 2 ∧ g 2 ≤ B) ∧ (1 ≤ g 3 ∧ g 3 ≤ 28) ∧ (0 ≤ g 4 ∧ (g 4 * 28 + g 3) * 3600 ≤ B) ∧ (0 ≤ g 5 ∧ g 5 ≤ 30)
/-- bills, notes as they may be -/
def BO (f : Row) (b : Nat) : Prop := (0 ≤ f (7 + b) ∧ f (7 + b) ≤ 5) ∧ (1 ≤ f (14 + b) ∧ f (14 + b) ≤ 28) ∧ (1 ≤ f (21 + b) ∧ f (21 + b) ≤ 99)
def NO1 (f : Row) (i : Nat) : Prop := (0 ≤ f (29 + 5 * i) ∧ f (29 + 5 * i) ≤ 6) ∧ (1 ≤ f (30 + 5 * i) ∧ f (30 + 5 * i) ≤ 28) ∧ (1 ≤ f (31 + 5 * i) ∧ f (31 + 5 * i) ≤ 28) ∧ (0 ≤ f (32 + 5 * i) ∧ f (32 + 5 * i) ≤ 40) ∧ (-999 ≤ f (33 + 5 * i) ∧ f (33 + 5 * i) ≤ 999)
def RO (B : Int) (f : Row) : Prop := FO B f ∧ (0 ≤ f 6 ∧ f 6 ≤ 7) ∧ (∀ b : Nat, b < 7 → (b : Int) < f 6 → BO f b) ∧ (0 ≤ f 28 ∧ f 28 ≤ 6) ∧ (∀ i : Nat, i < 6 → (i : Int) < f 28 → NO1 f i) ∧ (0 ≤ f 59 ∧ f 59 ≤ 8) ∧ (∀ i : Nat, i < 8 → (i : Int) < f 59 → FO B (fun j => f (60 + 6 * i + j)))
/-- a book k holds a row -/
def BR (Z : ZS) (k : Nat) (f : Row) : Prop := (∀ j, j < 6 → Z (k + 1) j = f j) ∧ Z k 4 = f 6 ∧ (∀ b : Nat, b < 7 → (b : Int) < f 6 → Z (k + 2) (b * 3) = f (7 + b) ∧ Z (k + 2) (b * 3 + 1) = f (14 + b) ∧ Z (k + 2) (b * 3 + 2) = f (21 + b)) ∧ Z k 5 = f 28 ∧ (∀ i : Nat, i < 6 → (i : Int) < f 28 → ∀ p, p < 5 → Z (k + 3) (i * 5 + p) = f (29 + 5 * i + p)) ∧ Z k 6 = f 59 ∧ (∀ i : Nat, i < 8 → (i : Int) < f 59 → ∀ j, j < 6 → Z (k + 4) (i * 6 + j) = f (60 + 6 * i + j))
/-- nothing but the book k -/
def Fb (k : Nat) (Z W : ZS) : Prop := ∀ a, (a < k ∨ k + 4 < a) → W a = Z a
theorem Fb.rf {k : Nat} {Z : ZS} : Fb k Z Z := fun _ _ => rfl
theorem Fb.tr {k : Nat} {Z W V : ZS} (h : Fb k Z W) (g : Fb k W V) : Fb k Z V := fun a ha => (g a ha).trans (h a ha)
theorem Fb.u {k a j : Nat} {Z W : ZS} {v : Int} (h : Fb k Z W) (ha : k ≤ a ∧ a ≤ k + 4) : Fb k Z (zu W a j v) := fun b hb => by rw [zu_row (by omega)]; exact h b hb
theorem Fb.r {k a : Nat} {Z W : ZS} {g : Nat → Int} (h : Fb k Z W) (ha : k ≤ a ∧ a ≤ k + 4) : Fb k Z (zr W a g) := fun b hb => by rw [zr_ne (by omega)]; exact h b hb
theorem BR.fr {k k2 : Nat} {Z W : ZS} {f : Row} (h : BR Z k f) (hF : Fb k2 Z W) (hk : k + 4 < k2 ∨ k2 + 4 < k) : BR W k f := by
  obtain ⟨h1, h2, h3, h4, h5, h6, h7⟩ := h
  have e : ∀ a, k ≤ a → a ≤ k + 4 → W a = Z a := fun a h1 h2 => hF a (by omega)
  refine ⟨fun j hj => ?_, ?_, fun b hb hb2 => ?_, ?_, fun i hi hi2 p hp => ?_, ?_, fun i hi hi2 j hj => ?_⟩
  · rw [e (k + 1) (by omega) (by omega)]; exact h1 j hj
  · rw [e k (by omega) (by omega)]; exact h2
  · rw [e (k + 2) (by omega) (by omega)]; exact h3 b hb hb2
  · rw [e k (by omega) (by omega)]; exact h4
  · rw [e (k + 3) (by omega) (by omega)]; exact h5 i hi hi2 p hp
  · rw [e k (by omega) (by omega)]; exact h6
  · rw [e (k + 4) (by omega) (by omega)]; exact h7 i hi hi2 j hj
/-- the cells of a book are as they were -/
theorem BR.eq {k : Nat} {Z W : ZS} {f : Row} (h : BR Z k f) (e : ∀ a, k ≤ a → a ≤ k + 4 → W a = Z a) : BR W k f := by
  obtain ⟨h1, h2, h3, h4, h5, h6, h7⟩ := h
  refine ⟨fun j hj => ?_, ?_, fun b hb hb2 => ?_, ?_, fun i hi hi2 p hp => ?_, ?_, fun i hi hi2 j hj => ?_⟩
  · rw [e (k + 1) (by omega) (by omega)]; exact h1 j hj
  · rw [e k (by omega) (by omega)]; exact h2
  · rw [e (k + 2) (by omega) (by omega)]; exact h3 b hb hb2
  · rw [e k (by omega) (by omega)]; exact h4
  · rw [e (k + 3) (by omega) (by omega)]; exact h5 i hi hi2 p hp
  · rw [e k (by omega) (by omega)]; exact h6
  · rw [e (k + 4) (by omega) (by omega)]; exact h7 i hi hi2 j hj
/-! what happens to rows -/
def rBegin : Row := fun j => if j = 3 then 1 else 0
def rBill (f : Row) (a d p : Int) : Row := ru (ru (ru (ru (ru f 59 0) (7 + (f 6).toNat) a) (14 + (f 6).toNat) d) (21 + (f 6).toNat) p) 6 (f 6 + 1)
def rNote (f : Row) (b d e m q : Int) : Row := ru (ru (ru (ru (ru (ru f (29 + 5 * (f 28).toNat) b) (30 + 5 * (f 28).toNat) d) (31 + 5 * (f 28).toNat) e) (32 + 5 * (f 28).toNat) m) (33 + 5 * (f 28).toNat) q) 28 (f 28 + 1)
def rShift (f : Row) : Row := if f 59 = 8 then ru (fun i => if 60 ≤ i ∧ i < 102 then f (i + 6) else f i) 59 7 else f
def rPut (g : Row) : Row := ru (fun i => if 60 + 6 * (g 59).toNat ≤ i ∧ i < 66 + 6 * (g 59).toNat then g (i - (60 + 6 * (g 59).toNat)) else g i) 59 (g 59 + 1)
def rKeep (f : Row) : Row := rPut (rShift f)
def rUndo (f : Row) : Row := ru (fun i => if i < 6 then f (60 + 6 * (f 59 - 1).toNat + i) else f i) 59 (f 59 - 1)
theorem br_begin {Z : ZS} {k : Nat} {n : Int} (hk : Bk k) : BR (zu (zu (zu (zu (zu (zfl Z (k + 1) 0 6) (k + 1) 0 n) (k + 1) 3 1) k 4 0) k 5 0) k 6 0) k (ru rBegin 0 n) := by
  refine ⟨fun j hj => ?_, ?_, fun b hb hb2 => ?_, ?_, fun i hi hi2 p hp => ?_, ?_, fun i hi hi2 j hj => ?_⟩
  · rcases (show j = 0 ∨ j = 1 ∨ j = 2 ∨ j = 3 ∨ j = 4 ∨ j = 5 by omega) with rfl | rfl | rfl | rfl | rfl | rfl <;> simp [zu, zfl, zr, ru, rBegin]
  · simp [zu, ru, rBegin]
  · simp [ru, rBegin] at hb2; omega
  · simp [zu, ru, rBegin]
  · simp [ru, rBegin] at hi2; omega
  · simp [zu, ru, rBegin]
  · simp [ru, rBegin] at hi2; omega
theorem br_bill {Z : ZS} {k c : Nat} {f : Row} {a d p : Int} (h : BR Z k f) (hc : f 6 = (c : Int)) (hc7 : c < 7) : BR (zu (zu (zu (zu (zu Z (k + 2) (c * 3) a) (k + 2) (c * 3 + 1) d) (k + 2) (c * 3 + 2) p) k 4 ((c : Int) + 1)) k 6 0) k (rBill f a d p) := by
  obtain ⟨h1, h2, h3, h4, h5, h6, h7⟩ := h
  have ec : (f 6).toNat = c := by omega
  refine ⟨fun j hj => ?_, ?_, fun b hb hb2 => ?_, ?_, fun i hi hi2 q hq => ?_, ?_, fun i hi hi2 j hj => ?_⟩
  · rw [show rBill f a d p j = f j by simp only [rBill, ec, ru]; repeat (rw [if_neg (by omega)])]
    rw [← h1 j hj]
    simp [zu]
  · simp [rBill, ru, hc, zu]
  · have hb3 : b < c ∨ b = c := by
      simp only [rBill, ru, if_true] at hb2
      omega
    rcases hb3 with hb3 | rfl
    · have e1 : rBill f a d p (7 + b) = f (7 + b) := by simp only [rBill, ec, ru]; repeat (rw [if_neg (by omega)])
      have e2 : rBill f a d p (14 + b) = f (14 + b) := by simp only [rBill, ec, ru]; repeat (rw [if_neg (by omega)])
      have e3 : rBill f a d p (21 + b) = f (21 + b) := by simp only [rBill, ec, ru]; repeat (rw [if_neg (by omega)])
      rw [e1, e2, e3]
      have := h3 b hb (by omega)
      have z : ∀ q, q < 3 → (zu (zu (zu (zu (zu Z (k + 2) (c * 3) a) (k + 2) (c * 3 + 1) d) (k + 2) (c * 3 + 2) p) k 4 ((c : Int) + 1)) k 6 0) (k + 2) (b * 3 + q) = Z (k + 2) (b * 3 + q) := by
        intro q hq
        rw [zu_ne (by omega), zu_ne (by omega), zu_ne (by omega), zu_ne (by omega), zu_ne (by omega)]
      exact ⟨(z 0 (by omega)).trans this.1, (z 1 (by omega)).trans this.2.1, (z 2 (by omega)).trans this.2.2⟩
    · refine ⟨?_, ?_, ?_⟩
      · rw [zu_ne (by omega), zu_ne (by omega), zu_ne (by omega), zu_ne (by omega), zu_eq]
        simp only [rBill, ec, ru]
        rw [if_neg (by omega), if_neg (by omega), if_neg (by omega), if_pos trivial]
      · rw [zu_ne (by omega), zu_ne (by omega), zu_ne (by omega), zu_eq]
        simp only [rBill, ec, ru]
        rw [if_neg (by omega), if_neg (by omega), if_pos trivial]
      · rw [zu_ne (by omega), zu_ne (by omega), zu_eq]
        simp only [rBill, ec, ru]
        rw [if_neg (by omega), if_pos trivial]
  · rw [show rBill f a d p 28 = f 28 by simp only [rBill, ec, ru]; repeat (rw [if_neg (by omega)])]
    rw [← h4]
    simp [zu]
  · have e28 : rBill f a d p 28 = f 28 := by simp only [rBill, ec, ru]; repeat (rw [if_neg (by omega)])
    rw [e28] at hi2
    rw [show rBill f a d p (29 + 5 * i + q) = f (29 + 5 * i + q) by simp only [rBill, ec, ru]; repeat (rw [if_neg (by omega)])]
    rw [← h5 i hi hi2 q hq]
    simp [zu]
  · simp [rBill, ec, zu, ru]
    omega
  · have e59 : rBill f a d p 59 = 0 := by
      simp only [rBill, ec, ru]
      rw [if_neg (by omega), if_neg (by omega), if_neg (by omega), if_neg (by omega), if_pos trivial]
    rw [e59] at hi2
    omega
theorem br_note {Z : ZS} {k c : Nat} {f : Row} {b d e m q : Int} (h : BR Z k f) (hc : f 28 = (c : Int)) (hc6 : c < 6) : BR (zu (zu (zu (zu (zu (zu Z (k + 3) (c * 5) b) (k + 3) (c * 5 + 1) d) (k + 3) (c * 5 + 2) e) (k + 3) (c * 5 + 3) m) (k + 3) (c * 5 + 4) q) k 5 ((c : Int) + 1)) k (rNote f b d e m q) := by
  obtain ⟨h1, h2, h3, h4, h5, h6, h7⟩ := h
  have ec : (f 28).toNat = c := by omega
  have lo : ∀ j, j < 28 ∨ 59 ≤ j → rNote f b d e m q j = f j := fun j hj => by
    rw [rNote, ec, ru_ne (by omega), ru_ne (by omega), ru_ne (by omega), ru_ne (by omega), ru_ne (by omega), ru_ne (by omega)]
  have e28 : rNote f b d e m q 28 = (c : Int) + 1 := by rw [rNote, ru_eq, hc]
  refine ⟨fun j hj => ?_, ?_, fun i hi hi2 => ?_, ?_, fun i hi hi2 p hp => ?_, ?_, fun i hi hi2 j hj => ?_⟩
  · rw [lo j (by omega), ← h1 j hj]; simp [zu]
  · rw [lo 6 (by omega), ← h2]; simp [zu]
  · rw [lo 6 (by omega)] at hi2
    rw [lo _ (by omega), lo _ (by omega), lo _ (by omega)]
    have := h3 i hi hi2
    simpa [zu] using this
  · rw [e28, zu_eq]
  · rw [e28] at hi2
    rcases (show i < c ∨ i = c by omega) with hic | rfl
    · rw [zu_ne (by omega), zu_ne (by omega), zu_ne (by omega), zu_ne (by omega), zu_ne (by omega), zu_ne (by omega), h5 i hi (by omega) p hp]
      rw [rNote, ec, ru_ne (by omega), ru_ne (by omega), ru_ne (by omega), ru_ne (by omega), ru_ne (by omega), ru_ne (by omega)]
    · rcases (show p = 0 ∨ p = 1 ∨ p = 2 ∨ p = 3 ∨ p = 4 by omega) with rfl | rfl | rfl | rfl | rfl
      · rw [zu_ne (by omega), zu_ne (by omega), zu_ne (by omega), zu_ne (by omega), zu_ne (by omega)]
        simp only [Nat.add_zero]
        rw [zu_eq, rNote, ec, ru_ne (by omega), ru_ne (by omega), ru_ne (by omega), ru_ne (by omega), ru_ne (by omega), ru_eq]
      · rw [zu_ne (by omega), zu_ne (by omega), zu_ne (by omega), zu_ne (by omega), zu_eq]
        rw [show 29 + 5 * i + 1 = 30 + 5 * i by omega, rNote, ec, ru_ne (by omega), ru_ne (by omega), ru_ne (by omega), ru_ne (by omega), ru_eq]
      · rw [zu_ne (by omega), zu_ne (by omega), zu_ne (by omega), zu_eq]
        rw [show 29 + 5 * i + 2 = 31 + 5 * i by omega, rNote, ec, ru_ne (by omega), ru_ne (by omega), ru_ne (by omega), ru_eq]
      · rw [zu_ne (by omega), zu_ne (by omega), zu_eq]
        rw [show 29 + 5 * i + 3 = 32 + 5 * i by omega, rNote, ec, ru_ne (by omega), ru_ne (by omega), ru_eq]
      · rw [zu_ne (by omega), zu_eq]
        rw [show 29 + 5 * i + 4 = 33 + 5 * i by omega, rNote, ec, ru_ne (by omega), ru_eq]
  · rw [lo 59 (by omega), ← h6]; simp [zu]
  · rw [lo 59 (by omega)] at hi2
    rw [lo _ (by omega), ← h7 i hi hi2 j hj]
    simp [zu]
theorem br_put {Z : ZS} {k c : Nat} {g : Row} (h : BR Z k g) (hc : g 59 = (c : Int)) (hc8 : c < 8) : BR (zu (zr Z (k + 4) (zcp (Z (k + 1)) (Z (k + 4)) 0 (c * 6) 6)) k 6 ((c : Int) + 1)) k (rPut g) := by
  obtain ⟨h1, h2, h3, h4, h5, h6, h7⟩ := h
  have ec : (g 59).toNat = c := by omega
  have lo : ∀ j, j < 59 → rPut g j = g j := fun j hj => by
    rw [rPut, ru_ne (by omega), if_neg (by omega)]
  have e59 : rPut g 59 = (c : Int) + 1 := by rw [rPut, ru_eq, hc]
  have w : ∀ a, a ≠ k → a ≠ k + 4 → (zu (zr Z (k + 4) (zcp (Z (k + 1)) (Z (k + 4)) 0 (c * 6) 6)) k 6 ((c : Int) + 1)) a = Z a := fun a h1 h2 => by rw [zu_row h1, zr_ne h2]
  have w4 : (zu (zr Z (k + 4) (zcp (Z (k + 1)) (Z (k + 4)) 0 (c * 6) 6)) k 6 ((c : Int) + 1)) (k + 4) = zcp (Z (k + 1)) (Z (k + 4)) 0 (c * 6) 6 := by rw [zu_row (by omega), zr_eq]
  refine ⟨fun j hj => ?_, ?_, fun i hi hi2 => ?_, ?_, fun i hi hi2 p hp => ?_, ?_, fun i hi hi2 j hj => ?_⟩
  · rw [lo j (by omega), w _ (by omega) (by omega)]; exact h1 j hj
  · rw [lo 6 (by omega), ← h2, zu_ne (by omega), zr_ne (by omega)]
  · rw [lo 6 (by omega)] at hi2
    rw [lo _ (by omega), lo _ (by omega), lo _ (by omega), w _ (by omega) (by omega)]
    exact h3 i hi hi2
  · rw [lo 28 (by omega), ← h4, zu_ne (by omega), zr_ne (by omega)]
  · rw [lo 28 (by omega)] at hi2
    rw [lo _ (by omega), w _ (by omega) (by omega)]
    exact h5 i hi hi2 p hp
  · rw [e59, zu_eq]
  · rw [e59] at hi2
    rw [w4, zcp]
    rcases (show i < c ∨ i = c by omega) with hic | rfl
    · rw [if_neg (by omega), h7 i hi (by omega) j hj, rPut, ec, ru_ne (by omega), if_neg (by omega)]
    · rw [if_pos (by omega), show 0 + (i * 6 + j - i * 6) = j by omega, h1 j hj, rPut, ec, ru_ne (by omega), if_pos (by omega)]
      congr 1; omega
theorem br_shift {Z : ZS} {k : Nat} {f : Row} (h : BR Z k f) (hc : f 59 = 8) : BR (zu (zr Z (k + 4) (zcp (Z (k + 4)) (Z (k + 4)) 6 0 42)) k 6 7) k (rShift f) := by
  obtain ⟨h1, h2, h3, h4, h5, h6, h7⟩ := h
  have eS : rShift f = ru (fun i => if 60 ≤ i ∧ i < 102 then f (i + 6) else f i) 59 7 := by rw [rShift, if_pos hc]
  have lo : ∀ j, j < 59 → rShift f j = f j := fun j hj => by rw [eS, ru_ne (by omega), if_neg (by omega)]
  have e59 : rShift f 59 = 7 := by rw [eS, ru_eq]
  have w : ∀ a, a ≠ k → a ≠ k + 4 → (zu (zr Z (k + 4) (zcp (Z (k + 4)) (Z (k + 4)) 6 0 42)) k 6 7) a = Z a := fun a h1 h2 => by rw [zu_row h1, zr_ne h2]
  have w4 : (zu (zr Z (k + 4) (zcp (Z (k + 4)) (Z (k + 4)) 6 0 42)) k 6 7) (k + 4) = zcp (Z (k + 4)) (Z (k + 4)) 6 0 42 := by rw [zu_row (by omega), zr_eq]
  refine ⟨fun j hj => ?_, ?_, fun i hi hi2 => ?_, ?_, fun i hi hi2 p hp => ?_, ?_, fun i hi hi2 j hj => ?_⟩
  · rw [lo j (by omega), w _ (by omega) (by omega)]; exact h1 j hj
  · rw [lo 6 (by omega), ← h2, zu_ne (by omega), zr_ne (by omega)]
  · rw [lo 6 (by omega)] at hi2
    rw [lo _ (by omega), lo _ (by omega), lo _ (by omega), w _ (by omega) (by omega)]
    exact h3 i hi hi2
  · rw [lo 28 (by omega), ← h4, zu_ne (by omega), zr_ne (by omega)]
  · rw [lo 28 (by omega)] at hi2
    rw [lo _ (by omega), w _ (by omega) (by omega)]
    exact h5 i hi hi2 p hp
  · rw [e59, zu_eq]
  · rw [e59] at hi2
    rw [w4, zcp, if_pos (by omega), show 6 + (i * 6 + j - 0) = (i + 1) * 6 + j by omega, h7 (i + 1) (by omega) (by omega) j hj, eS, ru_ne (by omega), if_pos (by omega)]
    congr 1; omega
theorem br_undo {Z : ZS} {k c : Nat} {f : Row} (h : BR Z k f) (hc : f 59 = (c : Int) + 1) (hc8 : c < 8) : BR (zr (zu Z k 6 (c : Int)) (k + 1) (zcp (Z (k + 4)) (Z (k + 1)) (c * 6) 0 6)) k (rUndo f) := by
  obtain ⟨h1, h2, h3, h4, h5, h6, h7⟩ := h
  have ec : (f 59 - 1).toNat = c := by omega
  have lo : ∀ j, 6 ≤ j → j ≠ 59 → rUndo f j = f j := fun j hj h59 => by rw [rUndo, ru_ne h59, if_neg (by omega)]
  have e59 : rUndo f 59 = (c : Int) := by rw [rUndo, ru_eq]; omega
  refine ⟨fun j hj => ?_, ?_, fun i hi hi2 => ?_, ?_, fun i hi hi2 p hp => ?_, ?_, fun i hi hi2 j hj => ?_⟩
  · rw [zr_eq, zcp, if_pos (by omega), show c * 6 + (j - 0) = c * 6 + j by omega, h7 c hc8 (by omega) j hj, rUndo, ec, ru_ne (by omega), if_pos hj]
  · rw [lo 6 (by omega) (by omega), ← h2, zr_ne (by omega), zu_ne (by omega)]
  · rw [lo 6 (by omega) (by omega)] at hi2
    rw [lo _ (by omega) (by omega), lo _ (by omega) (by omega), lo _ (by omega) (by omega), zr_ne (by omega), zu_row (by omega)]
    exact h3 i hi hi2
  · rw [lo 28 (by omega) (by omega), ← h4, zr_ne (by omega), zu_ne (by omega)]
  · rw [lo 28 (by omega) (by omega)] at hi2
    rw [lo _ (by omega) (by omega), zr_ne (by omega), zu_row (by omega)]
    exact h5 i hi hi2 p hp
  · rw [e59, zr_ne (by omega), zu_eq]
  · rw [e59] at hi2
    rw [lo _ (by omega) (by omega), zr_ne (by omega), zu_row (by omega)]
    exact h7 i hi (by omega) j hj
theorem br_fig {Z : ZS} {k j : Nat} {f : Row} {v : Int} (h : BR Z k f) (hj : j < 6) : BR (zu Z (k + 1) j v) k (ru f j v) := by
  obtain ⟨h1, h2, h3, h4, h5, h6, h7⟩ := h
  refine ⟨fun i hi => ?_, ?_, fun i hi hi2 => ?_, ?_, fun i hi hi2 p hp => ?_, ?_, fun i hi hi2 p hp => ?_⟩
  · by_cases e : i = j
    · subst e; rw [zu_eq, ru_eq]
    · rw [zu_ne (Or.inr e), ru_ne e]; exact h1 i hi
  · rw [zu_ne (by omega), ru_ne (by omega)]; exact h2
  · rw [ru_ne (by omega)] at hi2
    rw [zu_row (by omega), ru_ne (by omega), ru_ne (by omega), ru_ne (by omega)]; exact h3 i hi hi2
  · rw [zu_ne (by omega), ru_ne (by omega)]; exact h4
  · rw [ru_ne (by omega)] at hi2
    rw [zu_row (by omega), ru_ne (by omega)]; exact h5 i hi hi2 p hp
  · rw [zu_ne (by omega), ru_ne (by omega)]; exact h6
  · rw [ru_ne (by omega)] at hi2
    rw [zu_row (by omega), ru_ne (by omega)]; exact h7 i hi hi2 p hp
theorem br_forget {Z : ZS} {k : Nat} {f : Row} (h : BR Z k f) : BR (zu Z k 5 0) k (ru f 28 0) := by
  obtain ⟨h1, h2, h3, h4, h5, h6, h7⟩ := h
  refine ⟨fun i hi => ?_, ?_, fun i hi hi2 => ?_, ?_, fun i hi hi2 p hp => ?_, ?_, fun i hi hi2 p hp => ?_⟩
  · rw [zu_row (by omega), ru_ne (by omega)]; exact h1 i hi
  · rw [zu_ne (by omega), ru_ne (by omega)]; exact h2
  · rw [ru_ne (by omega)] at hi2
    rw [zu_row (by omega), ru_ne (by omega), ru_ne (by omega), ru_ne (by omega)]; exact h3 i hi hi2
  · rw [zu_eq, ru_eq]
  · rw [ru_eq] at hi2; omega
  · rw [zu_ne (by omega), ru_ne (by omega)]; exact h6
  · rw [ru_ne (by omega)] at hi2
    rw [zu_row (by omega), ru_ne (by omega)]; exact h7 i hi hi2 p hp
/-- a book copied over another -/
theorem br_copy {Z W : ZS} {k k2 : Nat} {f : Row} (h : BR Z k2 f) (e1 : ∀ j, j < 6 → W (k + 1) j = Z (k2 + 1) j) (e2 : ∀ j, j < 21 → W (k + 2) j = Z (k2 + 2) j) (e3 : ∀ j, j < 30 → W (k + 3) j = Z (k2 + 3) j) (e4 : ∀ j, j < 48 → W (k + 4) j = Z (k2 + 4) j) (e5 : W k 4 = Z k2 4) (e6 : W k 5 = Z k2 5) (e7 : W k 6 = Z k2 6) : BR W k f := by
  obtain ⟨h1, h2, h3, h4, h5, h6, h7⟩ := h
  refine ⟨fun i hi => ?_, ?_, fun i hi hi2 => ?_, ?_, fun i hi hi2 p hp => ?_, ?_, fun i hi hi2 p hp => ?_⟩
  · rw [e1 i hi]; exact h1 i hi
  · rw [e5]; exact h2
  · rw [e2 _ (by omega), e2 _ (by omega), e2 _ (by omega)]; exact h3 i hi hi2
  · rw [e6]; exact h4
  · rw [e3 _ (by omega)]; exact h5 i hi hi2 p hp
  · rw [e7]; exact h6
  · rw [e4 _ (by omega)]; exact h7 i hi hi2 p hp
/-! rows stay as they may be -/
theorem FO.eq {B : Int} {g g2 : Row} (h : FO B g) (e : ∀ j, j < 6 → g2 j = g j) : FO B g2 := by
  unfold FO at h ⊢
  rw [e 0 (by omega), e 1 (by omega), e 2 (by omega), e 3 (by omega), e 4 (by omega), e 5 (by omega)]
  exact h
theorem FO.mono {B B' : Int} {g : Row} (h : FO B g) (hb : B ≤ B') : FO B' g := by
  obtain ⟨h1, h2, h3, h4, h5, h6⟩ := h
  exact ⟨by omega, by omega, by omega, h4, by omega, h6⟩
theorem RO.mono {B B' : Int} {f : Row} (h : RO B f) (hb : B ≤ B') : RO B' f := ⟨h.1.mono hb, h.2.1, h.2.2.1, h.2.2.2.1, h.2.2.2.2.1, h.2.2.2.2.2.1, fun i hi hi2 => (h.2.2.2.2.2.2 i hi hi2).mono hb⟩
theorem ro_begin {B n : Int} (hB : 4000 ≤ B) (hn : 0 ≤ n ∧ n ≤ 999) : RO B (ru rBegin 0 n) := by
  refine ⟨⟨?_, ?_, ?_, ?_, ?_, ?_⟩, ?_, fun b hb hb2 => ?_, ?_, fun b hb hb2 => ?_, ?_, fun b hb hb2 => ?_⟩ <;> first | (simp [ru, rBegin]; omega) | (simp [ru, rBegin]; done) | (simp [ru, rBegin] at hb2; omega)
theorem ro_bill {B a d p : Int} {f : Row} (h : RO B f) (h7 : f 6 < 7) (ha : 0 ≤ a ∧ a ≤ 5) (hd : 1 ≤ d ∧ d ≤ 28) (hp : 1 ≤ p ∧ p ≤ 99) : RO B (rBill f a d p) := by
  obtain ⟨h1, h2, h3, h4, h5, h6, hh⟩ := h
  obtain ⟨c, hc⟩ : ∃ c : Nat, f 6 = (c : Int) := ⟨(f 6).toNat, by omega⟩
  have ec : (f 6).toNat = c := by omega
  have lo : ∀ j, j < 6 ∨ (28 ≤ j ∧ j ≠ 59) → rBill f a d p j = f j := fun j hj => by
    rw [rBill, ec, ru_ne (by omega), ru_ne (by omega), ru_ne (by omega), ru_ne (by omega), ru_ne (by omega)]
  have e6 : rBill f a d p 6 = (c : Int) + 1 := by rw [rBill, ru_eq, hc]
  have e59 : rBill f a d p 59 = 0 := by rw [rBill, ec, ru_ne (by omega), ru_ne (by omega), ru_ne (by omega), ru_ne (by omega), ru_eq]
  refine ⟨?_, by rw [e6]; omega, fun b hb hb2 => ?_, by rw [lo 28 (by omega)]; exact h4, fun b hb hb2 => ?_, by rw [e59]; omega, fun b hb hb2 => by rw [e59] at hb2; omega⟩
  · unfold FO
    rw [lo 0 (by omega), lo 1 (by omega), lo 2 (by omega), lo 3 (by omega), lo 4 (by omega), lo 5 (by omega)]
    exact h1
  · rw [e6] at hb2
    unfold BO
    rcases (show b < c ∨ b = c by omega) with hbc | rfl
    · have := h3 b hb (by omega)
      unfold BO at this
      rw [rBill, ec, ru_ne (by omega), ru_ne (by omega), ru_ne (by omega), ru_ne (by omega), ru_ne (by omega), ru_ne (by omega), ru_ne (by omega), ru_ne (by omega), ru_ne (by omega), ru_ne (by omega), ru_ne (by omega), ru_ne (by omega), ru_ne (by omega), ru_ne (by omega), ru_ne (by omega)]
      exact this
    · have a1 : rBill f a d p (7 + b) = a := by rw [rBill, ec, ru_ne (by omega), ru_ne (by omega), ru_ne (by omega), ru_eq]
      have a2 : rBill f a d p (14 + b) = d := by rw [rBill, ec, ru_ne (by omega), ru_ne (by omega), ru_eq]
      have a3 : rBill f a d p (21 + b) = p := by rw [rBill, ec, ru_ne (by omega), ru_eq]
      rw [a1, a2, a3]
      exact ⟨ha, hd, hp⟩
  · rw [lo 28 (by omega)] at hb2
    unfold NO1
    rw [lo _ (by omega), lo _ (by omega), lo _ (by omega), lo _ (by omega), lo _ (by omega)]
    exact h5 b hb hb2
theorem ro_note {B b d e m q : Int} {f : Row} (h : RO B f) (h6 : f 28 < 6) (hb : 0 ≤ b ∧ b ≤ 6) (hd : 1 ≤ d ∧ d ≤ 28) (he : 1 ≤ e ∧ e ≤ 28) (hm : 0 ≤ m ∧ m ≤ 40) (hq : -999 ≤ q ∧ q ≤ 999) : RO B (rNote f b d e m q) := by
  obtain ⟨h1, h2, h3, h4, h5, h8, hh⟩ := h
  obtain ⟨c, hc⟩ : ∃ c : Nat, f 28 = (c : Int) := ⟨(f 28).toNat, by omega⟩
  have ec : (f 28).toNat = c := by omega
  have lo : ∀ j, j < 28 ∨ 59 ≤ j → rNote f b d e m q j = f j := fun j hj => by
    rw [rNote, ec, ru_ne (by omega), ru_ne (by omega), ru_ne (by omega), ru_ne (by omega), ru_ne (by omega), ru_ne (by omega)]
  have e28 : rNote f b d e m q 28 = (c : Int) + 1 := by rw [rNote, ru_eq, hc]
  refine ⟨?_, by rw [lo 6 (by omega)]; exact h2, fun i hi hi2 => ?_, by rw [e28]; omega, fun i hi hi2 => ?_, by rw [lo 59 (by omega)]; exact h8, fun i hi hi2 => ?_⟩
  · unfold FO
    rw [lo 0 (by omega), lo 1 (by omega), lo 2 (by omega), lo 3 (by omega), lo 4 (by omega), lo 5 (by omega)]
    exact h1
  · rw [lo 6 (by omega)] at hi2
    unfold BO
    rw [lo _ (by omega), lo _ (by omega), lo _ (by omega)]
    exact h3 i hi hi2
  · rw [e28] at hi2
    unfold NO1
    rcases (show i < c ∨ i = c by omega) with hic | rfl
    · have := h5 i hi (by omega)
      unfold NO1 at this
      have z : ∀ j, 29 ≤ j → j < 29 + 5 * c → rNote f b d e m q j = f j := fun j h1 h2 => by
        rw [rNote, ec, ru_ne (by omega), ru_ne (by omega), ru_ne (by omega), ru_ne (by omega), ru_ne (by omega), ru_ne (by omega)]
      rw [z _ (by omega) (by omega), z _ (by omega) (by omega), z _ (by omega) (by omega), z _ (by omega) (by omega), z _ (by omega) (by omega)]
      exact this
    · have a1 : rNote f b d e m q (29 + 5 * i) = b := by rw [rNote, ec, ru_ne (by omega), ru_ne (by omega), ru_ne (by omega), ru_ne (by omega), ru_ne (by omega), ru_eq]
      have a2 : rNote f b d e m q (30 + 5 * i) = d := by rw [rNote, ec, ru_ne (by omega), ru_ne (by omega), ru_ne (by omega), ru_ne (by omega), ru_eq]
      have a3 : rNote f b d e m q (31 + 5 * i) = e := by rw [rNote, ec, ru_ne (by omega), ru_ne (by omega), ru_ne (by omega), ru_eq]
      have a4 : rNote f b d e m q (32 + 5 * i) = m := by rw [rNote, ec, ru_ne (by omega), ru_ne (by omega), ru_eq]
      have a5 : rNote f b d e m q (33 + 5 * i) = q := by rw [rNote, ec, ru_ne (by omega), ru_eq]
      rw [a1, a2, a3, a4, a5]
      exact ⟨hb, hd, he, hm, hq⟩
  · rw [lo 59 (by omega)] at hi2
    exact (hh i hi hi2).eq (fun j hj => lo _ (by omega))
theorem ro_shift {B : Int} {f : Row} (h : RO B f) : RO B (rShift f) ∧ rShift f 59 < 8 := by
  by_cases hc : f 59 = 8
  · obtain ⟨h1, h2, h3, h4, h5, h8, hh⟩ := h
    have eS : rShift f = ru (fun i => if 60 ≤ i ∧ i < 102 then f (i + 6) else f i) 59 7 := by rw [rShift, if_pos hc]
    have lo : ∀ j, j < 59 → rShift f j = f j := fun j hj => by rw [eS, ru_ne (by omega), if_neg (by omega)]
    have e59 : rShift f 59 = 7 := by rw [eS, ru_eq]
    refine ⟨⟨?_, by rw [lo 6 (by omega)]; exact h2, fun i hi hi2 => ?_, by rw [lo 28 (by omega)]; exact h4, fun i hi hi2 => ?_, by rw [e59]; omega, fun i hi hi2 => ?_⟩, by rw [e59]; omega⟩
    · unfold FO
      rw [lo 0 (by omega), lo 1 (by omega), lo 2 (by omega), lo 3 (by omega), lo 4 (by omega), lo 5 (by omega)]
      exact h1
    · rw [lo 6 (by omega)] at hi2
      unfold BO
      rw [lo _ (by omega), lo _ (by omega), lo _ (by omega)]
      exact h3 i hi hi2
    · rw [lo 28 (by omega)] at hi2
      unfold NO1
      rw [lo _ (by omega), lo _ (by omega), lo _ (by omega), lo _ (by omega), lo _ (by omega)]
      exact h5 i hi hi2
    · rw [e59] at hi2
      have := hh (i + 1) (by omega) (by omega)
      have z : ∀ j, j < 6 → rShift f (60 + 6 * i + j) = f (60 + 6 * (i + 1) + j) := fun j hj => by
        rw [eS, ru_ne (by omega), if_pos (by omega)]; congr 1; omega
      exact this.eq z
  · rw [rShift, if_neg hc]
    have := h.2.2.2.2.2.1
    exact ⟨h, by omega⟩
theorem ro_put {B : Int} {g : Row} (h : RO B g) (h8 : g 59 < 8) : RO B (rPut g) := by
  obtain ⟨h1, h2, h3, h4, h5, h9, hh⟩ := h
  obtain ⟨c, hc⟩ : ∃ c : Nat, g 59 = (c : Int) := ⟨(g 59).toNat, by omega⟩
  have ec : (g 59).toNat = c := by omega
  have lo : ∀ j, j < 59 → rPut g j = g j := fun j hj => by rw [rPut, ru_ne (by omega), if_neg (by omega)]
  have e59 : rPut g 59 = (c : Int) + 1 := by rw [rPut, ru_eq, hc]
  refine ⟨?_, by rw [lo 6 (by omega)]; exact h2, fun i hi hi2 => ?_, by rw [lo 28 (by omega)]; exact h4, fun i hi hi2 => ?_, by rw [e59]; omega, fun i hi hi2 => ?_⟩
  · unfold FO
    rw [lo 0 (by omega), lo 1 (by omega), lo 2 (by omega), lo 3 (by omega), lo 4 (by omega), lo 5 (by omega)]
    exact h1
  · rw [lo 6 (by omega)] at hi2
    unfold BO
    rw [lo _ (by omega), lo _ (by omega), lo _ (by omega)]
    exact h3 i hi hi2
  · rw [lo 28 (by omega)] at hi2
    unfold NO1
    rw [lo _ (by omega), lo _ (by omega), lo _ (by omega), lo _ (by omega), lo _ (by omega)]
    exact h5 i hi hi2
  · rw [e59] at hi2
    rcases (show i < c ∨ i = c by omega) with hic | rfl
    · have := hh i hi (by omega)
      have z : ∀ j, j < 6 → rPut g (60 + 6 * i + j) = g (60 + 6 * i + j) := fun j hj => by rw [rPut, ec, ru_ne (by omega), if_neg (by omega)]
      exact this.eq z
    · have z : ∀ j, j < 6 → rPut g (60 + 6 * i + j) = g j := fun j hj => by
        rw [rPut, ec, ru_ne (by omega), if_pos (by omega)]; congr 1; omega
      exact h1.eq z
theorem ro_keep {B : Int} {f : Row} (h : RO B f) : RO B (rKeep f) := ro_put (ro_shift h).1 (ro_shift h).2
theorem ro_undo {B : Int} {f : Row} (h : RO B f) (h0 : 0 < f 59) : RO B (rUndo f) := by
  obtain ⟨h1, h2, h3, h4, h5, h9, hh⟩ := h
  obtain ⟨c, hc⟩ : ∃ c : Nat, f 59 = (c : Int) + 1 := ⟨(f 59).toNat - 1, by omega⟩
  have ec : (f 59 - 1).toNat = c := by omega
  have lo : ∀ j, 6 ≤ j → j ≠ 59 → rUndo f j = f j := fun j hj h59 => by rw [rUndo, ru_ne h59, if_neg (by omega)]
  have e59 : rUndo f 59 = (c : Int) := by rw [rUndo, ru_eq]; omega
  have hi0 : ∀ j, j < 6 → rUndo f j = f (60 + 6 * c + j) := fun j hj => by rw [rUndo, ec, ru_ne (by omega), if_pos hj]
  refine ⟨?_, by rw [lo 6 (by omega) (by omega)]; exact h2, fun i hi hi2 => ?_, by rw [lo 28 (by omega) (by omega)]; exact h4, fun i hi hi2 => ?_, by rw [e59]; omega, fun i hi hi2 => ?_⟩
  · have := hh c (by omega) (by omega)
    exact this.eq hi0
  · rw [lo 6 (by omega) (by omega)] at hi2
    unfold BO
    rw [lo _ (by omega) (by omega), lo _ (by omega) (by omega), lo _ (by omega) (by omega)]
    exact h3 i hi hi2
  · rw [lo 28 (by omega) (by omega)] at hi2
    unfold NO1
    rw [lo _ (by omega) (by omega), lo _ (by omega) (by omega), lo _ (by omega) (by omega), lo _ (by omega) (by omega), lo _ (by omega) (by omega)]
    exact h5 i hi hi2
  · rw [e59] at hi2
    exact (hh i hi (by omega)).eq (fun j hj => lo _ (by omega) (by omega))
theorem ro_forget {B : Int} {f : Row} (h : RO B f) : RO B (ru f 28 0) := by
  obtain ⟨h1, h2, h3, h4, h5, h9, hh⟩ := h
  refine ⟨?_, by rw [ru_ne (by omega)]; exact h2, fun i hi hi2 => ?_, by rw [ru_eq]; omega, fun i hi hi2 => by rw [ru_eq] at hi2; omega, by rw [ru_ne (by omega)]; exact h9, fun i hi hi2 => ?_⟩
  · unfold FO
    rw [ru_ne (by omega), ru_ne (by omega), ru_ne (by omega), ru_ne (by omega), ru_ne (by omega), ru_ne (by omega)]
    exact h1
  · rw [ru_ne (by omega)] at hi2
    unfold BO
    rw [ru_ne (by omega), ru_ne (by omega), ru_ne (by omega)]
    exact h3 i hi hi2
  · rw [ru_ne (by omega)] at hi2
    exact (hh i hi hi2).eq (fun j hj => ru_ne (by omega))
/-- figures set anew -/
theorem ro_fig {B : Int} {f g : Row} (h : RO B f) (hg : ∀ j, 6 ≤ j → g j = f j) (hF : FO B g) : RO B g := by
  obtain ⟨h1, h2, h3, h4, h5, h9, hh⟩ := h
  refine ⟨hF, by rw [hg 6 (by omega)]; exact h2, fun i hi hi2 => ?_, by rw [hg 28 (by omega)]; exact h4, fun i hi hi2 => ?_, by rw [hg 59 (by omega)]; exact h9, fun i hi hi2 => ?_⟩
  · rw [hg 6 (by omega)] at hi2
    unfold BO
    rw [hg _ (by omega), hg _ (by omega), hg _ (by omega)]
    exact h3 i hi hi2
  · rw [hg 28 (by omega)] at hi2
    unfold NO1
    rw [hg _ (by omega), hg _ (by omega), hg _ (by omega), hg _ (by omega), hg _ (by omega)]
    exact h5 i hi hi2
  · rw [hg 59 (by omega)] at hi2
    exact (hh i hi hi2).eq (fun j hj => hg _ (by omega))
