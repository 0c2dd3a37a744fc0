/-! the whole state, told once: row, images (kept?, row), text (length, bytes), fraction, refusals -/
abbrev AS : Type := Row × (Int × Row) × (Int × Row) × (Nat × Row) × (Int × Int) × (Int × Int × Int)
def r108 (g f : Row) : Row := fun j => if j < 108 then g j else f j
def sF (A : AS) (f : Row) : AS := (f, A.2)
def sT (A : AS) (n : Nat) (t : Row) : AS := (A.1, A.2.1, A.2.2.1, (n, t), A.2.2.2.2)
def sQ (A : AS) (u l : Int) : AS := (A.1, A.2.1, A.2.2.1, A.2.2.2.1, (u, l), A.2.2.2.2.2)
def sI0 (A : AS) (g : Row) : AS := (A.1, (1, g), A.2.2)
def sI1 (A : AS) (g : Row) : AS := (A.1, A.2.1, (1, g), A.2.2.2)
def aBad (A : AS) : AS := (A.1, A.2.1, A.2.2.1, A.2.2.2.1, A.2.2.2.2.1, (A.2.2.2.2.2.1 + 1, A.2.2.2.2.2.2))
def aNo (A : AS) : AS := (A.1, A.2.1, A.2.2.1, A.2.2.2.1, A.2.2.2.2.1, (A.2.2.2.2.2.1, A.2.2.2.2.2.2.1 + 1, A.2.2.2.2.2.2.2))
def aFull (A : AS) : AS := (A.1, A.2.1, A.2.2.1, A.2.2.2.1, A.2.2.2.2.1, (A.2.2.2.2.2.1, A.2.2.2.2.2.2.1, A.2.2.2.2.2.2.2 + 1))
/-- how the class holds it -/
def CS (Z : ZS) (A : AS) : Prop := BR Z 1 A.1 ∧ (Z 16 0 = A.2.1.1 ∧ (A.2.1.1 = 1 → BR Z 6 A.2.1.2)) ∧ (Z 16 1 = A.2.2.1.1 ∧ (A.2.2.1.1 = 1 → BR Z 11 A.2.2.1.2)) ∧ (Z 17 2 = (A.2.2.2.1.1 : Int) ∧ ∀ i, i < A.2.2.2.1.1 → Z 18 i = A.2.2.2.1.2 i) ∧ (Z 0 8 = A.2.2.2.2.1.1 ∧ Z 0 9 = A.2.2.2.2.1.2) ∧ (Z 0 10 = A.2.2.2.2.2.1 ∧ Z 0 11 = A.2.2.2.2.2.2.1 ∧ Z 0 12 = A.2.2.2.2.2.2.2)
/-- how the other one does -/
def MS (Z : ZS) (A : AS) : Prop := Z 35 = A.1 ∧ (Z 39 0 = A.2.1.1 ∧ (A.2.1.1 = 1 → ∀ j, j < 108 → Z 38 j = A.2.1.2 j)) ∧ (Z 39 1 = A.2.2.1.1 ∧ (A.2.2.1.1 = 1 → ∀ j, j < 108 → Z 38 (108 + j) = A.2.2.1.2 j)) ∧ (Z 34 8 = (A.2.2.2.1.1 : Int) ∧ ∀ i, i < A.2.2.2.1.1 → Z 41 i = A.2.2.2.1.2 i) ∧ (Z 34 6 = A.2.2.2.2.1.1 ∧ Z 34 7 = A.2.2.2.2.1.2) ∧ (Z 40 0 = A.2.2.2.2.2.1 ∧ Z 40 1 = A.2.2.2.2.2.2.1 ∧ Z 40 2 = A.2.2.2.2.2.2.2)
/-- as it may be -/
def AO (B : Int) (A : AS) : Prop := (4000 ≤ B ∧ B ≤ 60000000) ∧ RO B A.1 ∧ ((A.2.1.1 = 0 ∨ A.2.1.1 = 1) ∧ (A.2.1.1 = 1 → RO B A.2.1.2)) ∧ ((A.2.2.1.1 = 0 ∨ A.2.2.1.1 = 1) ∧ (A.2.2.1.1 = 1 → RO B A.2.2.1.2)) ∧ (A.2.2.2.1.1 ≤ 150 ∧ ∀ i, i < A.2.2.2.1.1 → 0 ≤ A.2.2.2.1.2 i ∧ A.2.2.2.1.2 i ≤ 127) ∧ ((0 ≤ A.2.2.2.2.1.1 ∧ A.2.2.2.2.1.1 ≤ 1000) ∧ (1 ≤ A.2.2.2.2.1.2 ∧ A.2.2.2.2.1.2 ≤ 10)) ∧ ((0 ≤ A.2.2.2.2.2.1 ∧ A.2.2.2.2.2.1 ≤ B) ∧ (0 ≤ A.2.2.2.2.2.2.1 ∧ A.2.2.2.2.2.2.1 ≤ B) ∧ (0 ≤ A.2.2.2.2.2.2.2 ∧ A.2.2.2.2.2.2.2 ≤ B))
def FM (Z W : ZS) : Prop := ∀ a, 34 ≤ a → W a = Z a
def FC (Z W : ZS) : Prop := ∀ a, a < 34 → W a = Z a
theorem FM.rf {Z : ZS} : FM Z Z := fun _ _ => rfl
theorem FM.tr {Z W V : ZS} (h : FM Z W) (g : FM W V) : FM Z V := fun a ha => (g a ha).trans (h a ha)
theorem FM.u {Z W : ZS} {k j : Nat} {v : Int} (h : FM Z W) (hk : k < 34) : FM Z (zu W k j v) := fun a ha => by rw [zu_row (by omega)]; exact h a ha
theorem FM.r {Z W : ZS} {k : Nat} {g : Nat → Int} (h : FM Z W) (hk : k < 34) : FM Z (zr W k g) := fun a ha => by rw [zr_ne (by omega)]; exact h a ha
theorem FM.b {Z W V : ZS} {k : Nat} (h : FM Z W) (hk : k + 4 < 34) (g : Fb k W V) : FM Z V := h.tr (fun a ha => g a (by omega))
theorem FC.rf {Z : ZS} : FC Z Z := fun _ _ => rfl
theorem FC.tr {Z W V : ZS} (h : FC Z W) (g : FC W V) : FC Z V := fun a ha => (g a ha).trans (h a ha)
theorem FC.u {Z W : ZS} {k j : Nat} {v : Int} (h : FC Z W) (hk : 34 ≤ k) : FC Z (zu W k j v) := fun a ha => by rw [zu_row (by omega)]; exact h a ha
theorem FC.r {Z W : ZS} {k : Nat} {g : Nat → Int} (h : FC Z W) (hk : 34 ≤ k) : FC Z (zr W k g) := fun a ha => by rw [zr_ne (by omega)]; exact h a ha
theorem BR.ext {Z : ZS} {k : Nat} {f g : Row} (h : BR Z k f) (e : ∀ j, j < 108 → g j = f j) : BR Z k g := by
  obtain ⟨h1, h2, h3, h4, h5, h6, h7⟩ := h
  refine ⟨fun j hj => by rw [e j (by omega)]; exact h1 j hj, by rw [e 6 (by omega)]; exact h2, fun b hb hb2 => ?_, by rw [e 28 (by omega)]; exact h4, fun i hi hi2 p hp => ?_, by rw [e 59 (by omega)]; exact h6, fun i hi hi2 j hj => ?_⟩
  · rw [e 6 (by omega)] at hb2
    rw [e _ (by omega), e _ (by omega), e _ (by omega)]; exact h3 b hb hb2
  · rw [e 28 (by omega)] at hi2
    rw [e _ (by omega)]; exact h5 i hi hi2 p hp
  · rw [e 59 (by omega)] at hi2
    rw [e _ (by omega)]; exact h7 i hi hi2 j hj
theorem RO.ext {B : Int} {f g : Row} (h : RO B f) (e : ∀ j, j < 108 → g j = f j) : RO B g := by
  obtain ⟨h1, h2, h3, h4, h5, h6, h7⟩ := h
  refine ⟨h1.eq (fun j hj => e j (by omega)), by rw [e 6 (by omega)]; exact h2, fun b hb hb2 => ?_, by rw [e 28 (by omega)]; exact h4, fun i hi hi2 => ?_, by rw [e 59 (by omega)]; exact h6, fun i hi hi2 => ?_⟩
  · rw [e 6 (by omega)] at hb2
    unfold BO
    rw [e _ (by omega), e _ (by omega), e _ (by omega)]; exact h3 b hb hb2
  · rw [e 28 (by omega)] at hi2
    unfold NO1
    rw [e _ (by omega), e _ (by omega), e _ (by omega), e _ (by omega), e _ (by omega)]; exact h5 i hi hi2
  · rw [e 59 (by omega)] at hi2
    exact (h7 i hi hi2).eq (fun j hj => e _ (by omega))
theorem r108_at {g f : Row} {j : Nat} (h : j < 108) : r108 g f j = g j := by simp [r108, h]
/-- cells that nothing of the class's state lies in -/
def Sc (Z W : ZS) : Prop := (∀ a, a ≤ 16 ∨ a = 18 → W a = Z a) ∧ W 17 2 = Z 17 2
theorem Sc.rf {Z : ZS} : Sc Z Z := ⟨fun _ _ => rfl, rfl⟩
theorem Sc.tr {Z W V : ZS} (h : Sc Z W) (g : Sc W V) : Sc Z V := ⟨fun a ha => (g.1 a ha).trans (h.1 a ha), g.2.trans h.2⟩
theorem CS.sc {Z W : ZS} {A : AS} (h : CS Z A) (s : Sc Z W) : CS W A := by
  obtain ⟨h1, h2, h3, h4, h5, h6⟩ := h
  refine ⟨h1.eq (fun a q1 q2 => s.1 a (by omega)), ⟨by rw [s.1 16 (by omega)]; exact h2.1, fun q => (h2.2 q).eq (fun a q1 q2 => s.1 a (by omega))⟩, ⟨by rw [s.1 16 (by omega)]; exact h3.1, fun q => (h3.2 q).eq (fun a q1 q2 => s.1 a (by omega))⟩, ⟨s.2.trans h4.1, fun i hi => by rw [s.1 18 (by omega)]; exact h4.2 i hi⟩, ?_, ?_⟩
  · rw [s.1 0 (by omega)]; exact h5
  · rw [s.1 0 (by omega)]; exact h6
theorem CS.fc {Z W : ZS} {A : AS} (h : CS Z A) (g : FC Z W) : CS W A := h.sc ⟨fun a ha => g a (by omega), by rw [g 17 (by omega)]⟩
theorem MS.fm {Z W : ZS} {A : AS} (h : MS Z A) (g : FM Z W) : MS W A := by
  obtain ⟨h1, h2, h3, h4, h5, h6⟩ := h
  unfold MS
  rw [g 35 (by omega), g 39 (by omega), g 38 (by omega), g 34 (by omega), g 41 (by omega), g 40 (by omega)]
  exact ⟨h1, h2, h3, h4, h5, h6⟩
theorem CS.book {Z W : ZS} {A : AS} {f : Row} (h : CS Z A) (hb : BR W 1 f) (hF : Fb 1 Z W) : CS W (sF A f) := by
  obtain ⟨h1, h2, h3, h4, h5, h6⟩ := h
  refine ⟨hb, ⟨by rw [hF 16 (by omega)]; exact h2.1, fun q => (h2.2 q).fr hF (by omega)⟩, ⟨by rw [hF 16 (by omega)]; exact h3.1, fun q => (h3.2 q).fr hF (by omega)⟩, ⟨by rw [hF 17 (by omega)]; exact h4.1, fun i hi => by rw [hF 18 (by omega)]; exact h4.2 i hi⟩, ?_, ?_⟩
  · rw [hF 0 (by omega)]; exact h5
  · rw [hF 0 (by omega)]; exact h6
theorem cs_bad {Z : ZS} {A : AS} (h : CS Z A) : CS (zu Z 0 10 (Z 0 10 + 1)) (aBad A) := by
  obtain ⟨h1, h2, h3, h4, h5, h6⟩ := h
  have e : ∀ a, a ≠ 0 → (zu Z 0 10 (Z 0 10 + 1)) a = Z a := fun a ha => zu_row ha
  refine ⟨h1.eq (fun a q1 q2 => e a (by omega)), ⟨by rw [e 16 (by omega)]; exact h2.1, fun q => (h2.2 q).eq (fun a q1 q2 => e a (by omega))⟩, ⟨by rw [e 16 (by omega)]; exact h3.1, fun q => (h3.2 q).eq (fun a q1 q2 => e a (by omega))⟩, ⟨by rw [e 17 (by omega)]; exact h4.1, fun i hi => by rw [e 18 (by omega)]; exact h4.2 i hi⟩, ⟨by rw [zu_ne (by omega)]; exact h5.1, by rw [zu_ne (by omega)]; exact h5.2⟩, ⟨by rw [zu_eq, h6.1]; rfl, by rw [zu_ne (by omega)]; exact h6.2.1, by rw [zu_ne (by omega)]; exact h6.2.2⟩⟩
theorem cs_no {Z : ZS} {A : AS} (h : CS Z A) : CS (zu Z 0 11 (Z 0 11 + 1)) (aNo A) := by
  obtain ⟨h1, h2, h3, h4, h5, h6⟩ := h
  have e : ∀ a, a ≠ 0 → (zu Z 0 11 (Z 0 11 + 1)) a = Z a := fun a ha => zu_row ha
  refine ⟨h1.eq (fun a q1 q2 => e a (by omega)), ⟨by rw [e 16 (by omega)]; exact h2.1, fun q => (h2.2 q).eq (fun a q1 q2 => e a (by omega))⟩, ⟨by rw [e 16 (by omega)]; exact h3.1, fun q => (h3.2 q).eq (fun a q1 q2 => e a (by omega))⟩, ⟨by rw [e 17 (by omega)]; exact h4.1, fun i hi => by rw [e 18 (by omega)]; exact h4.2 i hi⟩, ⟨by rw [zu_ne (by omega)]; exact h5.1, by rw [zu_ne (by omega)]; exact h5.2⟩, ⟨by rw [zu_ne (by omega)]; exact h6.1, by rw [zu_eq, h6.2.1]; rfl, by rw [zu_ne (by omega)]; exact h6.2.2⟩⟩
theorem cs_full {Z : ZS} {A : AS} (h : CS Z A) : CS (zu Z 0 12 (Z 0 12 + 1)) (aFull A) := by
  obtain ⟨h1, h2, h3, h4, h5, h6⟩ := h
  have e : ∀ a, a ≠ 0 → (zu Z 0 12 (Z 0 12 + 1)) a = Z a := fun a ha => zu_row ha
  refine ⟨h1.eq (fun a q1 q2 => e a (by omega)), ⟨by rw [e 16 (by omega)]; exact h2.1, fun q => (h2.2 q).eq (fun a q1 q2 => e a (by omega))⟩, ⟨by rw [e 16 (by omega)]; exact h3.1, fun q => (h3.2 q).eq (fun a q1 q2 => e a (by omega))⟩, ⟨by rw [e 17 (by omega)]; exact h4.1, fun i hi => by rw [e 18 (by omega)]; exact h4.2 i hi⟩, ⟨by rw [zu_ne (by omega)]; exact h5.1, by rw [zu_ne (by omega)]; exact h5.2⟩, ⟨by rw [zu_ne (by omega)]; exact h6.1, by rw [zu_ne (by omega)]; exact h6.2.1, by rw [zu_eq, h6.2.2]; rfl⟩⟩
theorem AO.mono {B B' : Int} {A : AS} (h : AO B A) (hb : B ≤ B') (hb2 : B' ≤ 60000000) : AO B' A := by
  obtain ⟨h0, h1, h2, h3, h4, h5, h6⟩ := h
  exact ⟨by omega, h1.mono hb, ⟨h2.1, fun q => (h2.2 q).mono hb⟩, ⟨h3.1, fun q => (h3.2 q).mono hb⟩, h4, h5, by omega⟩
theorem AO.f {B : Int} {A : AS} {g : Row} (h : AO B A) (hg : RO B g) : AO B (sF A g) := ⟨h.1, hg, h.2.2⟩
theorem AO.bad {B : Int} {A : AS} (h : AO B A) (hb : B + 1 ≤ 60000000) : AO (B + 1) (aBad A) := by
  obtain ⟨h0, h1, h2, h3, h4, h5, h6⟩ := h.mono (show B ≤ B + 1 by omega) hb
  have := h.2.2.2.2.2.2
  refine ⟨by omega, h1, h2, h3, h4, h5, ?_⟩
  simp only [aBad]
  omega
theorem AO.no {B : Int} {A : AS} (h : AO B A) (hb : B + 1 ≤ 60000000) : AO (B + 1) (aNo A) := by
  obtain ⟨h0, h1, h2, h3, h4, h5, h6⟩ := h.mono (show B ≤ B + 1 by omega) hb
  have := h.2.2.2.2.2.2
  refine ⟨by omega, h1, h2, h3, h4, h5, ?_⟩
  simp only [aNo]
  omega
theorem AO.full {B : Int} {A : AS} (h : AO B A) (hb : B + 1 ≤ 60000000) : AO (B + 1) (aFull A) := by
  obtain ⟨h0, h1, h2, h3, h4, h5, h6⟩ := h.mono (show B ≤ B + 1 by omega) hb
  have := h.2.2.2.2.2.2
  refine ⟨by omega, h1, h2, h3, h4, h5, ?_⟩
  simp only [aFull]
  omega
