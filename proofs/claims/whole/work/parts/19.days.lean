/-! days ahead: where they lie, what is drawn on them, how an account goes through them -/
def dyA (f : Row) (i : Nat) : Int := (f 3 - 1 + i) % 28 + 1
def mnA (f : Row) (i : Nat) : Int := f 4 + (f 3 - 1 + i) / 28
/-- what a bill of a kind, told for a day, draws on the day i ahead -/
def pA (f : Row) (κ told p : Int) (i : Nat) : Int := if dayB κ told = dyA f i then pndB κ p (mnA f i) else 0
/-- what the first n bills draw on it -/
def drA (f : Row) : Nat → Nat → Int
  | 0, _ => 0
  | n + 1, i => drA f n i + pA f (f (7 + n)) (f (14 + n)) (f (21 + n)) i
theorem pA_in {f : Row} {κ told p : Int} {i : Nat} (hp : 0 ≤ p ∧ p ≤ 99) : -99 ≤ pA f κ told p i ∧ pA f κ told p i ≤ 990 := by
  unfold pA
  have := pndB_in (κ := κ) (m := mnA f i) hp
  split <;> omega
theorem drA_in {B : Int} {f : Row} (h : RO B f) (i : Nat) : ∀ n : Nat, n ≤ 7 → (n : Int) ≤ f 6 → -99 * (n : Int) ≤ drA f n i ∧ drA f n i ≤ 990 * (n : Int) := by
  intro n
  induction n with
  | zero => intro _ _; simp [drA]
  | succ n ih =>
    intro h1 h2
    have a := ih (by omega) (by omega)
    have b := h.2.2.1 n (by omega) (by omega)
    have c := pA_in (f := f) (κ := f (7 + n)) (told := f (14 + n)) (i := i) (p := f (21 + n)) (by have := b.2.2; omega)
    simp only [drA]
    omega
/-- the account through days on which g is drawn and sp spent, from a on: what it is, charges, in which day below first, the least, in which day -/
def rL (g : Row) (sp a : Int) : Nat → Int
  | 0 => a
  | i + 1 => if rL g sp a i - (g i + sp) < 0 then rL g sp a i - (g i + sp) - 1 else rL g sp a i - (g i + sp)
def rC (g : Row) (sp a : Int) : Nat → Int
  | 0 => 0
  | i + 1 => if rL g sp a i - (g i + sp) < 0 then rC g sp a i + 1 else rC g sp a i
def rBl (g : Row) (sp a : Int) : Nat → Int
  | 0 => -1
  | i + 1 => if rL g sp a i - (g i + sp) < 0 then (if rBl g sp a i = -1 then (i : Int) + 1 else rBl g sp a i) else rBl g sp a i
def rM (g : Row) (sp a : Int) : Nat → Int
  | 0 => a
  | i + 1 => if i = 0 ∨ rL g sp a (i + 1) < rM g sp a i then rL g sp a (i + 1) else rM g sp a i
def rI (g : Row) (sp a : Int) : Nat → Int
  | 0 => 0
  | i + 1 => if i = 0 ∨ rL g sp a (i + 1) < rM g sp a i then (i : Int) + 1 else rI g sp a i
theorem rL_in {g : Row} {sp a : Int} {m : Nat} (hg : ∀ i, i < m → -1000000 ≤ g i ∧ g i ≤ 1000000) (hs : 0 ≤ sp ∧ sp ≤ 1000) (ha : -1000000000 ≤ a ∧ a ≤ 1000000000) : ∀ i : Nat, i ≤ m → -1000000000 - 1001001 * (i : Int) ≤ rL g sp a i ∧ rL g sp a i ≤ 1000000000 + 1000000 * (i : Int) := by
  intro i
  induction i with
  | zero => intro _; simp [rL]; omega
  | succ i ih =>
    intro h
    have := ih (by omega)
    have := hg i (by omega)
    simp only [rL]
    split <;> omega
theorem rC_in {g : Row} {sp a : Int} : ∀ i : Nat, 0 ≤ rC g sp a i ∧ rC g sp a i ≤ (i : Int) := by
  intro i
  induction i with
  | zero => simp [rC]
  | succ i ih => simp only [rC]; split <;> omega
theorem rBl_in {g : Row} {sp a : Int} : ∀ i : Nat, -1 ≤ rBl g sp a i ∧ rBl g sp a i ≤ (i : Int) := by
  intro i
  induction i with
  | zero => simp [rBl]
  | succ i ih =>
    simp only [rBl]
    split
    · split <;> omega
    · omega
theorem rM_in {g : Row} {sp a : Int} {m : Nat} (hg : ∀ i, i < m → -1000000 ≤ g i ∧ g i ≤ 1000000) (hs : 0 ≤ sp ∧ sp ≤ 1000) (ha : -1000000000 ≤ a ∧ a ≤ 1000000000) : ∀ i : Nat, i ≤ m → -1000000000 - 1001001 * (i : Int) ≤ rM g sp a i ∧ rM g sp a i ≤ 1000000000 + 1000000 * (i : Int) := by
  intro i
  induction i with
  | zero => intro _; simp [rM]; omega
  | succ i ih =>
    intro h
    have := ih (by omega)
    have := rL_in hg hs ha (i + 1) h
    simp only [rM]
    split <;> omega
/-- the outlook's figures set anew -/
def z5 (Z : ZS) (v3 v4 v5 v6 v7 : Int) : ZS := fun a b => if a = 24 then (if b = 3 then v3 else if b = 4 then v4 else if b = 5 then v5 else if b = 6 then v6 else if b = 7 then v7 else Z a b) else Z a b
theorem z5_3 {Z : ZS} {a b c d e x : Int} : zu (z5 Z a b c d e) 24 3 x = z5 Z x b c d e := by
  funext p q; by_cases h : p = 24 <;> by_cases h3 : q = 3 <;> simp [zu, z5, h, h3]
theorem z5_4 {Z : ZS} {a b c d e x : Int} : zu (z5 Z a b c d e) 24 4 x = z5 Z a x c d e := by
  funext p q; by_cases h : p = 24 <;> by_cases h3 : q = 4 <;> simp [zu, z5, h, h3]
theorem z5_5 {Z : ZS} {a b c d e x : Int} : zu (z5 Z a b c d e) 24 5 x = z5 Z a b x d e := by
  funext p q; by_cases h : p = 24 <;> by_cases h3 : q = 5 <;> simp [zu, z5, h, h3]
theorem z5_6 {Z : ZS} {a b c d e x : Int} : zu (z5 Z a b c d e) 24 6 x = z5 Z a b c x e := by
  funext p q; by_cases h : p = 24 <;> by_cases h3 : q = 6 <;> simp [zu, z5, h, h3]
theorem z5_7 {Z : ZS} {a b c d e x : Int} : zu (z5 Z a b c d e) 24 7 x = z5 Z a b c d x := by
  funext p q; by_cases h : p = 24 <;> by_cases h3 : q = 7 <;> simp [zu, z5, h, h3]
theorem z5_in (Z : ZS) : Z = z5 Z (Z 24 3) (Z 24 4) (Z 24 5) (Z 24 6) (Z 24 7) := by
  funext p q
  by_cases h : p = 24
  · subst h
    simp only [z5, if_true]
    by_cases h3 : q = 3
    · subst h3; rfl
    by_cases h4 : q = 4
    · subst h4; rfl
    by_cases h5 : q = 5
    · subst h5; rfl
    by_cases h6 : q = 6
    · subst h6; rfl
    by_cases h7 : q = 7
    · subst h7; rfl
    simp [h3, h4, h5, h6, h7]
  · simp [z5, h]
theorem z5_row {Z : ZS} {a b c d e : Int} {p : Nat} (h : p ≠ 24) : z5 Z a b c d e p = Z p := by funext q; simp [z5, h]
/-- behind a run -/
def zrun (Z : ZS) (sp a : Int) (m : Nat) : ZS := z5 Z (rL (Z 32) sp a m) (rC (Z 32) sp a m) (rM (Z 32) sp a m) (rI (Z 32) sp a m) (rBl (Z 32) sp a m)
/-- a row with what c says added at its first places -/
def zad (Z : ZS) (c : Row) (j m : Nat) : ZS := zr Z 32 (fun i => if i < j ∧ i < m then Z 32 i + c i else Z 32 i)
theorem zad_0 {Z : ZS} {c : Row} {j m : Nat} (h : ∀ i, i < j → i < m → c i = 0) : zad Z c j m = Z := by
  funext a b
  by_cases ha : a = 32
  · subst ha
    by_cases hb : b < j ∧ b < m
    · simp [zad, zr, hb, h b hb.1 hb.2]
    · simp [zad, zr, hb]
  · simp [zad, zr, ha]
theorem zad_s {Z : ZS} {c : Row} {j m : Nat} {v : Int} (hj : j < m) (hv : v = Z 32 j + c j) (h : ∀ i, j < i → i < j + 28 → i < m → c i = 0) : zu (zad Z c j m) 32 j v = zad Z c (j + 28) m := by
  funext a b
  by_cases ha : a = 32
  · subst ha
    by_cases hb : b = j
    · subst hb
      have h2 : b < b + 28 := by omega
      simp [zu, zad, zr, hj, hv, h2]
    · rcases Nat.lt_or_ge b j with h1 | h1
      · have h2 : b < j + 28 := by omega
        simp [zu, zad, zr, hb, h1, h2]
      · have h3 : ¬ b < j := by omega
        by_cases h4 : b < j + 28 ∧ b < m
        · have h5 := h b (by omega) h4.1 h4.2
          simp [zu, zad, zr, hb, h3, h4, h5]
        · simp [zu, zad, zr, hb, h3, h4]
  · simp [zu, zad, zr, ha]
theorem zad_e {Z : ZS} {c : Row} {j m : Nat} (h : m ≤ j) : zad Z c j m = zad Z c m m := by
  funext a b
  by_cases ha : a = 32
  · subst ha
    by_cases hb : b < m
    · have : b < j := by omega
      simp [zad, zr, hb, this]
    · simp [zad, zr, hb]
  · simp [zad, zr, ha]
/-- what is laid for m days: the first n bills -/
def zly (Z : ZS) (f : Row) (m n : Nat) : ZS := zr (zu Z 24 2 (m : Int)) 32 (fun i => if i < m then drA f n i else if i < 99 then 0 else Z 32 i)
theorem zly_s {Z : ZS} {f : Row} {m n : Nat} (hm : m ≤ 99) : zad (zly Z f m n) (fun i => 1 * pA f (f (7 + n)) (f (14 + n)) (f (21 + n)) i) m m = zly Z f m (n + 1) := by
  funext a b
  by_cases ha : a = 32
  · subst ha
    by_cases hb : b < m
    · simp [zad, zly, zr, hb, drA]
    · simp [zad, zly, zr, hb]
  · simp [zad, zly, zr, ha]
theorem zly_0 {Z : ZS} {f : Row} {m : Nat} (hm : m ≤ 99) : zfl (zu Z 24 2 (m : Int)) 32 0 99 = zly Z f m 0 := by
  funext a b
  by_cases ha : a = 32
  · subst ha
    by_cases hb : b < m
    · have : b < 99 := by omega
      simp [zfl, zly, zr, zu, hb, drA, this]
    · by_cases hc : b < 99 <;> simp [zfl, zly, zr, zu, hb, hc]
  · simp [zfl, zly, zr, ha]
theorem zly_br {Z : ZS} {f g : Row} {m n : Nat} (h : BR Z 1 g) : BR (zly Z f m n) 1 g := h.eq (fun a h1 h2 => by rw [zly, zr_ne (by omega), zu_row (by omega)])
