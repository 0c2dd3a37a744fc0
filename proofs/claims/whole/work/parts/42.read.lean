/-! the other one reads -/
def MX (n : Nat) (t : Row) (Z : ZS) : Prop := (n ≤ 150 ∧ ∀ i, i < n → 0 ≤ t i ∧ t i ≤ 127) ∧ Z 34 8 = (n : Int) ∧ ∀ i, i < n → Z 41 i = t i
/-- its words of the token changed, nothing else -/
def FN (Z W : ZS) : Prop := (∀ a, a ≠ 34 → W a = Z a) ∧ (∀ j, j < 10 ∨ 14 < j → W 34 j = Z 34 j)
theorem FN.rf {Z : ZS} : FN Z Z := ⟨fun _ _ => rfl, fun _ _ => rfl⟩
theorem FN.tr {Z W V : ZS} (h : FN Z W) (g : FN W V) : FN Z V := ⟨fun a ha => (g.1 a ha).trans (h.1 a ha), fun j hj => (g.2 j hj).trans (h.2 j hj)⟩
theorem FN.u {Z W : ZS} {j : Nat} {v : Int} (h : FN Z W) (hj : 10 ≤ j ∧ j ≤ 14) : FN Z (zu W 34 j v) := ⟨fun a ha => by rw [zu_row ha]; exact h.1 a ha, fun i hi => by rw [zu_ne (by omega)]; exact h.2 i hi⟩
/-- and its draft -/
def FR (Z W : ZS) : Prop := (∀ a, a ≠ 34 → a ≠ 37 → W a = Z a) ∧ (∀ j, j < 10 → W 34 j = Z 34 j)
theorem FR.rf {Z : ZS} : FR Z Z := ⟨fun _ _ _ => rfl, fun _ _ => rfl⟩
theorem FR.tr {Z W V : ZS} (h : FR Z W) (g : FR W V) : FR Z V := ⟨fun a ha hb => (g.1 a ha hb).trans (h.1 a ha hb), fun j hj => (g.2 j hj).trans (h.2 j hj)⟩
theorem FR.n {Z W : ZS} (h : FN Z W) : FR Z W := ⟨fun a ha _ => h.1 a ha, fun j hj => h.2 j (Or.inl hj)⟩
theorem FR.d {Z : ZS} {j : Nat} {v : Int} : FR Z (zu Z 37 j v) := ⟨fun a _ hb => zu_row hb, fun j _ => by rw [zu_row (by decide)]⟩
theorem FR.r {Z : ZS} {g : Row} : FR Z (zr Z 37 g) := ⟨fun a _ hb => zr_ne hb, fun j _ => by rw [zr_ne (by decide)]⟩
theorem FR.w {Z : ZS} {j : Nat} {v : Int} (hj : 10 ≤ j) : FR Z (zu Z 34 j v) := ⟨fun a ha _ => zu_row ha, fun i hi => zu_ne (by omega)⟩
theorem MX.fr {n : Nat} {t : Row} {Z W : ZS} (h : MX n t Z) (g : FR Z W) : MX n t W := ⟨h.1, by rw [g.2 8 (by omega)]; exact h.2.1, fun i hi => by rw [g.1 41 (by omega) (by omega)]; exact h.2.2 i hi⟩
theorem MX.fn {n : Nat} {t : Row} {Z W : ZS} (h : MX n t Z) (g : FN Z W) : MX n t W := h.fr (FR.n g)
def cK (n : Nat) (t : Row) (k : Nat) : Int := if k < n then (if 97 ≤ t k ∧ t k ≤ 122 then 1 else if 48 ≤ t k ∧ t k ≤ 57 then 2 else 0) else 0
theorem cK_in {n : Nat} {t : Row} {k : Nat} : 0 ≤ cK n t k ∧ cK n t k ≤ 2 := by
  unfold cK; (repeat' split) <;> omega
/-- a word's number, a number's -/
def wdF (t : Row) (s : Nat) : Nat → Int
  | 0 => 0
  | m + 1 => if m < 7 then 256 * wdF t s m + t (s + m) else -1
def nbF (t : Row) (s : Nat) : Nat → Int
  | 0 => 0
  | m + 1 => if m < 2 then 10 * nbF t s m + t (s + m) - 48 else nbF t s m
theorem wdF_in {t : Row} {s : Nat} : ∀ m, m ≤ 7 → (∀ k, k < m → 0 ≤ t (s + k) ∧ t (s + k) ≤ 127) → 0 ≤ wdF t s m ∧ wdF t s m ≤ 72057594037927935 ∧ (m ≤ 6 → wdF t s m ≤ 281474976710655) := by
  intro m h1 h2
  match m, h1, h2 with
  | 0, _, _ => simp [wdF]
  | 1, _, h2 => have a0 := h2 0 (by omega); simp only [wdF]; omega
  | 2, _, h2 => have a0 := h2 0 (by omega); have a1 := h2 1 (by omega); simp only [wdF]; omega
  | 3, _, h2 => have a0 := h2 0 (by omega); have a1 := h2 1 (by omega); have a2 := h2 2 (by omega); simp only [wdF]; omega
  | 4, _, h2 => have a0 := h2 0 (by omega); have a1 := h2 1 (by omega); have a2 := h2 2 (by omega); have a3 := h2 3 (by omega); simp only [wdF]; omega
  | 5, _, h2 => have a0 := h2 0 (by omega); have a1 := h2 1 (by omega); have a2 := h2 2 (by omega); have a3 := h2 3 (by omega); have a4 := h2 4 (by omega); simp only [wdF]; omega
  | 6, _, h2 => have a0 := h2 0 (by omega); have a1 := h2 1 (by omega); have a2 := h2 2 (by omega); have a3 := h2 3 (by omega); have a4 := h2 4 (by omega); have a5 := h2 5 (by omega); simp only [wdF]; omega
  | 7, _, h2 => have a0 := h2 0 (by omega); have a1 := h2 1 (by omega); have a2 := h2 2 (by omega); have a3 := h2 3 (by omega); have a4 := h2 4 (by omega); have a5 := h2 5 (by omega); have a6 := h2 6 (by omega); simp only [wdF]; omega
  | m + 8, h1, _ => omega
theorem wdF_hi {t : Row} {s m : Nat} (h : 7 < m) : wdF t s m = -1 := by
  obtain ⟨k, rfl⟩ : ∃ k, m = k + 1 := ⟨m - 1, by omega⟩
  rw [wdF, if_neg (by omega)]
theorem wdF_rg {t : Row} {s m : Nat} (h : ∀ k, k < m → 0 ≤ t (s + k) ∧ t (s + k) ≤ 127) : -9223372036854775808 ≤ wdF t s m ∧ wdF t s m ≤ 9223372036854775807 := by
  by_cases q : m ≤ 7
  · have := wdF_in m q h; omega
  · rw [wdF_hi (by omega)]; omega
theorem wdF_pos {t : Row} {s m : Nat} (hm : m < 7) (h : ∀ k, k < m + 1 → 97 ≤ t (s + k) ∧ t (s + k) ≤ 122) : 0 < wdF t s (m + 1) := by
  have a := wdF_in (t := t) (s := s) m (by omega) (fun k hk => by have := h k (by omega); omega)
  have b := h m (by omega)
  rw [wdF, if_pos hm]; omega
theorem wdF_inj {t u : Row} {s v : Nat} : ∀ m l, m ≤ 7 → l ≤ 7 → (∀ k, k < m → 97 ≤ t (s + k) ∧ t (s + k) ≤ 122) → (∀ k, k < l → 97 ≤ u (v + k) ∧ u (v + k) ≤ 122) → wdF t s m = wdF u v l → m = l ∧ ∀ k, k < m → t (s + k) = u (v + k) := by
  intro m
  induction m with
  | zero =>
    intro l _ hl _ h2 e
    cases l with
    | zero => exact ⟨rfl, fun k hk => absurd hk (Nat.not_lt_zero k)⟩
    | succ l =>
      have := wdF_pos (by omega) h2
      rw [← e] at this
      exact absurd this (by simp [wdF])
  | succ m ih =>
    intro l hm hl h1 h2 e
    cases l with
    | zero =>
      have := wdF_pos (by omega) h1
      rw [e] at this
      exact absurd this (by simp [wdF])
    | succ l =>
      rw [wdF, wdF, if_pos (by omega), if_pos (by omega)] at e
      have a := h1 m (by omega)
      have b := h2 l (by omega)
      have c : wdF t s m = wdF u v l ∧ t (s + m) = u (v + l) := by omega
      obtain ⟨rfl, g⟩ := ih l (by omega) (by omega) (fun k hk => h1 k (by omega)) (fun k hk => h2 k (by omega)) c.1
      refine ⟨rfl, fun k hk => ?_⟩
      by_cases q : k = m
      · rw [q]; exact c.2
      · exact g k (by omega)
def cd (i : Nat) : Int := wdF (sB i) 0 (sL i)
theorem cd0 : cd 0 = 27412351463812724 := by decide +kernel
theorem cd1 : cd 1 = 1651076204 := by decide +kernel
theorem cd2 : cd 2 = 495806934628 := by decide +kernel
theorem cd3 : cd 3 = 6971762 := by decide +kernel
/-- letters of a word -/
theorem tK1_all {n : Nat} {t : Row} {p : Nat} (h : tK n t p = 1) {k : Nat} (hk : k < tE n t p - tS n t p) : 97 ≤ t (tS n t p + k) ∧ t (tS n t p + k) ≤ 122 := by
  have q := tK_lt (n := n) (t := t) (p := p) (by omega)
  have c : 97 ≤ t (tS n t p) ∧ t (tS n t p) ≤ 122 := by
    refine Decidable.byContradiction (fun z => ?_)
    unfold tK at h
    rw [if_pos q, if_neg z] at h
    split at h
    · split at h <;> omega
    · split at h <;> omega
  have e : tE n t p = sk n t 97 122 (tS n t p) := by unfold tE; rw [if_pos q, if_pos c]
  rw [e] at hk
  exact (sk_all (n := n) (t := t) (lo := 97) (hi := 122) (p := tS n t p) (x := tS n t p + k) (by omega) (by omega)).2
theorem spB_iff {n : Nat} {t : Row} {p i : Nat} (hi : i < 4) (h : tK n t p = 1) : wdF t (tS n t p) (tE n t p - tS n t p) = cd i ↔ spB n t p i := by
  have hl := sL_in i hi
  constructor
  · intro e
    by_cases q : tE n t p - tS n t p ≤ 7
    · obtain ⟨g1, g2⟩ := wdF_inj (u := sB i) (v := 0) _ (sL i) q hl.2 (fun k hk => tK1_all h hk) (fun k hk => by rw [Nat.zero_add]; exact sB_in i hi k hk) e
      exact ⟨h, g1, fun k hk => by have := g2 k (by omega); rwa [Nat.zero_add] at this⟩
    · rw [wdF_hi (by omega)] at e
      have := wdF_in (t := sB i) (s := 0) (sL i) hl.2 (fun k hk => by rw [Nat.zero_add]; have := sB_in i hi k hk; omega)
      unfold cd at e
      omega
  · rintro ⟨_, g1, g2⟩
    rw [g1]
    unfold cd
    have key : ∀ m, m ≤ sL i → wdF t (tS n t p) m = wdF (sB i) 0 m := by
      intro m
      induction m with
      | zero => intro _; rfl
      | succ m ih => intro hm; rw [wdF, wdF, ih (by omega), g2 m (by omega), Nat.zero_add]
    exact key _ (Nat.le_refl _)
theorem nbF_tV {n : Nat} {t : Row} {p : Nat} (h : tK n t p = 2) : nbF t (tS n t p) (tE n t p - tS n t p) = tV n t p := by
  have q := tK_lt (n := n) (t := t) (p := p) (by omega)
  have g := tE_gt (n := n) (t := t) (p := p) (by omega)
  have e : tE n t p - tS n t p = 1 ∨ tE n t p - tS n t p = 2 := by
    unfold tK at h
    rw [if_pos q] at h
    split at h
    · omega
    · rename_i c1
      split at h
      · rename_i c2
        have e : tE n t p = sk n t 48 57 (tS n t p) := by unfold tE; rw [if_pos q, if_neg c1, if_pos c2]
        split at h <;> omega
      · split at h <;> omega
  unfold tV
  rcases e with e | e
  · rw [e, if_pos rfl]; simp only [nbF]; rw [if_pos (by omega)]; simp
  · rw [e, if_neg (by omega)]; simp only [nbF]; rw [if_pos (by omega), if_pos (by omega)]; simp
def MK (n : Nat) (t : Row) (p : Nat) (Z : ZS) : Prop := MX n t Z ∧ p ≤ n ∧ Z 34 11 = (tS n t p : Int) ∧ Z 34 10 = (tE n t p : Int) ∧ Z 34 12 = tK n t p ∧ (tK n t p = 2 → Z 34 13 = tV n t p) ∧ (tK n t p = 1 → Z 34 14 = wdF t (tS n t p) (tE n t p - tS n t p))

set_option maxRecDepth 20000 in
set_option maxHeartbeats 4000000 in
theorem m_kindAt (G : Wd) (Z : ZS) (n : Nat) (t : Row) (hT : MX n t Z) (x : Int) (q : Nat) (hx : x = (q : Int)) (hq : q ≤ n) : Cn G mX11_kindAt 0 [some (.ref 34), some (iv (x)), none] [] Z (qi (fun r W => cK n t q = r ∧ Z = W)) := by
  have hn := hT.1.1
  refine cz_iload_n (pc' := 1) (g_d dtbX11_kindAt_0 0 rfl) rfl rfl ?_
  refine cz_aload_n (pc' := 2) (g_d dtbX11_kindAt_0 1 rfl) rfl rfl ?_
  refine nz_getf (v := iv ((n : Int))) (pc' := 5) (g_d dtbX11_kindAt_0 2 rfl) gf_X11_55 (by decide) rfl (congrArg iv (hT.2.1)) rfl ?_
  refine nz_icmp_ge (tgt := 17) (pc' := 8) (g_d dtbX11_kindAt_0 3 rfl) (by omega) (by omega) rfl rfl (fun h5 => ?_) (fun h5 => ?_)
  · refine nz_iconst (pc' := 18) (g_d dtbX11_kindAt_0 9 rfl) rfl ?_
    refine cz_istore_n (L' := [some (.ref 34), some (iv (x)), some (iv 0)]) (pc' := 19) (g_d dtbX11_kindAt_0 10 rfl) (by decide) rfl rfl ?_
    refine cz_iload_n (pc' := 20) (g_d dtbX11_kindAt_0 11 rfl) rfl rfl ?_
    refine nz_bipush (pc' := 22) (g_d dtbX11_kindAt_0 12 rfl) (by decide) rfl ?_
    refine nz_bipush (pc' := 24) (g_d dtbX11_kindAt_0 13 rfl) (by decide) rfl ?_
    refine nz_cSi (M' := mX11_in) (As := [iv 0, iv 97, iv 122]) (S := []) (L := [some (.ref 34), some (iv (x)), some (iv 0)]) (pc' := 27) (g_d dtbX11_kindAt_0 14 rfl) lk_X11_40 okX11_in rfl rfl (Nat.le_of_ble_eq_true rfl) (Nat.le_of_ble_eq_true rfl) (by decide) rfl (m_in G Z 0 97 122 (by omega) (by omega) (by omega)) ?_
    rintro _ _ ⟨rfl, ⟨rfl, hw24⟩ | ⟨rfl, hw24⟩⟩
    · refine nz_if_eq_f (pc' := 30) (g_d dtbX11_kindAt_0 15 rfl) (by omega) (by decide) rfl (by omega) ?_
      refine nz_iconst (pc' := 31) (g_d dtbX11_kindAt_0 16 rfl) rfl ?_
      refine cz_goto (pc' := 50) (g_d dtbX11_kindAt_0 17 rfl) rfl ?_
      refine nz_ri .int (g_d dtbX11_kindAt_0 26 rfl) rfl rfl ?_
      exact ⟨by unfold cK; first | (rw [if_pos (by omega), if_pos (by omega)]; done) | (rw [if_pos (by omega), if_neg (by omega), if_pos (by omega)]; done) | (rw [if_pos (by omega), if_neg (by omega), if_neg (by omega)]; done) | (rw [if_neg (by omega)]; done) | (exfalso; omega), rfl⟩
    · refine nz_if_eq_t (tgt := 34) (g_d dtbX11_kindAt_0 15 rfl) (by omega) rfl (by omega) ?_
      refine cz_iload_n (pc' := 35) (g_d dtbX11_kindAt_0 18 rfl) rfl rfl ?_
      refine nz_bipush (pc' := 37) (g_d dtbX11_kindAt_0 19 rfl) (by decide) rfl ?_
      refine nz_bipush (pc' := 39) (g_d dtbX11_kindAt_0 20 rfl) (by decide) rfl ?_
      refine nz_cSi (M' := mX11_in) (As := [iv 0, iv 48, iv 57]) (S := []) (L := [some (.ref 34), some (iv (x)), some (iv 0)]) (pc' := 42) (g_d dtbX11_kindAt_0 21 rfl) lk_X11_40 okX11_in rfl rfl (Nat.le_of_ble_eq_true rfl) (Nat.le_of_ble_eq_true rfl) (by decide) rfl (m_in G Z 0 48 57 (by omega) (by omega) (by omega)) ?_
      rintro _ _ ⟨rfl, ⟨rfl, hw39⟩ | ⟨rfl, hw39⟩⟩
      · refine nz_if_eq_f (pc' := 45) (g_d dtbX11_kindAt_0 22 rfl) (by omega) (by decide) rfl (by omega) ?_
        refine nz_iconst (pc' := 46) (g_d dtbX11_kindAt_0 23 rfl) rfl ?_
        refine cz_goto (pc' := 50) (g_d dtbX11_kindAt_0 24 rfl) rfl ?_
        refine nz_ri .int (g_d dtbX11_kindAt_0 26 rfl) rfl rfl ?_
        exact ⟨by unfold cK; first | (rw [if_pos (by omega), if_pos (by omega)]; done) | (rw [if_pos (by omega), if_neg (by omega), if_pos (by omega)]; done) | (rw [if_pos (by omega), if_neg (by omega), if_neg (by omega)]; done) | (rw [if_neg (by omega)]; done) | (exfalso; omega), rfl⟩
      · refine nz_if_eq_t (tgt := 49) (g_d dtbX11_kindAt_0 22 rfl) (by omega) rfl (by omega) ?_
        refine nz_iconst (pc' := 50) (g_d dtbX11_kindAt_0 25 rfl) rfl ?_
        refine nz_ri .int (g_d dtbX11_kindAt_0 26 rfl) rfl rfl ?_
        exact ⟨by unfold cK; first | (rw [if_pos (by omega), if_pos (by omega)]; done) | (rw [if_pos (by omega), if_neg (by omega), if_pos (by omega)]; done) | (rw [if_pos (by omega), if_neg (by omega), if_neg (by omega)]; done) | (rw [if_neg (by omega)]; done) | (exfalso; omega), rfl⟩
  · have htq := hT.1.2 q (by omega)
    refine cz_aload_n (pc' := 9) (g_d dtbX11_kindAt_0 4 rfl) rfl rfl ?_
    refine nz_getf (v := .ref 41) (pc' := 12) (g_d dtbX11_kindAt_0 5 rfl) gf_X11_33 (by decide) rfl rfl rfl ?_
    refine cz_iload_n (pc' := 13) (g_d dtbX11_kindAt_0 6 rfl) rfl rfl ?_
    refine nz_iald q (pc' := 14) (g_d dtbX11_kindAt_0 7 rfl) (by decide) rfl (by omega) (by omega) (by omega) rfl ?_
    rw [show Z 41 q = t q from hT.2.2 q (by omega)]
    refine cz_goto (pc' := 18) (g_d dtbX11_kindAt_0 8 rfl) rfl ?_
    refine cz_istore_n (L' := [some (.ref 34), some (iv (x)), some (iv (t q))]) (pc' := 19) (g_d dtbX11_kindAt_0 10 rfl) (by decide) rfl rfl ?_
    refine cz_iload_n (pc' := 20) (g_d dtbX11_kindAt_0 11 rfl) rfl rfl ?_
    refine nz_bipush (pc' := 22) (g_d dtbX11_kindAt_0 12 rfl) (by decide) rfl ?_
    refine nz_bipush (pc' := 24) (g_d dtbX11_kindAt_0 13 rfl) (by decide) rfl ?_
    refine nz_cSi (M' := mX11_in) (As := [iv (t q), iv 97, iv 122]) (S := []) (L := [some (.ref 34), some (iv (x)), some (iv (t q))]) (pc' := 27) (g_d dtbX11_kindAt_0 14 rfl) lk_X11_40 okX11_in rfl rfl (Nat.le_of_ble_eq_true rfl) (Nat.le_of_ble_eq_true rfl) (by decide) rfl (m_in G Z (t q) 97 122 (by omega) (by omega) (by omega)) ?_
    rintro _ _ ⟨rfl, ⟨rfl, hw24⟩ | ⟨rfl, hw24⟩⟩
    · refine nz_if_eq_f (pc' := 30) (g_d dtbX11_kindAt_0 15 rfl) (by omega) (by decide) rfl (by omega) ?_
      refine nz_iconst (pc' := 31) (g_d dtbX11_kindAt_0 16 rfl) rfl ?_
      refine cz_goto (pc' := 50) (g_d dtbX11_kindAt_0 17 rfl) rfl ?_
      refine nz_ri .int (g_d dtbX11_kindAt_0 26 rfl) rfl rfl ?_
      exact ⟨by unfold cK; first | (rw [if_pos (by omega), if_pos (by omega)]; done) | (rw [if_pos (by omega), if_neg (by omega), if_pos (by omega)]; done) | (rw [if_pos (by omega), if_neg (by omega), if_neg (by omega)]; done) | (rw [if_neg (by omega)]; done) | (exfalso; omega), rfl⟩
    · refine nz_if_eq_t (tgt := 34) (g_d dtbX11_kindAt_0 15 rfl) (by omega) rfl (by omega) ?_
      refine cz_iload_n (pc' := 35) (g_d dtbX11_kindAt_0 18 rfl) rfl rfl ?_
      refine nz_bipush (pc' := 37) (g_d dtbX11_kindAt_0 19 rfl) (by decide) rfl ?_
      refine nz_bipush (pc' := 39) (g_d dtbX11_kindAt_0 20 rfl) (by decide) rfl ?_
      refine nz_cSi (M' := mX11_in) (As := [iv (t q), iv 48, iv 57]) (S := []) (L := [some (.ref 34), some (iv (x)), some (iv (t q))]) (pc' := 42) (g_d dtbX11_kindAt_0 21 rfl) lk_X11_40 okX11_in rfl rfl (Nat.le_of_ble_eq_true rfl) (Nat.le_of_ble_eq_true rfl) (by decide) rfl (m_in G Z (t q) 48 57 (by omega) (by omega) (by omega)) ?_
      rintro _ _ ⟨rfl, ⟨rfl, hw39⟩ | ⟨rfl, hw39⟩⟩
      · refine nz_if_eq_f (pc' := 45) (g_d dtbX11_kindAt_0 22 rfl) (by omega) (by decide) rfl (by omega) ?_
        refine nz_iconst (pc' := 46) (g_d dtbX11_kindAt_0 23 rfl) rfl ?_
        refine cz_goto (pc' := 50) (g_d dtbX11_kindAt_0 24 rfl) rfl ?_
        refine nz_ri .int (g_d dtbX11_kindAt_0 26 rfl) rfl rfl ?_
        exact ⟨by unfold cK; first | (rw [if_pos (by omega), if_pos (by omega)]; done) | (rw [if_pos (by omega), if_neg (by omega), if_pos (by omega)]; done) | (rw [if_pos (by omega), if_neg (by omega), if_neg (by omega)]; done) | (rw [if_neg (by omega)]; done) | (exfalso; omega), rfl⟩
      · refine nz_if_eq_t (tgt := 49) (g_d dtbX11_kindAt_0 22 rfl) (by omega) rfl (by omega) ?_
        refine nz_iconst (pc' := 50) (g_d dtbX11_kindAt_0 25 rfl) rfl ?_
        refine nz_ri .int (g_d dtbX11_kindAt_0 26 rfl) rfl rfl ?_
        exact ⟨by unfold cK; first | (rw [if_pos (by omega), if_pos (by omega)]; done) | (rw [if_pos (by omega), if_neg (by omega), if_pos (by omega)]; done) | (rw [if_pos (by omega), if_neg (by omega), if_neg (by omega)]; done) | (rw [if_neg (by omega)]; done) | (exfalso; omega), rfl⟩

set_option maxRecDepth 20000 in
set_option maxHeartbeats 4000000 in
theorem l_nt0 (G : Wd) (n : Nat) (t : Row) (Q : Option Value → ZS → Prop) : ∀ (d x : Nat) (Z : ZS), n - x = d → MX n t Z → x ≤ n → Z 34 10 = (x : Int) → (∀ W, FN Z W → W 34 10 = (sk n t 32 32 x : Int) → Cn G mX11_nextToken 38 [some (.ref 34), none] [] W Q) → Cn G mX11_nextToken 0 [some (.ref 34), none] [] Z Q := by
  intro d
  induction d using Nat.strongRecOn with
  | ind d ih =>
    intro x Z hd hT hx h4 hk
    have hn := hT.1.1
    refine cz_aload_n (pc' := 1) (g_d dtbX11_nextToken_0 0 rfl) rfl rfl ?_
    refine nz_getf (v := iv ((x : Int))) (pc' := 4) (g_d dtbX11_nextToken_0 1 rfl) gf_X11_59 (by decide) rfl (congrArg iv (h4)) rfl ?_
    refine cz_aload_n (pc' := 5) (g_d dtbX11_nextToken_0 2 rfl) rfl rfl ?_
    refine nz_getf (v := iv ((n : Int))) (pc' := 8) (g_d dtbX11_nextToken_0 3 rfl) gf_X11_55 (by decide) rfl (congrArg iv (hT.2.1)) rfl ?_
    refine nz_icmp_ge (tgt := 38) (pc' := 11) (g_d dtbX11_nextToken_0 4 rfl) (by omega) (by omega) rfl rfl (fun h8 => ?_) (fun h8 => ?_)
    · exact hk Z FN.rf (by rw [sk_no (p := x) (by omega)]; exact h4)
    · have htx := hT.1.2 x (by omega)
      refine cz_aload_n (pc' := 12) (g_d dtbX11_nextToken_0 5 rfl) rfl rfl ?_
      refine nz_getf (v := .ref 41) (pc' := 15) (g_d dtbX11_nextToken_0 6 rfl) gf_X11_33 (by decide) rfl rfl rfl ?_
      refine cz_aload_n (pc' := 16) (g_d dtbX11_nextToken_0 7 rfl) rfl rfl ?_
      refine nz_getf (v := iv ((x : Int))) (pc' := 19) (g_d dtbX11_nextToken_0 8 rfl) gf_X11_59 (by decide) rfl (congrArg iv (h4)) rfl ?_
      refine nz_iald x (pc' := 20) (g_d dtbX11_nextToken_0 9 rfl) (by decide) rfl (by omega) (by rfl) (by omega) rfl ?_
      rw [show Z 41 x = t x from hT.2.2 x (by omega)]
      refine nz_bipush (pc' := 22) (g_d dtbX11_nextToken_0 10 rfl) (by decide) rfl ?_
      refine nz_icmp_ne (tgt := 38) (pc' := 25) (g_d dtbX11_nextToken_0 11 rfl) (by omega) (by omega) rfl rfl (fun h22 => ?_) (fun h22 => ?_)
      · exact hk Z FN.rf (by rw [sk_no (p := x) (by omega)]; exact h4)
      · refine cz_aload_n (pc' := 26) (g_d dtbX11_nextToken_0 12 rfl) rfl rfl ?_
        refine cz_dup (pc' := 27) (g_d dtbX11_nextToken_0 13 rfl) rfl rfl ?_
        refine nz_getf (v := iv ((x : Int))) (pc' := 30) (g_d dtbX11_nextToken_0 14 rfl) gf_X11_59 (by decide) rfl (congrArg iv (h4)) rfl ?_
        refine nz_iconst (pc' := 31) (g_d dtbX11_nextToken_0 15 rfl) rfl ?_
        refine nz_iadd (pc' := 32) (g_d dtbX11_nextToken_0 16 rfl) rfl ?_
        refine nz_puti (pc' := 35) (g_d dtbX11_nextToken_0 17 rfl) pf_X11_59 rfl (by decide) rfl rfl ?_
        refine cz_goto (pc' := 0) (g_d dtbX11_nextToken_0 18 rfl) rfl ?_
        exact ih (n - (x + 1)) (by omega) (x + 1) (zu Z 34 10 (((x : Int)) + 1)) rfl (hT.fn (FN.rf.u (by decide))) (by omega) (zu_eq.trans (by omega)) (fun W h1 h2 => hk W ((FN.rf.u (by decide)).tr h1) (by rw [h2, sk_go (p := x) (by omega)]))

def lk2 (κ lo hi : Int) : Prop := (κ = 1 ∧ lo = 97 ∧ hi = 122) ∨ (κ = 2 ∧ lo = 48 ∧ hi = 57)
theorem cK_eq {n : Nat} {t : Row} {x : Nat} {κ lo hi : Int} (h : lk2 κ lo hi) : cK n t x = κ ↔ (x < n ∧ lo ≤ t x ∧ t x ≤ hi) := by
  unfold cK
  rcases h with ⟨rfl, rfl, rfl⟩ | ⟨rfl, rfl, rfl⟩ <;> (repeat' split) <;> omega

set_option maxRecDepth 20000 in
set_option maxHeartbeats 4000000 in
theorem l_nt2 (G : Wd) (n : Nat) (t : Row) (Q : Option Value → ZS → Prop) (κ lo hi : Int) (hl : lk2 κ lo hi) (s : Nat) : ∀ (d x : Nat) (Z : ZS), n - x = d → MX n t Z → x ≤ n → s ≤ x → Z 34 10 = (x : Int) → Z 34 11 = (s : Int) → Z 34 12 = κ → Z 34 13 = nbF t s (x - s) → Z 34 14 = wdF t s (x - s) → (∀ W, FN Z W → W 34 10 = (sk n t lo hi x : Int) → W 34 11 = (s : Int) → W 34 12 = κ → W 34 13 = nbF t s (sk n t lo hi x - s) → W 34 14 = wdF t s (sk n t lo hi x - s) → Cn G mX11_nextToken 235 [some (.ref 34), none] [] W Q) → Cn G mX11_nextToken 126 [some (.ref 34), none] [] Z Q := by
  intro d
  induction d using Nat.strongRecOn with
  | ind d ih =>
    intro x Z hd hT hx hsx0 h10 h11 h12 h13 h14 hk
    have hn := hT.1.1
    have hκ : 1 ≤ κ ∧ κ ≤ 2 := by unfold lk2 at hl; omega
    refine cz_aload_n (pc' := 127) (g_d dtbX11_nextToken_1 6 rfl) rfl rfl ?_
    refine cz_aload_n (pc' := 128) (g_d dtbX11_nextToken_1 7 rfl) rfl rfl ?_
    refine nz_getf (v := iv ((x : Int))) (pc' := 131) (g_d dtbX11_nextToken_1 8 rfl) gf_X11_59 (by decide) rfl (congrArg iv (h10)) rfl ?_
    refine nz_cVi (M' := mX11_kindAt) (k := 34) (As := [iv ((x : Int))]) (S := []) (L := [some (.ref 34), none]) (pc' := 134) (g_d dtbX11_nextToken_1 9 rfl) lk_X11_74 okX11_kindAt (by decide) rfl rfl rfl rfl (Nat.le_of_ble_eq_true rfl) (Nat.le_of_ble_eq_true rfl) (by decide) rfl (m_kindAt G Z n t hT _ x rfl hx) ?_
    rintro _ _ ⟨rfl, rfl⟩
    have hcI := cK_in (n := n) (t := t) (k := x)
    refine cz_aload_n (pc' := 135) (g_d dtbX11_nextToken_1 10 rfl) rfl rfl ?_
    refine nz_getf (v := iv (κ)) (pc' := 138) (g_d dtbX11_nextToken_1 11 rfl) gf_X11_71 (by decide) rfl (congrArg iv (h12)) rfl ?_
    refine nz_icmp_ne (tgt := 235) (pc' := 141) (g_d dtbX11_nextToken_1 12 rfl) (by omega) (by omega) rfl rfl (fun h138 => ?_) (fun h138 => ?_)
    · have hx2 : ¬ (x < n ∧ lo ≤ t x ∧ t x ≤ hi) := fun q => h138 ((cK_eq hl).mpr q)
      exact hk Z FN.rf (by rw [sk_no (p := x) hx2]; exact h10) h11 h12 (by rw [sk_no (p := x) hx2]; exact h13) (by rw [sk_no (p := x) hx2]; exact h14)
    · have hx2 := (cK_eq hl).mp h138
      have htx := hT.1.2 x hx2.1
      have hsx : s + (x - s) = x := by omega
      refine cz_aload_n (pc' := 142) (g_d dtbX11_nextToken_1 13 rfl) rfl rfl ?_
      refine nz_getf (v := iv ((x : Int))) (pc' := 145) (g_d dtbX11_nextToken_1 14 rfl) gf_X11_59 (by decide) rfl (congrArg iv (h10)) rfl ?_
      refine cz_aload_n (pc' := 146) (g_d dtbX11_nextToken_1 15 rfl) rfl rfl ?_
      refine nz_getf (v := iv ((s : Int))) (pc' := 149) (g_d dtbX11_nextToken_1 16 rfl) gf_X11_62 (by decide) rfl (congrArg iv (h11)) rfl ?_
      refine nz_isub (pc' := 150) (g_d dtbX11_nextToken_1 17 rfl) rfl ?_
      refine cz_istore_n (L' := [some (.ref 34), some (iv (((x : Int)) - ((s : Int))))]) (pc' := 151) (g_d dtbX11_nextToken_1 18 rfl) (by decide) rfl rfl ?_
      refine cz_aload_n (pc' := 152) (g_d dtbX11_nextToken_1 19 rfl) rfl rfl ?_
      refine cz_iload_n (pc' := 153) (g_d dtbX11_nextToken_1 20 rfl) rfl rfl ?_
      refine nz_bipush (pc' := 155) (g_d dtbX11_nextToken_1 21 rfl) (by decide) rfl ?_
      refine nz_icmp_ge (tgt := 180) (pc' := 158) (g_d dtbX11_nextToken_1 22 rfl) (by omega) (by omega) rfl rfl (fun h155 => ?_) (fun h155 => ?_)
      · refine nz_ldc2 (pc' := 183) (v := -1) (g_d dtbX11_nextToken_1 35 rfl) kn_X11_80 rfl ?_
        refine nz_putl (pc' := 186) (g_d dtbX11_nextToken_1 36 rfl) pf_X11_65 rfl (by decide) rfl rfl ?_
        refine cz_aload_n (pc' := 187) (g_d dtbX11_nextToken_1 37 rfl) rfl rfl ?_
        refine cz_iload_n (pc' := 188) (g_d dtbX11_nextToken_1 38 rfl) rfl rfl ?_
        refine nz_iconst (pc' := 189) (g_d dtbX11_nextToken_1 39 rfl) rfl ?_
        refine nz_icmp_ge (tgt := 215) (pc' := 192) (g_d dtbX11_nextToken_1 40 rfl) (by omega) (by omega) rfl rfl (fun h189 => ?_) (fun h189 => ?_)
        · refine cz_aload_n (pc' := 216) (g_d dtbX11_nextToken_1 54 rfl) rfl rfl ?_
          refine nz_getf (v := iv (nbF t s (x - s))) (pc' := 219) (g_d dtbX11_nextToken_1 55 rfl) gf_X11_68 (by decide) rfl (congrArg iv (by rw [show (zu Z 34 14 (-1)) 34 13 = Z 34 13 from by simp [zu]]; exact h13)) rfl ?_
          refine nz_puti (pc' := 222) (g_d dtbX11_nextToken_1 56 rfl) pf_X11_68 rfl (by decide) rfl rfl ?_
          refine cz_aload_n (pc' := 223) (g_d dtbX11_nextToken_1 57 rfl) rfl rfl ?_
          refine cz_dup (pc' := 224) (g_d dtbX11_nextToken_1 58 rfl) rfl rfl ?_
          refine nz_getf (v := iv ((x : Int))) (pc' := 227) (g_d dtbX11_nextToken_1 59 rfl) gf_X11_59 (by decide) rfl (congrArg iv (by rw [show (zu (zu Z 34 14 (-1)) 34 13 (nbF t s (x - s))) 34 10 = Z 34 10 from by simp [zu]]; exact h10)) rfl ?_
          refine nz_iconst (pc' := 228) (g_d dtbX11_nextToken_2 0 rfl) rfl ?_
          refine nz_iadd (pc' := 229) (g_d dtbX11_nextToken_2 1 rfl) rfl ?_
          refine nz_puti (pc' := 232) (g_d dtbX11_nextToken_2 2 rfl) pf_X11_59 rfl (by decide) rfl rfl ?_
          refine cz_goto (pc' := 126) (g_d dtbX11_nextToken_2 3 rfl) rfl ?_
          refine cz_le [some (.ref 34), none] ⟨rfl, trivial⟩ ?_
          exact ih (n - (x + 1)) (by omega) (x + 1) (zu (zu (zu Z 34 14 (-1)) 34 13 (nbF t s (x - s))) 34 10 (((x : Int)) + 1)) rfl (hT.fn (((FN.rf.u (by decide)).u (by decide)).u (by decide))) (by omega) (by omega) (by simp [zu]) (by simp [zu, h11]) (by simp [zu, h12]) (by rw [show (x + 1) - s = (x - s) + 1 by omega, nbF, if_neg (by omega)]; simp [zu, h13, hsx]) (by rw [show (x + 1) - s = (x - s) + 1 by omega, wdF, if_neg (by omega)]; simp [zu, hsx]) (fun W h1 g10 g11 g12 g13 g14 => hk W ((((FN.rf.u (by decide)).u (by decide)).u (by decide)).tr h1) (by rw [g10, sk_go (p := x) hx2]) g11 g12 (by rw [g13, sk_go (p := x) hx2]) (by rw [g14, sk_go (p := x) hx2]))
        · refine nz_bipush (pc' := 194) (g_d dtbX11_nextToken_1 41 rfl) (by decide) rfl ?_
          refine cz_aload_n (pc' := 195) (g_d dtbX11_nextToken_1 42 rfl) rfl rfl ?_
          refine nz_getf (v := iv (nbF t s (x - s))) (pc' := 198) (g_d dtbX11_nextToken_1 43 rfl) gf_X11_68 (by decide) rfl (congrArg iv (by rw [show (zu Z 34 14 (-1)) 34 13 = Z 34 13 from by simp [zu]]; exact h13)) rfl ?_
          refine nz_imul (pc' := 199) (g_d dtbX11_nextToken_1 44 rfl) rfl ?_
          refine cz_aload_n (pc' := 200) (g_d dtbX11_nextToken_1 45 rfl) rfl rfl ?_
          refine nz_getf (v := .ref 41) (pc' := 203) (g_d dtbX11_nextToken_1 46 rfl) gf_X11_33 (by decide) rfl rfl rfl ?_
          refine cz_aload_n (pc' := 204) (g_d dtbX11_nextToken_1 47 rfl) rfl rfl ?_
          refine nz_getf (v := iv ((x : Int))) (pc' := 207) (g_d dtbX11_nextToken_1 48 rfl) gf_X11_59 (by decide) rfl (congrArg iv (by rw [show (zu Z 34 14 (-1)) 34 10 = Z 34 10 from by simp [zu]]; exact h10)) rfl ?_
          refine nz_iald x (pc' := 208) (g_d dtbX11_nextToken_1 49 rfl) (by decide) rfl (by omega) (by rfl) (by omega) rfl ?_
          rw [show (zu Z 34 14 (-1)) 41 x = t x from by rw [show (zu Z 34 14 (-1)) 41 x = Z 41 x from by simp [zu]]; exact hT.2.2 x hx2.1]
          refine nz_iadd (pc' := 209) (g_d dtbX11_nextToken_1 50 rfl) rfl ?_
          refine nz_bipush (pc' := 211) (g_d dtbX11_nextToken_1 51 rfl) (by decide) rfl ?_
          refine nz_isub (pc' := 212) (g_d dtbX11_nextToken_1 52 rfl) rfl ?_
          refine cz_goto (pc' := 219) (g_d dtbX11_nextToken_1 53 rfl) rfl ?_
          refine nz_puti (pc' := 222) (g_d dtbX11_nextToken_1 56 rfl) pf_X11_68 rfl (by decide) rfl rfl ?_
          refine cz_aload_n (pc' := 223) (g_d dtbX11_nextToken_1 57 rfl) rfl rfl ?_
          refine cz_dup (pc' := 224) (g_d dtbX11_nextToken_1 58 rfl) rfl rfl ?_
          refine nz_getf (v := iv ((x : Int))) (pc' := 227) (g_d dtbX11_nextToken_1 59 rfl) gf_X11_59 (by decide) rfl (congrArg iv (by rw [show (zu (zu Z 34 14 (-1)) 34 13 (((10 * (nbF t s (x - s))) + (t x)) - 48)) 34 10 = Z 34 10 from by simp [zu]]; exact h10)) rfl ?_
          refine nz_iconst (pc' := 228) (g_d dtbX11_nextToken_2 0 rfl) rfl ?_
          refine nz_iadd (pc' := 229) (g_d dtbX11_nextToken_2 1 rfl) rfl ?_
          refine nz_puti (pc' := 232) (g_d dtbX11_nextToken_2 2 rfl) pf_X11_59 rfl (by decide) rfl rfl ?_
          refine cz_goto (pc' := 126) (g_d dtbX11_nextToken_2 3 rfl) rfl ?_
          refine cz_le [some (.ref 34), none] ⟨rfl, trivial⟩ ?_
          exact ih (n - (x + 1)) (by omega) (x + 1) (zu (zu (zu Z 34 14 (-1)) 34 13 (((10 * (nbF t s (x - s))) + (t x)) - 48)) 34 10 (((x : Int)) + 1)) rfl (hT.fn (((FN.rf.u (by decide)).u (by decide)).u (by decide))) (by omega) (by omega) (by simp [zu]) (by simp [zu, h11]) (by simp [zu, h12]) (by rw [show (x + 1) - s = (x - s) + 1 by omega, nbF, if_pos (by omega)]; simp [zu, h13, hsx]) (by rw [show (x + 1) - s = (x - s) + 1 by omega, wdF, if_neg (by omega)]; simp [zu, hsx]) (fun W h1 g10 g11 g12 g13 g14 => hk W ((((FN.rf.u (by decide)).u (by decide)).u (by decide)).tr h1) (by rw [g10, sk_go (p := x) hx2]) g11 g12 (by rw [g13, sk_go (p := x) hx2]) (by rw [g14, sk_go (p := x) hx2]))
      · refine nz_ldc2 (pc' := 161) (v := 256) (g_d dtbX11_nextToken_1 23 rfl) kn_X11_78 rfl ?_
        refine cz_aload_n (pc' := 162) (g_d dtbX11_nextToken_1 24 rfl) rfl rfl ?_
        refine nz_getf (v := il (wdF t s (x - s))) (pc' := 165) (g_d dtbX11_nextToken_1 25 rfl) gf_X11_65 (by decide) rfl (congrArg il (h14)) rfl ?_
        refine nz_lmul (pc' := 166) (g_d dtbX11_nextToken_1 26 rfl) rfl ?_
        refine cz_aload_n (pc' := 167) (g_d dtbX11_nextToken_1 27 rfl) rfl rfl ?_
        refine nz_getf (v := .ref 41) (pc' := 170) (g_d dtbX11_nextToken_1 28 rfl) gf_X11_33 (by decide) rfl rfl rfl ?_
        refine cz_aload_n (pc' := 171) (g_d dtbX11_nextToken_1 29 rfl) rfl rfl ?_
        refine nz_getf (v := iv ((x : Int))) (pc' := 174) (g_d dtbX11_nextToken_1 30 rfl) gf_X11_59 (by decide) rfl (congrArg iv (h10)) rfl ?_
        refine nz_iald x (pc' := 175) (g_d dtbX11_nextToken_1 31 rfl) (by decide) rfl (by omega) (by rfl) (by omega) rfl ?_
        rw [show Z 41 x = t x from hT.2.2 x hx2.1]
        refine nz_i2l (pc' := 176) (g_d dtbX11_nextToken_1 32 rfl) (by omega) rfl ?_
        refine nz_ladd (pc' := 177) (g_d dtbX11_nextToken_1 33 rfl) rfl ?_
        refine cz_goto (pc' := 183) (g_d dtbX11_nextToken_1 34 rfl) rfl ?_
        refine nz_putl (pc' := 186) (g_d dtbX11_nextToken_1 36 rfl) pf_X11_65 rfl (by decide) rfl rfl ?_
        refine cz_aload_n (pc' := 187) (g_d dtbX11_nextToken_1 37 rfl) rfl rfl ?_
        refine cz_iload_n (pc' := 188) (g_d dtbX11_nextToken_1 38 rfl) rfl rfl ?_
        refine nz_iconst (pc' := 189) (g_d dtbX11_nextToken_1 39 rfl) rfl ?_
        refine nz_icmp_ge (tgt := 215) (pc' := 192) (g_d dtbX11_nextToken_1 40 rfl) (by omega) (by omega) rfl rfl (fun h189 => ?_) (fun h189 => ?_)
        · refine cz_aload_n (pc' := 216) (g_d dtbX11_nextToken_1 54 rfl) rfl rfl ?_
          refine nz_getf (v := iv (nbF t s (x - s))) (pc' := 219) (g_d dtbX11_nextToken_1 55 rfl) gf_X11_68 (by decide) rfl (congrArg iv (by rw [show (zu Z 34 14 ((256 * (wdF t s (x - s))) + (t x))) 34 13 = Z 34 13 from by simp [zu]]; exact h13)) rfl ?_
          refine nz_puti (pc' := 222) (g_d dtbX11_nextToken_1 56 rfl) pf_X11_68 rfl (by decide) rfl rfl ?_
          refine cz_aload_n (pc' := 223) (g_d dtbX11_nextToken_1 57 rfl) rfl rfl ?_
          refine cz_dup (pc' := 224) (g_d dtbX11_nextToken_1 58 rfl) rfl rfl ?_
          refine nz_getf (v := iv ((x : Int))) (pc' := 227) (g_d dtbX11_nextToken_1 59 rfl) gf_X11_59 (by decide) rfl (congrArg iv (by rw [show (zu (zu Z 34 14 ((256 * (wdF t s (x - s))) + (t x))) 34 13 (nbF t s (x - s))) 34 10 = Z 34 10 from by simp [zu]]; exact h10)) rfl ?_
          refine nz_iconst (pc' := 228) (g_d dtbX11_nextToken_2 0 rfl) rfl ?_
          refine nz_iadd (pc' := 229) (g_d dtbX11_nextToken_2 1 rfl) rfl ?_
          refine nz_puti (pc' := 232) (g_d dtbX11_nextToken_2 2 rfl) pf_X11_59 rfl (by decide) rfl rfl ?_
          refine cz_goto (pc' := 126) (g_d dtbX11_nextToken_2 3 rfl) rfl ?_
          refine cz_le [some (.ref 34), none] ⟨rfl, trivial⟩ ?_
          exact ih (n - (x + 1)) (by omega) (x + 1) (zu (zu (zu Z 34 14 ((256 * (wdF t s (x - s))) + (t x))) 34 13 (nbF t s (x - s))) 34 10 (((x : Int)) + 1)) rfl (hT.fn (((FN.rf.u (by decide)).u (by decide)).u (by decide))) (by omega) (by omega) (by simp [zu]) (by simp [zu, h11]) (by simp [zu, h12]) (by rw [show (x + 1) - s = (x - s) + 1 by omega, nbF, if_neg (by omega)]; simp [zu, h13, hsx]) (by rw [show (x + 1) - s = (x - s) + 1 by omega, wdF, if_pos (by omega)]; simp [zu, hsx]) (fun W h1 g10 g11 g12 g13 g14 => hk W ((((FN.rf.u (by decide)).u (by decide)).u (by decide)).tr h1) (by rw [g10, sk_go (p := x) hx2]) g11 g12 (by rw [g13, sk_go (p := x) hx2]) (by rw [g14, sk_go (p := x) hx2]))
        · refine nz_bipush (pc' := 194) (g_d dtbX11_nextToken_1 41 rfl) (by decide) rfl ?_
          refine cz_aload_n (pc' := 195) (g_d dtbX11_nextToken_1 42 rfl) rfl rfl ?_
          refine nz_getf (v := iv (nbF t s (x - s))) (pc' := 198) (g_d dtbX11_nextToken_1 43 rfl) gf_X11_68 (by decide) rfl (congrArg iv (by rw [show (zu Z 34 14 ((256 * (wdF t s (x - s))) + (t x))) 34 13 = Z 34 13 from by simp [zu]]; exact h13)) rfl ?_
          refine nz_imul (pc' := 199) (g_d dtbX11_nextToken_1 44 rfl) rfl ?_
          refine cz_aload_n (pc' := 200) (g_d dtbX11_nextToken_1 45 rfl) rfl rfl ?_
          refine nz_getf (v := .ref 41) (pc' := 203) (g_d dtbX11_nextToken_1 46 rfl) gf_X11_33 (by decide) rfl rfl rfl ?_
          refine cz_aload_n (pc' := 204) (g_d dtbX11_nextToken_1 47 rfl) rfl rfl ?_
          refine nz_getf (v := iv ((x : Int))) (pc' := 207) (g_d dtbX11_nextToken_1 48 rfl) gf_X11_59 (by decide) rfl (congrArg iv (by rw [show (zu Z 34 14 ((256 * (wdF t s (x - s))) + (t x))) 34 10 = Z 34 10 from by simp [zu]]; exact h10)) rfl ?_
          refine nz_iald x (pc' := 208) (g_d dtbX11_nextToken_1 49 rfl) (by decide) rfl (by omega) (by rfl) (by omega) rfl ?_
          rw [show (zu Z 34 14 ((256 * (wdF t s (x - s))) + (t x))) 41 x = t x from by rw [show (zu Z 34 14 ((256 * (wdF t s (x - s))) + (t x))) 41 x = Z 41 x from by simp [zu]]; exact hT.2.2 x hx2.1]
          refine nz_iadd (pc' := 209) (g_d dtbX11_nextToken_1 50 rfl) rfl ?_
          refine nz_bipush (pc' := 211) (g_d dtbX11_nextToken_1 51 rfl) (by decide) rfl ?_
          refine nz_isub (pc' := 212) (g_d dtbX11_nextToken_1 52 rfl) rfl ?_
          refine cz_goto (pc' := 219) (g_d dtbX11_nextToken_1 53 rfl) rfl ?_
          refine nz_puti (pc' := 222) (g_d dtbX11_nextToken_1 56 rfl) pf_X11_68 rfl (by decide) rfl rfl ?_
          refine cz_aload_n (pc' := 223) (g_d dtbX11_nextToken_1 57 rfl) rfl rfl ?_
          refine cz_dup (pc' := 224) (g_d dtbX11_nextToken_1 58 rfl) rfl rfl ?_
          refine nz_getf (v := iv ((x : Int))) (pc' := 227) (g_d dtbX11_nextToken_1 59 rfl) gf_X11_59 (by decide) rfl (congrArg iv (by rw [show (zu (zu Z 34 14 ((256 * (wdF t s (x - s))) + (t x))) 34 13 (((10 * (nbF t s (x - s))) + (t x)) - 48)) 34 10 = Z 34 10 from by simp [zu]]; exact h10)) rfl ?_
          refine nz_iconst (pc' := 228) (g_d dtbX11_nextToken_2 0 rfl) rfl ?_
          refine nz_iadd (pc' := 229) (g_d dtbX11_nextToken_2 1 rfl) rfl ?_
          refine nz_puti (pc' := 232) (g_d dtbX11_nextToken_2 2 rfl) pf_X11_59 rfl (by decide) rfl rfl ?_
          refine cz_goto (pc' := 126) (g_d dtbX11_nextToken_2 3 rfl) rfl ?_
          refine cz_le [some (.ref 34), none] ⟨rfl, trivial⟩ ?_
          exact ih (n - (x + 1)) (by omega) (x + 1) (zu (zu (zu Z 34 14 ((256 * (wdF t s (x - s))) + (t x))) 34 13 (((10 * (nbF t s (x - s))) + (t x)) - 48)) 34 10 (((x : Int)) + 1)) rfl (hT.fn (((FN.rf.u (by decide)).u (by decide)).u (by decide))) (by omega) (by omega) (by simp [zu]) (by simp [zu, h11]) (by simp [zu, h12]) (by rw [show (x + 1) - s = (x - s) + 1 by omega, nbF, if_pos (by omega)]; simp [zu, h13, hsx]) (by rw [show (x + 1) - s = (x - s) + 1 by omega, wdF, if_pos (by omega)]; simp [zu, hsx]) (fun W h1 g10 g11 g12 g13 g14 => hk W ((((FN.rf.u (by decide)).u (by decide)).u (by decide)).tr h1) (by rw [g10, sk_go (p := x) hx2]) g11 g12 (by rw [g13, sk_go (p := x) hx2]) (by rw [g14, sk_go (p := x) hx2]))

set_option maxRecDepth 20000 in
set_option maxHeartbeats 4000000 in
theorem nt_w (G : Wd) (Z W : ZS) (n : Nat) (t : Row) (hT : MX n t W) (p : Nat) (hp : p ≤ n) (hc : tS n t p < n ∧ 97 ≤ t (tS n t p) ∧ t (tS n t p) ≤ 122) (hf : FN Z W) (g10 : W 34 10 = (sk n t 97 122 (tS n t p) : Int)) (g11 : W 34 11 = (tS n t p : Int)) (g12 : W 34 12 = 1) (g13 : W 34 13 = nbF t (tS n t p) (sk n t 97 122 (tS n t p) - tS n t p)) (g14 : W 34 14 = wdF t (tS n t p) (sk n t 97 122 (tS n t p) - tS n t p)) : Cn G mX11_nextToken 235 [some (.ref 34), none] [] W (qv (fun W => MK n t p W ∧ FN Z W)) := by
  have hn := hT.1.1
  have hs := tS_le (t := t) hp
  have hsk := sk_ge (n := n) (t := t) (lo := 97) (hi := 122) (p := tS n t p)
  have hsl := sk_le (n := n) (t := t) (lo := 97) (hi := 122) (p := tS n t p) hs.2
  refine cz_aload_n (pc' := 236) (g_d dtbX11_nextToken_2 4 rfl) rfl rfl ?_
  refine cz_aload_n (pc' := 237) (g_d dtbX11_nextToken_2 5 rfl) rfl rfl ?_
  refine nz_getf (v := iv 1) (pc' := 240) (g_d dtbX11_nextToken_2 6 rfl) gf_X11_71 (by decide) rfl (congrArg iv (g12)) rfl ?_
  refine nz_iconst (pc' := 241) (g_d dtbX11_nextToken_2 7 rfl) rfl ?_
  refine nz_icmp_ne_t (tgt := 261) (g_d dtbX11_nextToken_2 8 rfl) (by omega) (by omega) rfl (by omega) ?_
  refine cz_aload_n (pc' := 262) (g_d dtbX11_nextToken_2 18 rfl) rfl rfl ?_
  refine nz_getf (v := iv 1) (pc' := 265) (g_d dtbX11_nextToken_2 19 rfl) gf_X11_71 (by decide) rfl (congrArg iv (g12)) rfl ?_
  refine nz_puti (pc' := 268) (g_d dtbX11_nextToken_2 20 rfl) pf_X11_71 rfl (by decide) rfl rfl ?_
  refine nz_rv (g_d dtbX11_nextToken_2 21 rfl) rfl ?_
  have eE : tE n t p = sk n t 97 122 (tS n t p) := by unfold tE; rw [if_pos hc.1, if_pos hc.2]
  have eK : tK n t p = 1 := by unfold tK; rw [if_pos hc.1, if_pos hc.2]
  refine ⟨⟨hT.fn (FN.rf.u (by decide)), hp, by simp [zu, g11], by rw [eE]; simp [zu, g10], by rw [eK]; simp [zu], fun q => ?_, fun q => ?_⟩, hf.u (by decide)⟩
  · rw [eK] at q; exact absurd q (by decide)
  · rw [eE]; simp [zu, g14]

set_option maxRecDepth 20000 in
set_option maxHeartbeats 4000000 in
theorem nt_d (G : Wd) (Z W : ZS) (n : Nat) (t : Row) (hT : MX n t W) (p : Nat) (hp : p ≤ n) (hc : tS n t p < n ∧ 48 ≤ t (tS n t p) ∧ t (tS n t p) ≤ 57) (hf : FN Z W) (g10 : W 34 10 = (sk n t 48 57 (tS n t p) : Int)) (g11 : W 34 11 = (tS n t p : Int)) (g12 : W 34 12 = 2) (g13 : W 34 13 = nbF t (tS n t p) (sk n t 48 57 (tS n t p) - tS n t p)) (g14 : W 34 14 = wdF t (tS n t p) (sk n t 48 57 (tS n t p) - tS n t p)) : Cn G mX11_nextToken 235 [some (.ref 34), none] [] W (qv (fun W => MK n t p W ∧ FN Z W)) := by
  have hn := hT.1.1
  have hs := tS_le (t := t) hp
  have hsk := sk_ge (n := n) (t := t) (lo := 48) (hi := 57) (p := tS n t p)
  have hsl := sk_le (n := n) (t := t) (lo := 48) (hi := 57) (p := tS n t p) hs.2
  refine cz_aload_n (pc' := 236) (g_d dtbX11_nextToken_2 4 rfl) rfl rfl ?_
  refine cz_aload_n (pc' := 237) (g_d dtbX11_nextToken_2 5 rfl) rfl rfl ?_
  refine nz_getf (v := iv 2) (pc' := 240) (g_d dtbX11_nextToken_2 6 rfl) gf_X11_71 (by decide) rfl (congrArg iv (g12)) rfl ?_
  refine nz_iconst (pc' := 241) (g_d dtbX11_nextToken_2 7 rfl) rfl ?_
  refine nz_icmp_ne_f (pc' := 244) (g_d dtbX11_nextToken_2 8 rfl) (by omega) (by omega) (by decide) rfl (by omega) ?_
  refine cz_aload_n (pc' := 245) (g_d dtbX11_nextToken_2 9 rfl) rfl rfl ?_
  refine nz_getf (v := iv ((sk n t 48 57 (tS n t p) : Int))) (pc' := 248) (g_d dtbX11_nextToken_2 10 rfl) gf_X11_59 (by decide) rfl (congrArg iv (g10)) rfl ?_
  refine cz_aload_n (pc' := 249) (g_d dtbX11_nextToken_2 11 rfl) rfl rfl ?_
  refine nz_getf (v := iv ((tS n t p : Int))) (pc' := 252) (g_d dtbX11_nextToken_2 12 rfl) gf_X11_62 (by decide) rfl (congrArg iv (g11)) rfl ?_
  refine nz_isub (pc' := 253) (g_d dtbX11_nextToken_2 13 rfl) rfl ?_
  refine nz_iconst (pc' := 254) (g_d dtbX11_nextToken_2 14 rfl) rfl ?_
  refine nz_icmp_le (tgt := 261) (pc' := 257) (g_d dtbX11_nextToken_2 15 rfl) (by omega) (by omega) rfl rfl (fun h254 => ?_) (fun h254 => ?_)
  · refine cz_aload_n (pc' := 262) (g_d dtbX11_nextToken_2 18 rfl) rfl rfl ?_
    refine nz_getf (v := iv 2) (pc' := 265) (g_d dtbX11_nextToken_2 19 rfl) gf_X11_71 (by decide) rfl (congrArg iv (g12)) rfl ?_
    refine nz_puti (pc' := 268) (g_d dtbX11_nextToken_2 20 rfl) pf_X11_71 rfl (by decide) rfl rfl ?_
    refine nz_rv (g_d dtbX11_nextToken_2 21 rfl) rfl ?_
    have eE : tE n t p = sk n t 48 57 (tS n t p) := by unfold tE; rw [if_pos hc.1, if_neg (by omega), if_pos hc.2]
    have eK : tK n t p = 2 := by unfold tK; rw [if_pos hc.1, if_neg (by omega), if_pos hc.2, if_neg (by omega)]
    refine ⟨⟨hT.fn (FN.rf.u (by decide)), hp, by simp [zu, g11], by rw [eE]; simp [zu, g10], by rw [eK]; simp [zu], fun q => ?_, fun q => ?_⟩, hf.u (by decide)⟩
    · rw [← nbF_tV q, eE]; simp [zu, g13]
    · rw [eK] at q; exact absurd q (by decide)
  · refine nz_iconst (pc' := 258) (g_d dtbX11_nextToken_2 16 rfl) rfl ?_
    refine cz_goto (pc' := 265) (g_d dtbX11_nextToken_2 17 rfl) rfl ?_
    refine nz_puti (pc' := 268) (g_d dtbX11_nextToken_2 20 rfl) pf_X11_71 rfl (by decide) rfl rfl ?_
    refine nz_rv (g_d dtbX11_nextToken_2 21 rfl) rfl ?_
    have eE : tE n t p = sk n t 48 57 (tS n t p) := by unfold tE; rw [if_pos hc.1, if_neg (by omega), if_pos hc.2]
    have eK : tK n t p = 4 := by unfold tK; rw [if_pos hc.1, if_neg (by omega), if_pos hc.2, if_pos (by omega)]
    refine ⟨⟨hT.fn (FN.rf.u (by decide)), hp, by simp [zu, g11], by rw [eE]; simp [zu, g10], by rw [eK]; simp [zu], fun q => ?_, fun q => ?_⟩, hf.u (by decide)⟩
    · rw [eK] at q; exact absurd q (by decide)
    · rw [eK] at q; exact absurd q (by decide)

set_option maxRecDepth 20000 in
set_option maxHeartbeats 4000000 in
theorem m_nextToken (G : Wd) (Z : ZS) (n : Nat) (t : Row) (hT : MX n t Z) (p : Nat) (hp : p ≤ n) (h4 : Z 34 10 = (p : Int)) : Cn G mX11_nextToken 0 [some (.ref 34), none] [] Z (qv (fun W => MK n t p W ∧ FN Z W)) := by
  refine l_nt0 G n t _ (n - p) p Z rfl hT hp h4 (fun W1 hf1 h1 => ?_)
  rw [show sk n t 32 32 p = tS n t p from rfl] at h1
  have hs := tS_le (t := t) hp
  have hT1 := hT.fn hf1
  have hn := hT.1.1
  refine cz_aload_n (pc' := 39) (g_d dtbX11_nextToken_0 19 rfl) rfl rfl ?_
  refine cz_aload_n (pc' := 40) (g_d dtbX11_nextToken_0 20 rfl) rfl rfl ?_
  refine nz_getf (v := iv ((tS n t p : Int))) (pc' := 43) (g_d dtbX11_nextToken_0 21 rfl) gf_X11_59 (by decide) rfl (congrArg iv (h1)) rfl ?_
  refine nz_puti (pc' := 46) (g_d dtbX11_nextToken_0 22 rfl) pf_X11_62 rfl (by decide) rfl rfl ?_
  refine cz_aload_n (pc' := 47) (g_d dtbX11_nextToken_0 23 rfl) rfl rfl ?_
  refine nz_lconst (pc' := 48) (v := 0) (g_d dtbX11_nextToken_0 24 rfl) rfl rfl ?_
  refine nz_putl (pc' := 51) (g_d dtbX11_nextToken_0 25 rfl) pf_X11_65 rfl (by decide) rfl rfl ?_
  refine cz_aload_n (pc' := 52) (g_d dtbX11_nextToken_0 26 rfl) rfl rfl ?_
  refine nz_iconst (pc' := 53) (g_d dtbX11_nextToken_0 27 rfl) rfl ?_
  refine nz_puti (pc' := 56) (g_d dtbX11_nextToken_0 28 rfl) pf_X11_68 rfl (by decide) rfl rfl ?_
  refine cz_aload_n (pc' := 57) (g_d dtbX11_nextToken_0 29 rfl) rfl rfl ?_
  refine nz_getf (v := iv ((tS n t p : Int))) (pc' := 60) (g_d dtbX11_nextToken_0 30 rfl) gf_X11_59 (by decide) rfl (congrArg iv (by rw [show (zu (zu (zu W1 34 11 ((tS n t p : Int))) 34 14 0) 34 13 0) 34 10 = W1 34 10 from by simp [zu]]; exact h1)) rfl ?_
  refine cz_aload_n (pc' := 61) (g_d dtbX11_nextToken_0 31 rfl) rfl rfl ?_
  refine nz_getf (v := iv ((n : Int))) (pc' := 64) (g_d dtbX11_nextToken_0 32 rfl) gf_X11_55 (by decide) rfl (congrArg iv (by rw [show (zu (zu (zu W1 34 11 ((tS n t p : Int))) 34 14 0) 34 13 0) 34 8 = W1 34 8 from by simp [zu]]; exact hT1.2.1)) rfl ?_
  refine nz_icmp_ne (tgt := 73) (pc' := 67) (g_d dtbX11_nextToken_0 33 rfl) (by omega) (by omega) rfl rfl (fun h64 => ?_) (fun h64 => ?_)
  · refine cz_aload_n (pc' := 74) (g_d dtbX11_nextToken_0 38 rfl) rfl rfl ?_
    refine cz_aload_n (pc' := 75) (g_d dtbX11_nextToken_0 39 rfl) rfl rfl ?_
    refine cz_aload_n (pc' := 76) (g_d dtbX11_nextToken_0 40 rfl) rfl rfl ?_
    refine nz_getf (v := iv ((tS n t p : Int))) (pc' := 79) (g_d dtbX11_nextToken_0 41 rfl) gf_X11_59 (by decide) rfl (congrArg iv (by rw [show (zu (zu (zu W1 34 11 ((tS n t p : Int))) 34 14 0) 34 13 0) 34 10 = W1 34 10 from by simp [zu]]; exact h1)) rfl ?_
    refine nz_cVi (M' := mX11_kindAt) (k := 34) (As := [iv ((tS n t p : Int))]) (S := [.ref 34]) (L := [some (.ref 34), none]) (pc' := 82) (g_d dtbX11_nextToken_0 42 rfl) lk_X11_74 okX11_kindAt (by decide) rfl rfl rfl rfl (Nat.le_of_ble_eq_true rfl) (Nat.le_of_ble_eq_true rfl) (by decide) rfl (m_kindAt G (zu (zu (zu W1 34 11 ((tS n t p : Int))) 34 14 0) 34 13 0) n t (hT1.fn (((FN.rf.u (by decide)).u (by decide)).u (by decide))) _ (tS n t p) rfl hs.2) ?_
    rintro _ _ ⟨rfl, rfl⟩
    have hcI := cK_in (n := n) (t := t) (k := tS n t p)
    refine nz_puti (pc' := 85) (g_d dtbX11_nextToken_0 43 rfl) pf_X11_71 rfl (by decide) rfl rfl ?_
    refine cz_aload_n (pc' := 86) (g_d dtbX11_nextToken_0 44 rfl) rfl rfl ?_
    refine nz_getf (v := iv (cK n t (tS n t p))) (pc' := 89) (g_d dtbX11_nextToken_0 45 rfl) gf_X11_71 (by decide) rfl (congrArg iv (by simp [zu])) rfl ?_
    refine nz_if_ne (tgt := 126) (pc' := 92) (g_d dtbX11_nextToken_0 46 rfl) (by omega) rfl rfl (fun h89 => ?_) (fun h89 => ?_)
    · rcases (show cK n t (tS n t p) = 1 ∨ cK n t (tS n t p) = 2 by omega) with hc | hc
      · have hcc := (cK_eq (n := n) (x := tS n t p) (κ := 1) (lo := 97) (hi := 122) (Or.inl ⟨rfl, rfl, rfl⟩)).mp hc
        refine l_nt2 G n t _ 1 97 122 (Or.inl ⟨rfl, rfl, rfl⟩) (tS n t p) (n - tS n t p) (tS n t p) (zu (zu (zu (zu W1 34 11 ((tS n t p : Int))) 34 14 0) 34 13 0) 34 12 (cK n t (tS n t p))) rfl (hT1.fn ((((FN.rf.u (by decide)).u (by decide)).u (by decide)).u (by decide))) hs.2 (Nat.le_refl _) (by simp [zu, h1]) (by simp [zu]) (by simp [zu, hc]) (by rw [Nat.sub_self]; simp [zu, nbF]) (by rw [Nat.sub_self]; simp [zu, wdF]) (fun W2 hf2 g10 g11 g12 g13 g14 => ?_)
        exact nt_w G Z W2 n t ((hT1.fn ((((FN.rf.u (by decide)).u (by decide)).u (by decide)).u (by decide))).fn hf2) p hp hcc ((hf1.tr ((((FN.rf.u (by decide)).u (by decide)).u (by decide)).u (by decide))).tr hf2) g10 g11 g12 g13 g14
      · have hcc := (cK_eq (n := n) (x := tS n t p) (κ := 2) (lo := 48) (hi := 57) (Or.inr ⟨rfl, rfl, rfl⟩)).mp hc
        refine l_nt2 G n t _ 2 48 57 (Or.inr ⟨rfl, rfl, rfl⟩) (tS n t p) (n - tS n t p) (tS n t p) (zu (zu (zu (zu W1 34 11 ((tS n t p : Int))) 34 14 0) 34 13 0) 34 12 (cK n t (tS n t p))) rfl (hT1.fn ((((FN.rf.u (by decide)).u (by decide)).u (by decide)).u (by decide))) hs.2 (Nat.le_refl _) (by simp [zu, h1]) (by simp [zu]) (by simp [zu, hc]) (by rw [Nat.sub_self]; simp [zu, nbF]) (by rw [Nat.sub_self]; simp [zu, wdF]) (fun W2 hf2 g10 g11 g12 g13 g14 => ?_)
        exact nt_d G Z W2 n t ((hT1.fn ((((FN.rf.u (by decide)).u (by decide)).u (by decide)).u (by decide))).fn hf2) p hp hcc ((hf1.tr ((((FN.rf.u (by decide)).u (by decide)).u (by decide)).u (by decide))).tr hf2) g10 g11 g12 g13 g14
    · have htx := hT1.1.2 (tS n t p) (by omega)
      refine cz_aload_n (pc' := 93) (g_d dtbX11_nextToken_0 47 rfl) rfl rfl ?_
      refine cz_aload_n (pc' := 94) (g_d dtbX11_nextToken_0 48 rfl) rfl rfl ?_
      refine nz_getf (v := .ref 41) (pc' := 97) (g_d dtbX11_nextToken_0 49 rfl) gf_X11_33 (by decide) rfl rfl rfl ?_
      refine cz_aload_n (pc' := 98) (g_d dtbX11_nextToken_0 50 rfl) rfl rfl ?_
      refine nz_getf (v := iv ((tS n t p : Int))) (pc' := 101) (g_d dtbX11_nextToken_0 51 rfl) gf_X11_59 (by decide) rfl (congrArg iv (by rw [show (zu (zu (zu (zu W1 34 11 ((tS n t p : Int))) 34 14 0) 34 13 0) 34 12 (cK n t (tS n t p))) 34 10 = W1 34 10 from by simp [zu]]; exact h1)) rfl ?_
      refine nz_iald (tS n t p) (pc' := 102) (g_d dtbX11_nextToken_0 52 rfl) (by decide) rfl (by omega) (by rfl) (by omega) rfl ?_
      rw [show (zu (zu (zu (zu W1 34 11 ((tS n t p : Int))) 34 14 0) 34 13 0) 34 12 (cK n t (tS n t p))) 41 (tS n t p) = t (tS n t p) from by rw [show (zu (zu (zu (zu W1 34 11 ((tS n t p : Int))) 34 14 0) 34 13 0) 34 12 (cK n t (tS n t p))) 41 (tS n t p) = W1 41 (tS n t p) from by simp [zu]]; exact hT1.2.2 (tS n t p) (by omega)]
      refine nz_bipush (pc' := 104) (g_d dtbX11_nextToken_0 53 rfl) (by decide) rfl ?_
      refine nz_icmp_ne (tgt := 111) (pc' := 107) (g_d dtbX11_nextToken_0 54 rfl) (by omega) (by omega) rfl rfl (fun h104 => ?_) (fun h104 => ?_)
      · refine nz_iconst (pc' := 112) (g_d dtbX11_nextToken_0 57 rfl) rfl ?_
        refine nz_puti (pc' := 115) (g_d dtbX11_nextToken_0 58 rfl) pf_X11_71 rfl (by decide) rfl rfl ?_
        refine cz_aload_n (pc' := 116) (g_d dtbX11_nextToken_0 59 rfl) rfl rfl ?_
        refine cz_dup (pc' := 117) (g_d dtbX11_nextToken_1 0 rfl) rfl rfl ?_
        refine nz_getf (v := iv ((tS n t p : Int))) (pc' := 120) (g_d dtbX11_nextToken_1 1 rfl) gf_X11_59 (by decide) rfl (congrArg iv (by rw [show (zu (zu (zu (zu (zu W1 34 11 ((tS n t p : Int))) 34 14 0) 34 13 0) 34 12 (cK n t (tS n t p))) 34 12 4) 34 10 = W1 34 10 from by simp [zu]]; exact h1)) rfl ?_
        refine nz_iconst (pc' := 121) (g_d dtbX11_nextToken_1 2 rfl) rfl ?_
        refine nz_iadd (pc' := 122) (g_d dtbX11_nextToken_1 3 rfl) rfl ?_
        refine nz_puti (pc' := 125) (g_d dtbX11_nextToken_1 4 rfl) pf_X11_59 rfl (by decide) rfl rfl ?_
        refine nz_rv (g_d dtbX11_nextToken_1 5 rfl) rfl ?_
        have hc1 : ¬ (97 ≤ t (tS n t p) ∧ t (tS n t p) ≤ 122) := fun q => by have := (cK_eq (n := n) (x := tS n t p) (Or.inl ⟨rfl, rfl, rfl⟩)).mpr ⟨by omega, q⟩; omega
        have hc2 : ¬ (48 ≤ t (tS n t p) ∧ t (tS n t p) ≤ 57) := fun q => by have := (cK_eq (n := n) (x := tS n t p) (Or.inr ⟨rfl, rfl, rfl⟩)).mpr ⟨by omega, q⟩; omega
        have eE : tE n t p = tS n t p + 1 := by unfold tE; rw [if_pos (by omega), if_neg hc1, if_neg hc2]
        have eK : tK n t p = 4 := by unfold tK; rw [if_pos (by omega), if_neg hc1, if_neg hc2, if_neg (by omega)]
        exact ⟨⟨hT1.fn ((((((FN.rf.u (by decide)).u (by decide)).u (by decide)).u (by decide)).u (by decide)).u (by decide)), hp, by simp [zu], by rw [eE]; simp [zu], by rw [eK]; simp [zu], fun q => by rw [eK] at q; exact absurd q (by decide), fun q => by rw [eK] at q; exact absurd q (by decide)⟩, hf1.tr ((((((FN.rf.u (by decide)).u (by decide)).u (by decide)).u (by decide)).u (by decide)).u (by decide))⟩
      · refine nz_iconst (pc' := 108) (g_d dtbX11_nextToken_0 55 rfl) rfl ?_
        refine cz_goto (pc' := 112) (g_d dtbX11_nextToken_0 56 rfl) rfl ?_
        refine nz_puti (pc' := 115) (g_d dtbX11_nextToken_0 58 rfl) pf_X11_71 rfl (by decide) rfl rfl ?_
        refine cz_aload_n (pc' := 116) (g_d dtbX11_nextToken_0 59 rfl) rfl rfl ?_
        refine cz_dup (pc' := 117) (g_d dtbX11_nextToken_1 0 rfl) rfl rfl ?_
        refine nz_getf (v := iv ((tS n t p : Int))) (pc' := 120) (g_d dtbX11_nextToken_1 1 rfl) gf_X11_59 (by decide) rfl (congrArg iv (by rw [show (zu (zu (zu (zu (zu W1 34 11 ((tS n t p : Int))) 34 14 0) 34 13 0) 34 12 (cK n t (tS n t p))) 34 12 3) 34 10 = W1 34 10 from by simp [zu]]; exact h1)) rfl ?_
        refine nz_iconst (pc' := 121) (g_d dtbX11_nextToken_1 2 rfl) rfl ?_
        refine nz_iadd (pc' := 122) (g_d dtbX11_nextToken_1 3 rfl) rfl ?_
        refine nz_puti (pc' := 125) (g_d dtbX11_nextToken_1 4 rfl) pf_X11_59 rfl (by decide) rfl rfl ?_
        refine nz_rv (g_d dtbX11_nextToken_1 5 rfl) rfl ?_
        have hc1 : ¬ (97 ≤ t (tS n t p) ∧ t (tS n t p) ≤ 122) := fun q => by have := (cK_eq (n := n) (x := tS n t p) (Or.inl ⟨rfl, rfl, rfl⟩)).mpr ⟨by omega, q⟩; omega
        have hc2 : ¬ (48 ≤ t (tS n t p) ∧ t (tS n t p) ≤ 57) := fun q => by have := (cK_eq (n := n) (x := tS n t p) (Or.inr ⟨rfl, rfl, rfl⟩)).mpr ⟨by omega, q⟩; omega
        have eE : tE n t p = tS n t p + 1 := by unfold tE; rw [if_pos (by omega), if_neg hc1, if_neg hc2]
        have eK : tK n t p = 3 := by unfold tK; rw [if_pos (by omega), if_neg hc1, if_neg hc2, if_pos (by omega)]
        exact ⟨⟨hT1.fn ((((((FN.rf.u (by decide)).u (by decide)).u (by decide)).u (by decide)).u (by decide)).u (by decide)), hp, by simp [zu], by rw [eE]; simp [zu], by rw [eK]; simp [zu], fun q => by rw [eK] at q; exact absurd q (by decide), fun q => by rw [eK] at q; exact absurd q (by decide)⟩, hf1.tr ((((((FN.rf.u (by decide)).u (by decide)).u (by decide)).u (by decide)).u (by decide)).u (by decide))⟩
  · refine cz_aload_n (pc' := 68) (g_d dtbX11_nextToken_0 34 rfl) rfl rfl ?_
    refine nz_iconst (pc' := 69) (g_d dtbX11_nextToken_0 35 rfl) rfl ?_
    refine nz_puti (pc' := 72) (g_d dtbX11_nextToken_0 36 rfl) pf_X11_71 rfl (by decide) rfl rfl ?_
    refine nz_rv (g_d dtbX11_nextToken_0 37 rfl) rfl ?_
    have eE : tE n t p = tS n t p := by unfold tE; rw [if_neg (by omega)]
    have eK : tK n t p = 0 := by unfold tK; rw [if_neg (by omega)]
    exact ⟨⟨hT1.fn ((((FN.rf.u (by decide)).u (by decide)).u (by decide)).u (by decide)), hp, by simp [zu], by rw [eE]; simp [zu, h1], by rw [eK]; simp [zu], fun q => by rw [eK] at q; exact absurd q (by decide), fun q => by rw [eK] at q; exact absurd q (by decide)⟩, hf1.tr ((((FN.rf.u (by decide)).u (by decide)).u (by decide)).u (by decide))⟩
