/-! the other one's items -/
def jOne (n : Nat) (t : Row) (w : Nat) (most times : Int) (p : Nat) (r : Row) : RR := iNum n t 0 most (tE n t p) (.inr (tE n t (tE n t p), ru r w (times * tV n t (tE n t p))))
def jBill (n : Nat) (t : Row) (p : Nat) (r : Row) : RR := iNum n t 0 5 (tE n t p) (iNum n t 1 28 (tE n t (tE n t p)) (iNum n t 1 99 (tE n t (tE n t (tE n t p))) (.inr (tE n t (tE n t (tE n t (tE n t p))), rBill r (tV n t (tE n t p)) (tV n t (tE n t (tE n t p))) (tV n t (tE n t (tE n t (tE n t p))))))))
def jItem (n : Nat) (t : Row) (i p : Nat) (r : Row) : RR := if spB n t p 0 then (if i = 0 then jOne n t 0 99 10 p r else .inl p) else if i = 0 then .inl p else if spB n t p 1 then (if r 6 = 7 then .inl p else jBill n t p r) else if spB n t p 2 then jOne n t 5 30 1 p r else if spB n t p 3 then jOne n t 1 99 1 p r else .inl p
def bS (n : Nat) (t : Row) : RR → RR
  | .inl q => .inl q
  | .inr (q, s) => iStop n t q s
theorem bS_num {n : Nat} {t : Row} {lo hi : Int} {p : Nat} {k : RR} : bS n t (iNum n t lo hi p k) = iNum n t lo hi p (bS n t k) := by
  unfold iNum; split <;> rfl
theorem iOne_j {n : Nat} {t : Row} {w : Nat} {most times : Int} {p : Nat} {r : Row} : iOne n t w most times p r = bS n t (jOne n t w most times p r) := by
  unfold jOne; rw [bS_num]; rfl
theorem iBill_j {n : Nat} {t : Row} {p : Nat} {r : Row} : iBill n t p r = bS n t (jBill n t p r) := by
  unfold jBill; rw [bS_num, bS_num, bS_num]; rfl
theorem iItem_j {n : Nat} {t : Row} {i p : Nat} {r : Row} : iItem n t i p r = bS n t (jItem n t i p r) := by
  unfold iItem jItem
  by_cases h0 : spB n t p 0
  · rw [if_pos h0, if_pos h0]
    by_cases hi : i = 0
    · rw [if_pos hi, if_pos hi]; exact iOne_j
    · rw [if_neg hi, if_neg hi]; rfl
  · rw [if_neg h0, if_neg h0]
    by_cases hi : i = 0
    · rw [if_pos hi, if_pos hi]; rfl
    · rw [if_neg hi, if_neg hi]
      by_cases h1 : spB n t p 1
      · rw [if_pos h1, if_pos h1]
        by_cases h7 : r 6 = 7
        · rw [if_pos h7, if_pos h7]; rfl
        · rw [if_neg h7, if_neg h7]; exact iBill_j
      · rw [if_neg h1, if_neg h1]
        by_cases h2 : spB n t p 2
        · rw [if_pos h2, if_pos h2]; exact iOne_j
        · rw [if_neg h2, if_neg h2]
          by_cases h3 : spB n t p 3
          · rw [if_pos h3, if_pos h3]; exact iOne_j
          · rw [if_neg h3, if_neg h3]; rfl
theorem jItem_n {n : Nat} {t : Row} {i p : Nat} {r : Row} (q : ¬ tK n t p = 1) : jItem n t i p r = .inl p := by
  unfold jItem
  rw [if_neg (fun z : spB n t p 0 => q z.1)]
  by_cases hi : i = 0
  · rw [if_pos hi]
  · rw [if_neg hi, if_neg (fun z : spB n t p 1 => q z.1), if_neg (fun z : spB n t p 2 => q z.1), if_neg (fun z : spB n t p 3 => q z.1)]
theorem jItem_r {n : Nat} {t : Row} {i p : Nat} {r : Row} {x : Nat × Row} (h : jItem n t i p r = .inr x) : tK n t p = 1 := by
  refine Decidable.byContradiction (fun q => ?_)
  rw [jItem_n q] at h
  cases h
theorem rd_f {n : Nat} {t : Row} {d i p q : Nat} {r : Row} (h : jItem n t i p r = .inl q) (h0 : tK n t p ≠ 0 ∨ i = 0) : rdF n t (d + 1) i p r = .inl q := by
  by_cases k : tK n t p = 0
  · have hi : i = 0 := by omega
    rw [rdF, if_pos k, if_pos hi]
    unfold jItem at h
    rw [if_neg (fun z => by have := z.1; omega), if_pos hi] at h
    exact h
  · rw [rdF, if_neg k, iItem_j, h]; rfl
theorem it_s {n : Nat} {t : Row} {i p q : Nat} {r s : Row} (h : jItem n t i p r = .inr (q, s)) (h3 : tK n t q = 3) : iItem n t i p r = .inr (tE n t q, s) := by
  rw [iItem_j, h]
  show iStop n t q s = _
  rw [iStop, if_pos h3]
theorem rd_s {n : Nat} {t : Row} {d i p q : Nat} {r s : Row} (h : jItem n t i p r = .inr (q, s)) (h3 : ¬ tK n t q = 3) : rdF n t (d + 1) i p r = .inl q := by
  have k := jItem_r h
  rw [rdF, if_neg (by omega), show iItem n t i p r = .inl q from by rw [iItem_j, h]; show iStop n t q s = _; rw [iStop, if_neg h3]]
theorem rd_g {n : Nat} {t : Row} {d i p q : Nat} {r s : Row} (h : jItem n t i p r = .inr (q, s)) (h3 : tK n t q = 3) : rdF n t (d + 1) i p r = rdF n t d (i + 1) (tE n t q) s := by
  have k := jItem_r h
  rw [rdF, if_neg (by omega), it_s h h3]
/-- its draft -/
def DR (Z : ZS) (r : Row) : Prop := ∀ j, j < 108 → Z 37 j = r j
theorem DR.fn {Z W : ZS} {r : Row} (h : DR Z r) (g : FN Z W) : DR W r := fun j hj => by rw [g.1 37 (by omega)]; exact h j hj
/-- an item of its: the token's words and the draft -/
def FI (Z W : ZS) : Prop := (∀ a, a ≠ 34 → a ≠ 37 → W a = Z a) ∧ (∀ j, j < 10 ∨ 14 < j → W 34 j = Z 34 j)
theorem FI.rf {Z : ZS} : FI Z Z := ⟨fun _ _ _ => rfl, fun _ _ => rfl⟩
theorem FI.tr {Z W V : ZS} (h : FI Z W) (g : FI W V) : FI Z V := ⟨fun a ha hb => (g.1 a ha hb).trans (h.1 a ha hb), fun j hj => (g.2 j hj).trans (h.2 j hj)⟩
theorem FI.n {Z W : ZS} (h : FN Z W) : FI Z W := ⟨fun a ha _ => h.1 a ha, h.2⟩
theorem FI.d {Z : ZS} {j : Nat} {v : Int} : FI Z (zu Z 37 j v) := ⟨fun a _ hb => zu_row hb, fun j _ => by rw [zu_row (by decide)]⟩
theorem FI.r {Z : ZS} {g : Row} : FI Z (zr Z 37 g) := ⟨fun a _ hb => zr_ne hb, fun j _ => by rw [zr_ne (by decide)]⟩
theorem FI.q {Z W : ZS} (h : FI Z W) : FR Z W := ⟨h.1, fun j hj => h.2 j (Or.inl hj)⟩
theorem MX.fi {n : Nat} {t : Row} {Z W : ZS} (h : MX n t Z) (g : FI Z W) : MX n t W := h.fr g.q
def IM (n : Nat) (t : Row) (e : RR) (v : Int) (W : ZS) : Prop := (v = 1 ∧ ∃ q r', e = .inr (q, r') ∧ q ≤ n ∧ W 34 10 = (q : Int) ∧ DR W r') ∨ (v = 0 ∧ ∃ q, e = .inl q ∧ q ≤ n ∧ W 34 11 = (tS n t q : Int))
theorem m_addBill2 (G : Wd) (Z : ZS) (c : Nat) (hc : Z 37 6 = (c : Int)) (hc7 : c < 7) (a d p : Int) : Cn G mX11_addBill 0 [some (.ref 37), some (iv a), some (iv d), some (iv p), none] [] Z (qi (fun r W => Z 37 6 = r ∧ zr Z 37 (rAdd (Z 37) a d p) = W)) := by
  have q := m_addBill G Z (Z 37) 37 (by decide) rfl c hc hc7 a d p
  rw [zr_self rfl] at q
  exact q
theorem m_begin2 (G : Wd) (Z : ZS) : Cn G mX11_begin 0 [some (.ref 37), none] [] Z (qv (fun W => zr Z 37 (r108 rBegin (Z 37)) = W)) := by
  have q := m_begin G Z (Z 37) 37 (by decide) rfl
  rw [zr_self rfl] at q
  exact q
theorem rAdd_r {f r : Row} {a d p : Int} (h : ∀ j, j < 108 → f j = r j) (h59 : r 59 = 0) {j : Nat} (hj : j < 108) : rAdd f a d p j = rBill r a d p j := by
  have h6 := h 6 (by omega)
  have hj2 := h j hj
  unfold rAdd rBill
  rw [h6]
  unfold ru
  (repeat' split) <;> first | rfl | exact hj2 | (subst_vars; rw [hj2]; exact h59)

set_option maxRecDepth 20000 in
set_option maxHeartbeats 4000000 in
theorem m_isNumber (G : Wd) (Z : ZS) (n : Nat) (t : Row) (hT : MX n t Z) (p : Nat) (hp : p ≤ n) (h4 : Z 34 10 = (p : Int)) (lo hi : Int) (hl : 0 ≤ lo ∧ lo ≤ 1000) (hh : 0 ≤ hi ∧ hi ≤ 1000) : Cn G mX11_isNumber 0 [some (.ref 34), some (iv (lo)), some (iv (hi))] [] Z (qi (fun r W => MK n t p W ∧ FN Z W ∧ ((r = 1 ∧ tK n t p = 2 ∧ lo ≤ tV n t p ∧ tV n t p ≤ hi) ∨ (r = 0 ∧ ¬ (tK n t p = 2 ∧ lo ≤ tV n t p ∧ tV n t p ≤ hi))))) := by
  have hkI := tK_in (n := n) (t := t) (p := p)
  refine cz_aload_n (pc' := 1) (g_d dtbX11_isNumber_0 0 rfl) rfl rfl ?_
  refine nz_cVv (M' := mX11_nextToken) (k := 34) (As := []) (S := []) (L := [some (.ref 34), some (iv (lo)), some (iv (hi))]) (pc' := 4) (g_d dtbX11_isNumber_0 1 rfl) lk_X11_82 okX11_nextToken (by decide) rfl rfl rfl rfl (Nat.le_of_ble_eq_true rfl) (Nat.le_of_ble_eq_true rfl) (by decide) rfl (m_nextToken G Z n t hT p hp h4) ?_
  rintro W1 ⟨hk1, hf1⟩
  refine cz_aload_n (pc' := 5) (g_d dtbX11_isNumber_0 2 rfl) rfl rfl ?_
  refine nz_getf (v := iv (tK n t p)) (pc' := 8) (g_d dtbX11_isNumber_0 3 rfl) gf_X11_71 (by decide) rfl (congrArg iv (hk1.2.2.2.2.1)) rfl ?_
  refine nz_iconst (pc' := 9) (g_d dtbX11_isNumber_0 4 rfl) rfl ?_
  refine nz_icmp_ne (tgt := 28) (pc' := 12) (g_d dtbX11_isNumber_0 5 rfl) (by omega) (by omega) rfl rfl (fun h9 => ?_) (fun h9 => ?_)
  · refine nz_iconst (pc' := 29) (g_d dtbX11_isNumber_0 14 rfl) rfl ?_
    refine nz_ri .boolean (g_d dtbX11_isNumber_0 15 rfl) rfl rfl ?_
    exact ⟨hk1, hf1, by omega⟩
  · have hvI := tV_in h9
    refine cz_aload_n (pc' := 13) (g_d dtbX11_isNumber_0 6 rfl) rfl rfl ?_
    refine nz_getf (v := iv (tV n t p)) (pc' := 16) (g_d dtbX11_isNumber_0 7 rfl) gf_X11_68 (by decide) rfl (congrArg iv (hk1.2.2.2.2.2.1 h9)) rfl ?_
    refine cz_iload_n (pc' := 17) (g_d dtbX11_isNumber_0 8 rfl) rfl rfl ?_
    refine cz_iload_n (pc' := 18) (g_d dtbX11_isNumber_0 9 rfl) rfl rfl ?_
    refine nz_cSi (M' := mX11_in) (As := [iv (tV n t p), iv (lo), iv (hi)]) (S := []) (L := [some (.ref 34), some (iv (lo)), some (iv (hi))]) (pc' := 21) (g_d dtbX11_isNumber_0 10 rfl) lk_X11_40 okX11_in rfl rfl (Nat.le_of_ble_eq_true rfl) (Nat.le_of_ble_eq_true rfl) (by decide) rfl (m_in G W1 (tV n t p) lo hi (by omega) (by omega) (by omega)) ?_
    rintro _ _ ⟨rfl, ⟨rfl, hw18⟩ | ⟨rfl, hw18⟩⟩
    · refine nz_if_eq_f (pc' := 24) (g_d dtbX11_isNumber_0 11 rfl) (by omega) (by decide) rfl (by omega) ?_
      refine nz_iconst (pc' := 25) (g_d dtbX11_isNumber_0 12 rfl) rfl ?_
      refine cz_goto (pc' := 29) (g_d dtbX11_isNumber_0 13 rfl) rfl ?_
      refine nz_ri .boolean (g_d dtbX11_isNumber_0 15 rfl) rfl rfl ?_
      exact ⟨hk1, hf1, by omega⟩
    · refine nz_if_eq_t (tgt := 28) (g_d dtbX11_isNumber_0 11 rfl) (by omega) rfl (by omega) ?_
      refine nz_iconst (pc' := 29) (g_d dtbX11_isNumber_0 14 rfl) rfl ?_
      refine nz_ri .boolean (g_d dtbX11_isNumber_0 15 rfl) rfl rfl ?_
      exact ⟨hk1, hf1, by omega⟩

set_option maxRecDepth 20000 in
set_option maxHeartbeats 4000000 in
theorem m_isOne (G : Wd) (Z : ZS) (n : Nat) (t : Row) (p : Nat) (hT : MK n t p Z) (r : Row) (hD : DR Z r) (w : Nat) (hw : w < 6) (most times : Int) (hm : 0 ≤ most ∧ most ≤ 1000) : Cn G mX11_isOne 0 [some (.ref 34), some (iv ((w : Int))), some (iv (most)), some (iv (times))] [] Z (qi (fun v W => FI Z W ∧ IM n t (jOne n t w most times p r) v W)) := by
  have e1 := tE_le (t := t) hT.2.1
  have e2 := tE_le (t := t) e1.2
  refine cz_aload_n (pc' := 1) (g_d dtbX11_isOne_0 0 rfl) rfl rfl ?_
  refine nz_iconst (pc' := 2) (g_d dtbX11_isOne_0 1 rfl) rfl ?_
  refine cz_iload_n (pc' := 3) (g_d dtbX11_isOne_0 2 rfl) rfl rfl ?_
  refine nz_cVi (M' := mX11_isNumber) (k := 34) (As := [iv 0, iv (most)]) (S := []) (L := [some (.ref 34), some (iv ((w : Int))), some (iv (most)), some (iv (times))]) (pc' := 6) (g_d dtbX11_isOne_0 3 rfl) lk_X11_85 okX11_isNumber (by decide) rfl rfl rfl rfl (Nat.le_of_ble_eq_true rfl) (Nat.le_of_ble_eq_true rfl) (by decide) rfl (m_isNumber G Z n t hT.1 (tE n t p) e1.2 hT.2.2.2.1 0 most (by omega) (by omega)) ?_
  rintro _ W1 ⟨hk1, hf1, ⟨rfl, hw1⟩ | ⟨rfl, hw1⟩⟩
  · refine nz_if_ne_t (tgt := 11) (g_d dtbX11_isOne_0 4 rfl) (by omega) rfl (by omega) ?_
    refine cz_aload_n (pc' := 12) (g_d dtbX11_isOne_0 7 rfl) rfl rfl ?_
    refine nz_getf (v := .ref 37) (pc' := 15) (g_d dtbX11_isOne_0 8 rfl) gf_X11_16 (by decide) rfl rfl rfl ?_
    refine cz_iload_n (pc' := 16) (g_d dtbX11_isOne_0 9 rfl) rfl rfl ?_
    refine cz_iload_n (pc' := 17) (g_d dtbX11_isOne_0 10 rfl) rfl rfl ?_
    refine cz_aload_n (pc' := 18) (g_d dtbX11_isOne_0 11 rfl) rfl rfl ?_
    refine nz_getf (v := iv (tV n t (tE n t p))) (pc' := 21) (g_d dtbX11_isOne_0 12 rfl) gf_X11_68 (by decide) rfl (congrArg iv (hk1.2.2.2.2.2.1 hw1.1)) rfl ?_
    refine nz_imul (pc' := 22) (g_d dtbX11_isOne_0 13 rfl) rfl ?_
    refine nz_iast w (pc' := 23) (g_d dtbX11_isOne_0 14 rfl) (by decide) rfl (by omega) (by rfl) (by omega) rfl ?_
    refine nz_iconst (pc' := 24) (g_d dtbX11_isOne_0 15 rfl) rfl ?_
    refine nz_ri .boolean (g_d dtbX11_isOne_0 16 rfl) rfl rfl ?_
    refine ⟨(FI.n hf1).tr FI.d, Or.inl ⟨rfl, _, _, by unfold jOne iNum; rw [if_pos hw1], e2.2, ?_, fun j hj => ?_⟩⟩
    · rw [zu_row (by decide)]; exact hk1.2.2.2.1
    · by_cases q : j = w
      · rw [q, zu_eq, ru_eq]
      · rw [zu_ne (Or.inr q), ru_ne q]; exact (hD.fn hf1) j hj
  · refine nz_if_ne_f (pc' := 9) (g_d dtbX11_isOne_0 4 rfl) (by omega) (by decide) rfl (by omega) ?_
    refine nz_iconst (pc' := 10) (g_d dtbX11_isOne_0 5 rfl) rfl ?_
    refine nz_ri .boolean (g_d dtbX11_isOne_0 6 rfl) rfl rfl ?_
    exact ⟨FI.n hf1, Or.inr ⟨rfl, _, by unfold jOne iNum; rw [if_neg hw1], e1.2, hk1.2.2.1⟩⟩

set_option maxRecDepth 20000 in
set_option maxHeartbeats 4000000 in
theorem m_isBillItem (G : Wd) (Z : ZS) (n : Nat) (t : Row) (p : Nat) (hT : MK n t p Z) (r : Row) (hD : DR Z r) (h6 : 0 ≤ r 6 ∧ r 6 ≤ 7) (h59 : r 59 = 0) : Cn G mX11_isBillItem 0 [some (.ref 34), none, none] [] Z (qi (fun v W => FI Z W ∧ IM n t (if r 6 = 7 then .inl p else jBill n t p r) v W)) := by
  have e1 := tE_le (t := t) hT.2.1
  have e2 := tE_le (t := t) e1.2
  have e3 := tE_le (t := t) e2.2
  have e4 := tE_le (t := t) e3.2
  refine cz_aload_n (pc' := 1) (g_d dtbX11_isBillItem_0 0 rfl) rfl rfl ?_
  refine nz_getf (v := .ref 37) (pc' := 4) (g_d dtbX11_isBillItem_0 1 rfl) gf_X11_16 (by decide) rfl rfl rfl ?_
  refine nz_bipush (pc' := 6) (g_d dtbX11_isBillItem_0 2 rfl) (by decide) rfl ?_
  refine nz_iald 6 (pc' := 7) (g_d dtbX11_isBillItem_0 3 rfl) (by decide) rfl (by omega) (by rfl) (by omega) rfl ?_
  rw [show Z 37 6 = r 6 from hD 6 (by decide)]
  refine nz_bipush (pc' := 9) (g_d dtbX11_isBillItem_0 4 rfl) (by decide) rfl ?_
  refine nz_icmp_eq (tgt := 21) (pc' := 12) (g_d dtbX11_isBillItem_0 5 rfl) (by omega) (by omega) rfl rfl (fun h9 => ?_) (fun h9 => ?_)
  · refine nz_iconst (pc' := 22) (g_d dtbX11_isBillItem_0 11 rfl) rfl ?_
    refine nz_ri .boolean (g_d dtbX11_isBillItem_0 12 rfl) rfl rfl ?_
    exact ⟨FI.rf, Or.inr ⟨rfl, p, by rw [if_pos h9], hT.2.1, hT.2.2.1⟩⟩
  · refine cz_aload_n (pc' := 13) (g_d dtbX11_isBillItem_0 6 rfl) rfl rfl ?_
    refine nz_iconst (pc' := 14) (g_d dtbX11_isBillItem_0 7 rfl) rfl ?_
    refine nz_iconst (pc' := 15) (g_d dtbX11_isBillItem_0 8 rfl) rfl ?_
    refine nz_cVi (M' := mX11_isNumber) (k := 34) (As := [iv 0, iv 5]) (S := []) (L := [some (.ref 34), none, none]) (pc' := 18) (g_d dtbX11_isBillItem_0 9 rfl) lk_X11_85 okX11_isNumber (by decide) rfl rfl rfl rfl (Nat.le_of_ble_eq_true rfl) (Nat.le_of_ble_eq_true rfl) (by decide) rfl (m_isNumber G Z n t hT.1 (tE n t p) e1.2 hT.2.2.2.1 0 5 (by omega) (by omega)) ?_
    rintro _ W1 ⟨hk1, hf1, ⟨rfl, hw1⟩ | ⟨rfl, hw1⟩⟩
    · refine nz_if_ne_t (tgt := 23) (g_d dtbX11_isBillItem_0 10 rfl) (by omega) rfl (by omega) ?_
      refine cz_aload_n (pc' := 24) (g_d dtbX11_isBillItem_0 13 rfl) rfl rfl ?_
      refine nz_getf (v := iv (tV n t (tE n t p))) (pc' := 27) (g_d dtbX11_isBillItem_0 14 rfl) gf_X11_68 (by decide) rfl (congrArg iv (hk1.2.2.2.2.2.1 hw1.1)) rfl ?_
      refine cz_istore_n (L' := [some (.ref 34), some (iv (tV n t (tE n t p))), none]) (pc' := 28) (g_d dtbX11_isBillItem_0 15 rfl) (by decide) rfl rfl ?_
      refine cz_aload_n (pc' := 29) (g_d dtbX11_isBillItem_0 16 rfl) rfl rfl ?_
      refine nz_iconst (pc' := 30) (g_d dtbX11_isBillItem_0 17 rfl) rfl ?_
      refine nz_bipush (pc' := 32) (g_d dtbX11_isBillItem_0 18 rfl) (by decide) rfl ?_
      refine nz_cVi (M' := mX11_isNumber) (k := 34) (As := [iv 1, iv 28]) (S := []) (L := [some (.ref 34), some (iv (tV n t (tE n t p))), none]) (pc' := 35) (g_d dtbX11_isBillItem_0 19 rfl) lk_X11_85 okX11_isNumber (by decide) rfl rfl rfl rfl (Nat.le_of_ble_eq_true rfl) (Nat.le_of_ble_eq_true rfl) (by decide) rfl (m_isNumber G W1 n t hk1.1 (tE n t (tE n t p)) e2.2 hk1.2.2.2.1 1 28 (by omega) (by omega)) ?_
      rintro _ W2 ⟨hk2, hf2, ⟨rfl, hw2⟩ | ⟨rfl, hw2⟩⟩
      · refine nz_if_ne_t (tgt := 40) (g_d dtbX11_isBillItem_0 20 rfl) (by omega) rfl (by omega) ?_
        refine cz_aload_n (pc' := 41) (g_d dtbX11_isBillItem_0 23 rfl) rfl rfl ?_
        refine nz_getf (v := iv (tV n t (tE n t (tE n t p)))) (pc' := 44) (g_d dtbX11_isBillItem_0 24 rfl) gf_X11_68 (by decide) rfl (congrArg iv (hk2.2.2.2.2.2.1 hw2.1)) rfl ?_
        refine cz_istore_n (L' := [some (.ref 34), some (iv (tV n t (tE n t p))), some (iv (tV n t (tE n t (tE n t p))))]) (pc' := 45) (g_d dtbX11_isBillItem_0 25 rfl) (by decide) rfl rfl ?_
        refine cz_aload_n (pc' := 46) (g_d dtbX11_isBillItem_0 26 rfl) rfl rfl ?_
        refine nz_iconst (pc' := 47) (g_d dtbX11_isBillItem_0 27 rfl) rfl ?_
        refine nz_bipush (pc' := 49) (g_d dtbX11_isBillItem_0 28 rfl) (by decide) rfl ?_
        refine nz_cVi (M' := mX11_isNumber) (k := 34) (As := [iv 1, iv 99]) (S := []) (L := [some (.ref 34), some (iv (tV n t (tE n t p))), some (iv (tV n t (tE n t (tE n t p))))]) (pc' := 52) (g_d dtbX11_isBillItem_0 29 rfl) lk_X11_85 okX11_isNumber (by decide) rfl rfl rfl rfl (Nat.le_of_ble_eq_true rfl) (Nat.le_of_ble_eq_true rfl) (by decide) rfl (m_isNumber G W2 n t hk2.1 (tE n t (tE n t (tE n t p))) e3.2 hk2.2.2.2.1 1 99 (by omega) (by omega)) ?_
        rintro _ W3 ⟨hk3, hf3, ⟨rfl, hw3⟩ | ⟨rfl, hw3⟩⟩
        · refine nz_if_ne_t (tgt := 57) (g_d dtbX11_isBillItem_0 30 rfl) (by omega) rfl (by omega) ?_
          refine cz_aload_n (pc' := 58) (g_d dtbX11_isBillItem_0 33 rfl) rfl rfl ?_
          refine nz_getf (v := .ref 37) (pc' := 61) (g_d dtbX11_isBillItem_0 34 rfl) gf_X11_16 (by decide) rfl rfl rfl ?_
          refine cz_iload_n (pc' := 62) (g_d dtbX11_isBillItem_0 35 rfl) rfl rfl ?_
          refine cz_iload_n (pc' := 63) (g_d dtbX11_isBillItem_0 36 rfl) rfl rfl ?_
          refine cz_aload_n (pc' := 64) (g_d dtbX11_isBillItem_0 37 rfl) rfl rfl ?_
          refine nz_getf (v := iv (tV n t (tE n t (tE n t (tE n t p))))) (pc' := 67) (g_d dtbX11_isBillItem_0 38 rfl) gf_X11_68 (by decide) rfl (congrArg iv (hk3.2.2.2.2.2.1 hw3.1)) rfl ?_
          refine nz_cSi (M' := mX11_addBill) (As := [.ref 37, iv (tV n t (tE n t p)), iv (tV n t (tE n t (tE n t p))), iv (tV n t (tE n t (tE n t (tE n t p))))]) (S := []) (L := [some (.ref 34), some (iv (tV n t (tE n t p))), some (iv (tV n t (tE n t (tE n t p))))]) (pc' := 70) (g_d dtbX11_isBillItem_0 39 rfl) lk_X11_51 okX11_addBill rfl rfl (Nat.le_of_ble_eq_true rfl) (Nat.le_of_ble_eq_true rfl) (by decide) rfl (m_addBill2 G W3 (r 6).toNat (by rw [(((hD.fn hf1).fn hf2).fn hf3) 6 (by decide)]; omega) (by omega) (tV n t (tE n t p)) (tV n t (tE n t (tE n t p))) (tV n t (tE n t (tE n t (tE n t p))))) ?_
          rintro _ _ ⟨rfl, rfl⟩
          refine cz_pop (pc' := 71) (g_d dtbX11_isBillItem_0 40 rfl) rfl rfl ?_
          refine nz_iconst (pc' := 72) (g_d dtbX11_isBillItem_0 41 rfl) rfl ?_
          refine nz_ri .boolean (g_d dtbX11_isBillItem_0 42 rfl) rfl rfl ?_
          refine ⟨(((FI.n hf1).tr (FI.n hf2)).tr (FI.n hf3)).tr FI.r, Or.inl ⟨rfl, _, _, by rw [if_neg h9]; unfold jBill; rw [iNum, if_pos hw1, iNum, if_pos hw2, iNum, if_pos hw3], e4.2, ?_, fun j hj => ?_⟩⟩
          · rw [zr_ne (by decide)]; exact hk3.2.2.2.1
          · rw [zr_eq]; exact rAdd_r (((hD.fn hf1).fn hf2).fn hf3) h59 hj
        · refine nz_if_ne_f (pc' := 55) (g_d dtbX11_isBillItem_0 30 rfl) (by omega) (by decide) rfl (by omega) ?_
          refine nz_iconst (pc' := 56) (g_d dtbX11_isBillItem_0 31 rfl) rfl ?_
          refine nz_ri .boolean (g_d dtbX11_isBillItem_0 32 rfl) rfl rfl ?_
          exact ⟨((FI.n hf1).tr (FI.n hf2)).tr (FI.n hf3), Or.inr ⟨rfl, _, by rw [if_neg h9]; unfold jBill; rw [iNum, if_pos hw1, iNum, if_pos hw2, iNum, if_neg hw3], e3.2, hk3.2.2.1⟩⟩
      · refine nz_if_ne_f (pc' := 38) (g_d dtbX11_isBillItem_0 20 rfl) (by omega) (by decide) rfl (by omega) ?_
        refine nz_iconst (pc' := 39) (g_d dtbX11_isBillItem_0 21 rfl) rfl ?_
        refine nz_ri .boolean (g_d dtbX11_isBillItem_0 22 rfl) rfl rfl ?_
        exact ⟨(FI.n hf1).tr (FI.n hf2), Or.inr ⟨rfl, _, by rw [if_neg h9]; unfold jBill; rw [iNum, if_pos hw1, iNum, if_neg hw2], e2.2, hk2.2.2.1⟩⟩
    · refine nz_if_ne_f (pc' := 21) (g_d dtbX11_isBillItem_0 10 rfl) (by omega) (by decide) rfl (by omega) ?_
      refine nz_iconst (pc' := 22) (g_d dtbX11_isBillItem_0 11 rfl) rfl ?_
      refine nz_ri .boolean (g_d dtbX11_isBillItem_0 12 rfl) rfl rfl ?_
      exact ⟨FI.n hf1, Or.inr ⟨rfl, _, by rw [if_neg h9]; unfold jBill; rw [iNum, if_neg hw1], e1.2, hk1.2.2.1⟩⟩

theorem nz_lcz {G : Wd} {M : MD} {pc pc' : Nat} {L : List (Option Value)} {S : List Value} {Z : ZS} {Q : Option Value → ZS → Prop} {a b : Int} (hd : decode M.2.1 pc = .ok (.lcmp, 1)) (ha : -9223372036854775808 ≤ a ∧ a ≤ 9223372036854775807) (hb : -9223372036854775808 ≤ b ∧ b ≤ 9223372036854775807) (hp : pc + 1 = pc') (h : ∀ c : Int, (-1 ≤ c ∧ c ≤ 1) → (c = 0 ↔ a = b) → Cn G M pc' L (iv c :: S) Z Q) : Cn G M pc L (il b :: il a :: S) Z Q := by
  refine nz_lcmp hd ha hb hp (h _ ?_ ?_)
  · (repeat' split) <;> omega
  · constructor
    · intro q
      (repeat' split at q) <;> omega
    · intro q
      rw [if_neg (by omega), if_pos q]

set_option maxRecDepth 20000 in
set_option maxHeartbeats 4000000 in
theorem m_isItem (G : Wd) (Z : ZS) (n : Nat) (t : Row) (p : Nat) (hT : MK n t p Z) (r : Row) (hD : DR Z r) (i : Nat) (h15 : Z 34 15 = (i : Int)) (hi : i ≤ 1000) (h6 : 0 ≤ r 6 ∧ r 6 ≤ 7) (h59 : r 59 = 0) : Cn G mX11_isItem 0 [some (.ref 34), none] [] Z (qi (fun v W => FI Z W ∧ IM n t (jItem n t i p r) v W)) := by
  have hkI := tK_in (n := n) (t := t) (p := p)
  refine cz_aload_n (pc' := 1) (g_d dtbX11_isItem_0 0 rfl) rfl rfl ?_
  refine nz_getf (v := iv ((i : Int))) (pc' := 4) (g_d dtbX11_isItem_0 1 rfl) gf_X11_89 (by decide) rfl (congrArg iv (h15)) rfl ?_
  refine nz_if_ne (tgt := 11) (pc' := 7) (g_d dtbX11_isItem_0 2 rfl) (by omega) rfl rfl (fun h4 => ?_) (fun h4 => ?_)
  · refine nz_iconst (pc' := 12) (g_d dtbX11_isItem_0 5 rfl) rfl ?_
    refine cz_istore_n (L' := [some (.ref 34), some (iv 0)]) (pc' := 13) (g_d dtbX11_isItem_0 6 rfl) (by decide) rfl rfl ?_
    refine cz_aload_n (pc' := 14) (g_d dtbX11_isItem_0 7 rfl) rfl rfl ?_
    refine nz_getf (v := iv (tK n t p)) (pc' := 17) (g_d dtbX11_isItem_0 8 rfl) gf_X11_71 (by decide) rfl (congrArg iv (hT.2.2.2.2.1)) rfl ?_
    refine nz_iconst (pc' := 18) (g_d dtbX11_isItem_0 9 rfl) rfl ?_
    refine nz_icmp_ne (tgt := 41) (pc' := 21) (g_d dtbX11_isItem_0 10 rfl) (by omega) (by omega) rfl rfl (fun h18 => ?_) (fun h18 => ?_)
    · refine nz_iconst (pc' := 42) (g_d dtbX11_isItem_0 21 rfl) rfl ?_
      refine nz_ri .boolean (g_d dtbX11_isItem_0 22 rfl) rfl rfl ?_
      refine ⟨FI.rf, Or.inr ⟨rfl, p, ?_, hT.2.1, hT.2.2.1⟩⟩
      first | exact jItem_n h18 | (unfold jItem; rw [if_neg hs0, if_pos (by omega)]; done) | (unfold jItem; rw [if_pos hs0, if_neg (by omega)]; done)
    · have hwr := wdF_rg (t := t) (s := tS n t p) (m := tE n t p - tS n t p) (fun k hk => by have := tK1_all h18 hk; omega)
      refine cz_iload_n (pc' := 22) (g_d dtbX11_isItem_0 11 rfl) rfl rfl ?_
      refine cz_aload_n (pc' := 23) (g_d dtbX11_isItem_0 12 rfl) rfl rfl ?_
      refine nz_getf (v := il (wdF t (tS n t p) (tE n t p - tS n t p))) (pc' := 26) (g_d dtbX11_isItem_0 13 rfl) gf_X11_65 (by decide) rfl (congrArg il (hT.2.2.2.2.2.2 h18)) rfl ?_
      refine nz_ldc2 (pc' := 29) (v := 27412351463812724) (g_d dtbX11_isItem_0 14 rfl) kn_X11_92 rfl ?_
      refine nz_lcz (pc' := 30) (g_d dtbX11_isItem_0 15 rfl) hwr (by omega) rfl (fun c29 hc29 hz29 => ?_)
      refine nz_if_ne (tgt := 37) (pc' := 33) (g_d dtbX11_isItem_0 16 rfl) (by omega) rfl rfl (fun h30 => ?_) (fun h30 => ?_)
      · have hs0 : ¬ spB n t p 0 := fun q => h30 (hz29.mpr (by rw [← cd0]; exact (spB_iff (by decide) h18).mpr q))
        refine nz_iconst (pc' := 38) (g_d dtbX11_isItem_0 19 rfl) rfl ?_
        refine nz_icmp_eq_t (tgt := 43) (g_d dtbX11_isItem_0 20 rfl) (by omega) (by omega) rfl (by omega) ?_
        refine cz_iload_n (pc' := 44) (g_d dtbX11_isItem_0 23 rfl) rfl rfl ?_
        refine nz_if_eq_t (tgt := 57) (g_d dtbX11_isItem_0 24 rfl) (by omega) rfl (by omega) ?_
        refine cz_aload_n (pc' := 58) (g_d dtbX11_isItem_0 31 rfl) rfl rfl ?_
        refine nz_getf (v := il (wdF t (tS n t p) (tE n t p - tS n t p))) (pc' := 61) (g_d dtbX11_isItem_0 32 rfl) gf_X11_65 (by decide) rfl (congrArg il (hT.2.2.2.2.2.2 h18)) rfl ?_
        refine nz_ldc2 (pc' := 64) (v := 1651076204) (g_d dtbX11_isItem_0 33 rfl) kn_X11_97 rfl ?_
        refine nz_lcz (pc' := 65) (g_d dtbX11_isItem_0 34 rfl) hwr (by omega) rfl (fun c64 hc64 hz64 => ?_)
        refine nz_if_ne (tgt := 73) (pc' := 68) (g_d dtbX11_isItem_0 35 rfl) (by omega) rfl rfl (fun h65 => ?_) (fun h65 => ?_)
        · have hs1 : ¬ spB n t p 1 := fun q => h65 (hz64.mpr (by rw [← cd1]; exact (spB_iff (by decide) h18).mpr q))
          refine cz_aload_n (pc' := 74) (g_d dtbX11_isItem_0 39 rfl) rfl rfl ?_
          refine nz_getf (v := il (wdF t (tS n t p) (tE n t p - tS n t p))) (pc' := 77) (g_d dtbX11_isItem_0 40 rfl) gf_X11_65 (by decide) rfl (congrArg il (hT.2.2.2.2.2.2 h18)) rfl ?_
          refine nz_ldc2 (pc' := 80) (v := 495806934628) (g_d dtbX11_isItem_0 41 rfl) kn_X11_103 rfl ?_
          refine nz_lcz (pc' := 81) (g_d dtbX11_isItem_0 42 rfl) hwr (by omega) rfl (fun c80 hc80 hz80 => ?_)
          refine nz_if_ne (tgt := 95) (pc' := 84) (g_d dtbX11_isItem_0 43 rfl) (by omega) rfl rfl (fun h81 => ?_) (fun h81 => ?_)
          · have hs2 : ¬ spB n t p 2 := fun q => h81 (hz80.mpr (by rw [← cd2]; exact (spB_iff (by decide) h18).mpr q))
            refine cz_aload_n (pc' := 96) (g_d dtbX11_isItem_0 50 rfl) rfl rfl ?_
            refine nz_getf (v := il (wdF t (tS n t p) (tE n t p - tS n t p))) (pc' := 99) (g_d dtbX11_isItem_0 51 rfl) gf_X11_65 (by decide) rfl (congrArg il (hT.2.2.2.2.2.2 h18)) rfl ?_
            refine nz_ldc2 (pc' := 102) (v := 6971762) (g_d dtbX11_isItem_0 52 rfl) kn_X11_105 rfl ?_
            refine nz_lcz (pc' := 103) (g_d dtbX11_isItem_0 53 rfl) hwr (by omega) rfl (fun c102 hc102 hz102 => ?_)
            refine nz_if_ne (tgt := 121) (pc' := 106) (g_d dtbX11_isItem_0 54 rfl) (by omega) rfl rfl (fun h103 => ?_) (fun h103 => ?_)
            · refine nz_iconst (pc' := 122) (g_d dtbX11_isItem_1 3 rfl) rfl ?_
              refine nz_ri .boolean (g_d dtbX11_isItem_1 4 rfl) rfl rfl ?_
              have hs3 : ¬ spB n t p 3 := fun q => h103 (hz102.mpr (by rw [← cd3]; exact (spB_iff (by decide) h18).mpr q))
              exact ⟨FI.rf, Or.inr ⟨rfl, p, by unfold jItem; rw [if_neg hs0, if_neg (by omega), if_neg hs1, if_neg hs2, if_neg hs3], hT.2.1, hT.2.2.1⟩⟩
            · have hs3 : spB n t p 3 := (spB_iff (by decide) h18).mp (by rw [cd3]; exact hz102.mp h103)
              refine cz_aload_n (pc' := 107) (g_d dtbX11_isItem_0 55 rfl) rfl rfl ?_
              refine nz_iconst (pc' := 108) (g_d dtbX11_isItem_0 56 rfl) rfl ?_
              refine nz_bipush (pc' := 110) (g_d dtbX11_isItem_0 57 rfl) (by decide) rfl ?_
              refine nz_iconst (pc' := 111) (g_d dtbX11_isItem_0 58 rfl) rfl ?_
              refine nz_cVi (M' := mX11_isOne) (k := 34) (As := [iv 1, iv 99, iv 1]) (S := []) (L := [some (.ref 34), some (iv 0)]) (pc' := 114) (g_d dtbX11_isItem_0 59 rfl) lk_X11_94 okX11_isOne (by decide) rfl rfl rfl rfl (Nat.le_of_ble_eq_true rfl) (Nat.le_of_ble_eq_true rfl) (by decide) rfl (m_isOne G Z n t p hT r hD 1 (by decide) 99 1 (by decide)) ?_
              rintro _ V ⟨hfi, ⟨rfl, hir⟩ | ⟨rfl, hir⟩⟩
              · refine nz_if_eq_f (pc' := 117) (g_d dtbX11_isItem_1 0 rfl) (by omega) (by decide) rfl (by omega) ?_
                refine nz_iconst (pc' := 118) (g_d dtbX11_isItem_1 1 rfl) rfl ?_
                refine cz_goto (pc' := 122) (g_d dtbX11_isItem_1 2 rfl) rfl ?_
                refine nz_ri .boolean (g_d dtbX11_isItem_1 4 rfl) rfl rfl ?_
                first | rw [show jItem n t i p r = _ from by unfold jItem; rw [if_neg hs0, if_neg (by omega), if_neg hs1, if_pos hs2]] | rw [show jItem n t i p r = _ from by unfold jItem; rw [if_neg hs0, if_neg (by omega), if_neg hs1, if_neg hs2, if_pos hs3]]
                exact ⟨hfi, Or.inl ⟨rfl, hir⟩⟩
              · refine nz_if_eq_t (tgt := 121) (g_d dtbX11_isItem_1 0 rfl) (by omega) rfl (by omega) ?_
                refine nz_iconst (pc' := 122) (g_d dtbX11_isItem_1 3 rfl) rfl ?_
                refine nz_ri .boolean (g_d dtbX11_isItem_1 4 rfl) rfl rfl ?_
                first | rw [show jItem n t i p r = _ from by unfold jItem; rw [if_neg hs0, if_neg (by omega), if_neg hs1, if_pos hs2]] | rw [show jItem n t i p r = _ from by unfold jItem; rw [if_neg hs0, if_neg (by omega), if_neg hs1, if_neg hs2, if_pos hs3]]
                exact ⟨hfi, Or.inr ⟨rfl, hir⟩⟩
          · have hs2 : spB n t p 2 := (spB_iff (by decide) h18).mp (by rw [cd2]; exact hz80.mp h81)
            refine cz_aload_n (pc' := 85) (g_d dtbX11_isItem_0 44 rfl) rfl rfl ?_
            refine nz_iconst (pc' := 86) (g_d dtbX11_isItem_0 45 rfl) rfl ?_
            refine nz_bipush (pc' := 88) (g_d dtbX11_isItem_0 46 rfl) (by decide) rfl ?_
            refine nz_iconst (pc' := 89) (g_d dtbX11_isItem_0 47 rfl) rfl ?_
            refine nz_cVi (M' := mX11_isOne) (k := 34) (As := [iv 5, iv 30, iv 1]) (S := []) (L := [some (.ref 34), some (iv 0)]) (pc' := 92) (g_d dtbX11_isItem_0 48 rfl) lk_X11_94 okX11_isOne (by decide) rfl rfl rfl rfl (Nat.le_of_ble_eq_true rfl) (Nat.le_of_ble_eq_true rfl) (by decide) rfl (m_isOne G Z n t p hT r hD 5 (by decide) 30 1 (by decide)) ?_
            rintro _ V ⟨hfi, ⟨rfl, hir⟩ | ⟨rfl, hir⟩⟩
            · refine cz_goto (pc' := 122) (g_d dtbX11_isItem_0 49 rfl) rfl ?_
              refine nz_ri .boolean (g_d dtbX11_isItem_1 4 rfl) rfl rfl ?_
              first | rw [show jItem n t i p r = _ from by unfold jItem; rw [if_neg hs0, if_neg (by omega), if_neg hs1, if_pos hs2]] | rw [show jItem n t i p r = _ from by unfold jItem; rw [if_neg hs0, if_neg (by omega), if_neg hs1, if_neg hs2, if_pos hs3]]
              exact ⟨hfi, Or.inl ⟨rfl, hir⟩⟩
            · refine cz_goto (pc' := 122) (g_d dtbX11_isItem_0 49 rfl) rfl ?_
              refine nz_ri .boolean (g_d dtbX11_isItem_1 4 rfl) rfl rfl ?_
              first | rw [show jItem n t i p r = _ from by unfold jItem; rw [if_neg hs0, if_neg (by omega), if_neg hs1, if_pos hs2]] | rw [show jItem n t i p r = _ from by unfold jItem; rw [if_neg hs0, if_neg (by omega), if_neg hs1, if_neg hs2, if_pos hs3]]
              exact ⟨hfi, Or.inr ⟨rfl, hir⟩⟩
        · have hs1 : spB n t p 1 := (spB_iff (by decide) h18).mp (by rw [cd1]; exact hz64.mp h65)
          refine cz_aload_n (pc' := 69) (g_d dtbX11_isItem_0 36 rfl) rfl rfl ?_
          refine nz_cVi (M' := mX11_isBillItem) (k := 34) (As := []) (S := []) (L := [some (.ref 34), some (iv 0)]) (pc' := 72) (g_d dtbX11_isItem_0 37 rfl) lk_X11_99 okX11_isBillItem (by decide) rfl rfl rfl rfl (Nat.le_of_ble_eq_true rfl) (Nat.le_of_ble_eq_true rfl) (by decide) rfl (m_isBillItem G Z n t p hT r hD h6 h59) ?_
          rintro _ V ⟨hfi, ⟨rfl, hir⟩ | ⟨rfl, hir⟩⟩
          · refine nz_ri .boolean (g_d dtbX11_isItem_0 38 rfl) rfl rfl ?_
            rw [show jItem n t i p r = _ from by unfold jItem; rw [if_neg hs0, if_neg (by omega), if_pos hs1]]
            exact ⟨hfi, Or.inl ⟨rfl, hir⟩⟩
          · refine nz_ri .boolean (g_d dtbX11_isItem_0 38 rfl) rfl rfl ?_
            rw [show jItem n t i p r = _ from by unfold jItem; rw [if_neg hs0, if_neg (by omega), if_pos hs1]]
            exact ⟨hfi, Or.inr ⟨rfl, hir⟩⟩
      · have hs0 : spB n t p 0 := (spB_iff (by decide) h18).mp (by rw [cd0]; exact hz29.mp h30)
        refine nz_iconst (pc' := 34) (g_d dtbX11_isItem_0 17 rfl) rfl ?_
        refine cz_goto (pc' := 38) (g_d dtbX11_isItem_0 18 rfl) rfl ?_
        refine nz_icmp_eq_f (pc' := 41) (g_d dtbX11_isItem_0 20 rfl) (by omega) (by omega) (by decide) rfl (by omega) ?_
        refine nz_iconst (pc' := 42) (g_d dtbX11_isItem_0 21 rfl) rfl ?_
        refine nz_ri .boolean (g_d dtbX11_isItem_0 22 rfl) rfl rfl ?_
        refine ⟨FI.rf, Or.inr ⟨rfl, p, ?_, hT.2.1, hT.2.2.1⟩⟩
        first | exact jItem_n h18 | (unfold jItem; rw [if_neg hs0, if_pos (by omega)]; done) | (unfold jItem; rw [if_pos hs0, if_neg (by omega)]; done)
  · refine nz_iconst (pc' := 8) (g_d dtbX11_isItem_0 3 rfl) rfl ?_
    refine cz_goto (pc' := 12) (g_d dtbX11_isItem_0 4 rfl) rfl ?_
    refine cz_istore_n (L' := [some (.ref 34), some (iv 1)]) (pc' := 13) (g_d dtbX11_isItem_0 6 rfl) (by decide) rfl rfl ?_
    refine cz_aload_n (pc' := 14) (g_d dtbX11_isItem_0 7 rfl) rfl rfl ?_
    refine nz_getf (v := iv (tK n t p)) (pc' := 17) (g_d dtbX11_isItem_0 8 rfl) gf_X11_71 (by decide) rfl (congrArg iv (hT.2.2.2.2.1)) rfl ?_
    refine nz_iconst (pc' := 18) (g_d dtbX11_isItem_0 9 rfl) rfl ?_
    refine nz_icmp_ne (tgt := 41) (pc' := 21) (g_d dtbX11_isItem_0 10 rfl) (by omega) (by omega) rfl rfl (fun h18 => ?_) (fun h18 => ?_)
    · refine nz_iconst (pc' := 42) (g_d dtbX11_isItem_0 21 rfl) rfl ?_
      refine nz_ri .boolean (g_d dtbX11_isItem_0 22 rfl) rfl rfl ?_
      refine ⟨FI.rf, Or.inr ⟨rfl, p, ?_, hT.2.1, hT.2.2.1⟩⟩
      first | exact jItem_n h18 | (unfold jItem; rw [if_neg hs0, if_pos (by omega)]; done) | (unfold jItem; rw [if_pos hs0, if_neg (by omega)]; done)
    · have hwr := wdF_rg (t := t) (s := tS n t p) (m := tE n t p - tS n t p) (fun k hk => by have := tK1_all h18 hk; omega)
      refine cz_iload_n (pc' := 22) (g_d dtbX11_isItem_0 11 rfl) rfl rfl ?_
      refine cz_aload_n (pc' := 23) (g_d dtbX11_isItem_0 12 rfl) rfl rfl ?_
      refine nz_getf (v := il (wdF t (tS n t p) (tE n t p - tS n t p))) (pc' := 26) (g_d dtbX11_isItem_0 13 rfl) gf_X11_65 (by decide) rfl (congrArg il (hT.2.2.2.2.2.2 h18)) rfl ?_
      refine nz_ldc2 (pc' := 29) (v := 27412351463812724) (g_d dtbX11_isItem_0 14 rfl) kn_X11_92 rfl ?_
      refine nz_lcz (pc' := 30) (g_d dtbX11_isItem_0 15 rfl) hwr (by omega) rfl (fun c29 hc29 hz29 => ?_)
      refine nz_if_ne (tgt := 37) (pc' := 33) (g_d dtbX11_isItem_0 16 rfl) (by omega) rfl rfl (fun h30 => ?_) (fun h30 => ?_)
      · have hs0 : ¬ spB n t p 0 := fun q => h30 (hz29.mpr (by rw [← cd0]; exact (spB_iff (by decide) h18).mpr q))
        refine nz_iconst (pc' := 38) (g_d dtbX11_isItem_0 19 rfl) rfl ?_
        refine nz_icmp_eq_f (pc' := 41) (g_d dtbX11_isItem_0 20 rfl) (by omega) (by omega) (by decide) rfl (by omega) ?_
        refine nz_iconst (pc' := 42) (g_d dtbX11_isItem_0 21 rfl) rfl ?_
        refine nz_ri .boolean (g_d dtbX11_isItem_0 22 rfl) rfl rfl ?_
        refine ⟨FI.rf, Or.inr ⟨rfl, p, ?_, hT.2.1, hT.2.2.1⟩⟩
        first | exact jItem_n h18 | (unfold jItem; rw [if_neg hs0, if_pos (by omega)]; done) | (unfold jItem; rw [if_pos hs0, if_neg (by omega)]; done)
      · have hs0 : spB n t p 0 := (spB_iff (by decide) h18).mp (by rw [cd0]; exact hz29.mp h30)
        refine nz_iconst (pc' := 34) (g_d dtbX11_isItem_0 17 rfl) rfl ?_
        refine cz_goto (pc' := 38) (g_d dtbX11_isItem_0 18 rfl) rfl ?_
        refine nz_icmp_eq_t (tgt := 43) (g_d dtbX11_isItem_0 20 rfl) (by omega) (by omega) rfl (by omega) ?_
        refine cz_iload_n (pc' := 44) (g_d dtbX11_isItem_0 23 rfl) rfl rfl ?_
        refine nz_if_eq_f (pc' := 47) (g_d dtbX11_isItem_0 24 rfl) (by omega) (by decide) rfl (by omega) ?_
        refine cz_aload_n (pc' := 48) (g_d dtbX11_isItem_0 25 rfl) rfl rfl ?_
        refine nz_iconst (pc' := 49) (g_d dtbX11_isItem_0 26 rfl) rfl ?_
        refine nz_bipush (pc' := 51) (g_d dtbX11_isItem_0 27 rfl) (by decide) rfl ?_
        refine nz_bipush (pc' := 53) (g_d dtbX11_isItem_0 28 rfl) (by decide) rfl ?_
        refine nz_cVi (M' := mX11_isOne) (k := 34) (As := [iv 0, iv 99, iv 10]) (S := []) (L := [some (.ref 34), some (iv 1)]) (pc' := 56) (g_d dtbX11_isItem_0 29 rfl) lk_X11_94 okX11_isOne (by decide) rfl rfl rfl rfl (Nat.le_of_ble_eq_true rfl) (Nat.le_of_ble_eq_true rfl) (by decide) rfl (m_isOne G Z n t p hT r hD 0 (by decide) 99 10 (by decide)) ?_
        rintro _ V ⟨hfi, ⟨rfl, hir⟩ | ⟨rfl, hir⟩⟩
        · refine nz_ri .boolean (g_d dtbX11_isItem_0 30 rfl) rfl rfl ?_
          rw [show jItem n t i p r = _ from by unfold jItem; rw [if_pos hs0, if_pos (by omega)]]
          exact ⟨hfi, Or.inl ⟨rfl, hir⟩⟩
        · refine nz_ri .boolean (g_d dtbX11_isItem_0 30 rfl) rfl rfl ?_
          rw [show jItem n t i p r = _ from by unfold jItem; rw [if_pos hs0, if_pos (by omega)]]
          exact ⟨hfi, Or.inr ⟨rfl, hir⟩⟩

def JM (n : Nat) (t : Row) (e : RR) (v : Int) (W : ZS) : Prop := (v = 0 ∧ ∃ q, e = .inl q ∧ q ≤ n ∧ W 34 11 = (tS n t q : Int)) ∨ (v = 1 ∧ ∃ (i : Nat) (r' : Row), e = .inr (i, r') ∧ i ≤ n ∧ W 34 15 = (i : Int) ∧ DR W r')

set_option maxRecDepth 20000 in
set_option maxHeartbeats 4000000 in
theorem l_isRead (G : Wd) (n : Nat) (t : Row) : ∀ (d i p : Nat) (r : Row) (Z : ZS), n - p < d → i ≤ p → MK n t p Z → Z 34 15 = (i : Int) → DR Z r → (RO 4000 r ∧ r 59 = 0) → Cn G mX11_isRead 21 [some (.ref 34)] [] Z (qi (fun v W => FR Z W ∧ JM n t (rdF n t d i p r) v W)) := by
  intro d
  induction d with
  | zero => intro i p r Z h; exact absurd h (Nat.not_lt_zero _)
  | succ d ih =>
    intro i p r Z hd hip hT h15 hD hR
    have hkI := tK_in (n := n) (t := t) (p := p)
    have hn := hT.1.1.1
    have hpn := hT.2.1
    refine cz_aload_n (pc' := 22) (g_d dtbX11_isRead_0 11 rfl) rfl rfl ?_
    refine nz_getf (v := iv (tK n t p)) (pc' := 25) (g_d dtbX11_isRead_0 12 rfl) gf_X11_71 (by decide) rfl (congrArg iv (hT.2.2.2.2.1)) rfl ?_
    refine nz_if_ne (tgt := 35) (pc' := 28) (g_d dtbX11_isRead_0 13 rfl) (by omega) rfl rfl (fun h25 => ?_) (fun h25 => ?_)
    · refine cz_aload_n (pc' := 36) (g_d dtbX11_isRead_0 17 rfl) rfl rfl ?_
      refine nz_cVi (M' := mX11_isItem) (k := 34) (As := []) (S := []) (L := [some (.ref 34)]) (pc' := 39) (g_d dtbX11_isRead_0 18 rfl) lk_X11_107 okX11_isItem (by decide) rfl rfl rfl rfl (Nat.le_of_ble_eq_true rfl) (Nat.le_of_ble_eq_true rfl) (by decide) rfl (m_isItem G Z n t p hT r hD i h15 (by omega) hR.1.2.1 hR.2) ?_
      rintro _ W1 ⟨hf1, ⟨rfl, q, r1, hq, hqn, hq4, hd1⟩ | ⟨rfl, q, hq, hqn, hq3⟩⟩
      · have hkQ := tK_in (n := n) (t := t) (p := q)
        refine nz_if_ne_t (tgt := 44) (g_d dtbX11_isRead_0 19 rfl) (by omega) rfl (by omega) ?_
        refine cz_aload_n (pc' := 45) (g_d dtbX11_isRead_0 22 rfl) rfl rfl ?_
        refine nz_cVv (M' := mX11_nextToken) (k := 34) (As := []) (S := []) (L := [some (.ref 34)]) (pc' := 48) (g_d dtbX11_isRead_0 23 rfl) lk_X11_82 okX11_nextToken (by decide) rfl rfl rfl rfl (Nat.le_of_ble_eq_true rfl) (Nat.le_of_ble_eq_true rfl) (by decide) rfl (m_nextToken G W1 n t (hT.1.fi hf1) q hqn hq4) ?_
        rintro W2 ⟨hk2, hf2⟩
        refine cz_aload_n (pc' := 49) (g_d dtbX11_isRead_0 24 rfl) rfl rfl ?_
        refine nz_getf (v := iv (tK n t q)) (pc' := 52) (g_d dtbX11_isRead_0 25 rfl) gf_X11_71 (by decide) rfl (congrArg iv (hk2.2.2.2.2.1)) rfl ?_
        refine nz_iconst (pc' := 53) (g_d dtbX11_isRead_0 26 rfl) rfl ?_
        refine nz_icmp_eq (tgt := 58) (pc' := 56) (g_d dtbX11_isRead_0 27 rfl) (by omega) (by omega) rfl rfl (fun h53 => ?_) (fun h53 => ?_)
        · have h15b : W2 34 15 = (i : Int) := by rw [hf2.2 15 (by omega), hf1.2 15 (by omega)]; exact h15
          refine cz_aload_n (pc' := 59) (g_d dtbX11_isRead_0 30 rfl) rfl rfl ?_
          refine cz_dup (pc' := 60) (g_d dtbX11_isRead_0 31 rfl) rfl rfl ?_
          refine nz_getf (v := iv ((i : Int))) (pc' := 63) (g_d dtbX11_isRead_0 32 rfl) gf_X11_89 (by decide) rfl (congrArg iv (h15b)) rfl ?_
          refine nz_iconst (pc' := 64) (g_d dtbX11_isRead_0 33 rfl) rfl ?_
          refine nz_iadd (pc' := 65) (g_d dtbX11_isRead_0 34 rfl) rfl ?_
          refine nz_puti (pc' := 68) (g_d dtbX11_isRead_0 35 rfl) pf_X11_89 rfl (by decide) rfl rfl ?_
          refine cz_aload_n (pc' := 69) (g_d dtbX11_isRead_0 36 rfl) rfl rfl ?_
          refine nz_cVv (M' := mX11_nextToken) (k := 34) (As := []) (S := []) (L := [some (.ref 34)]) (pc' := 72) (g_d dtbX11_isRead_0 37 rfl) lk_X11_82 okX11_nextToken (by decide) rfl rfl rfl rfl (Nat.le_of_ble_eq_true rfl) (Nat.le_of_ble_eq_true rfl) (by decide) rfl (m_nextToken G (zu W2 34 15 (((i : Int)) + 1)) n t (hk2.1.fr (FR.w (by decide))) (tE n t q) (tE_le hqn).2 ((zu_ne (by omega)).trans hk2.2.2.2.1)) ?_
          rintro W3 ⟨hk3, hf3⟩
          refine cz_goto (pc' := 21) (g_d dtbX11_isRead_0 38 rfl) rfl ?_
          have hii := it_s hq h53
          have hpq := iItem_in hT.2.1 hii
          refine nz_wi (ih (i + 1) (tE n t q) r1 W3 (by omega) (by omega) hk3 ((hf3.2 15 (by omega)).trans (zu_eq.trans (by omega))) (fun j hj => by rw [hf3.1 37 (by decide), zu_row (by decide)]; exact (hd1.fn hf2) j hj) (ro_item hR hii)) (fun v V h => ⟨(((hf1.q.tr (FR.n hf2)).tr (FR.w (by decide))).tr (FR.n hf3)).tr h.1, ?_⟩)
          rw [rd_g hq h53]
          exact h.2
        · refine nz_iconst (pc' := 57) (g_d dtbX11_isRead_0 28 rfl) rfl ?_
          refine nz_ri .boolean (g_d dtbX11_isRead_0 29 rfl) rfl rfl ?_
          exact ⟨hf1.q.tr (FR.n hf2), Or.inl ⟨rfl, q, rd_s hq h53, hqn, hk2.2.2.1⟩⟩
      · refine nz_if_ne_f (pc' := 42) (g_d dtbX11_isRead_0 19 rfl) (by omega) (by decide) rfl (by omega) ?_
        refine nz_iconst (pc' := 43) (g_d dtbX11_isRead_0 20 rfl) rfl ?_
        refine nz_ri .boolean (g_d dtbX11_isRead_0 21 rfl) rfl rfl ?_
        exact ⟨hf1.q, Or.inl ⟨rfl, q, rd_f hq (by omega), hqn, hq3⟩⟩
    · refine cz_aload_n (pc' := 29) (g_d dtbX11_isRead_0 14 rfl) rfl rfl ?_
      refine nz_getf (v := iv ((i : Int))) (pc' := 32) (g_d dtbX11_isRead_0 15 rfl) gf_X11_89 (by decide) rfl (congrArg iv (h15)) rfl ?_
      refine nz_if_ne (tgt := 75) (pc' := 35) (g_d dtbX11_isRead_0 16 rfl) (by omega) rfl rfl (fun h32 => ?_) (fun h32 => ?_)
      · refine nz_iconst (pc' := 76) (g_d dtbX11_isRead_0 39 rfl) rfl ?_
        refine nz_ri .boolean (g_d dtbX11_isRead_0 40 rfl) rfl rfl ?_
        exact ⟨FR.rf, Or.inr ⟨rfl, i, r, by rw [rdF, if_pos (by omega), if_neg (by omega)], by omega, h15, hD⟩⟩
      · refine cz_aload_n (pc' := 36) (g_d dtbX11_isRead_0 17 rfl) rfl rfl ?_
        refine nz_cVi (M' := mX11_isItem) (k := 34) (As := []) (S := []) (L := [some (.ref 34)]) (pc' := 39) (g_d dtbX11_isRead_0 18 rfl) lk_X11_107 okX11_isItem (by decide) rfl rfl rfl rfl (Nat.le_of_ble_eq_true rfl) (Nat.le_of_ble_eq_true rfl) (by decide) rfl (m_isItem G Z n t p hT r hD i h15 (by omega) hR.1.2.1 hR.2) ?_
        rintro _ W1 ⟨hf1, ⟨rfl, q, r1, hq, hqn, hq4, hd1⟩ | ⟨rfl, q, hq, hqn, hq3⟩⟩
        · have hkQ := tK_in (n := n) (t := t) (p := q)
          refine nz_if_ne_t (tgt := 44) (g_d dtbX11_isRead_0 19 rfl) (by omega) rfl (by omega) ?_
          refine cz_aload_n (pc' := 45) (g_d dtbX11_isRead_0 22 rfl) rfl rfl ?_
          refine nz_cVv (M' := mX11_nextToken) (k := 34) (As := []) (S := []) (L := [some (.ref 34)]) (pc' := 48) (g_d dtbX11_isRead_0 23 rfl) lk_X11_82 okX11_nextToken (by decide) rfl rfl rfl rfl (Nat.le_of_ble_eq_true rfl) (Nat.le_of_ble_eq_true rfl) (by decide) rfl (m_nextToken G W1 n t (hT.1.fi hf1) q hqn hq4) ?_
          rintro W2 ⟨hk2, hf2⟩
          refine cz_aload_n (pc' := 49) (g_d dtbX11_isRead_0 24 rfl) rfl rfl ?_
          refine nz_getf (v := iv (tK n t q)) (pc' := 52) (g_d dtbX11_isRead_0 25 rfl) gf_X11_71 (by decide) rfl (congrArg iv (hk2.2.2.2.2.1)) rfl ?_
          refine nz_iconst (pc' := 53) (g_d dtbX11_isRead_0 26 rfl) rfl ?_
          refine nz_icmp_eq (tgt := 58) (pc' := 56) (g_d dtbX11_isRead_0 27 rfl) (by omega) (by omega) rfl rfl (fun h53 => ?_) (fun h53 => ?_)
          · have h15b : W2 34 15 = (i : Int) := by rw [hf2.2 15 (by omega), hf1.2 15 (by omega)]; exact h15
            refine cz_aload_n (pc' := 59) (g_d dtbX11_isRead_0 30 rfl) rfl rfl ?_
            refine cz_dup (pc' := 60) (g_d dtbX11_isRead_0 31 rfl) rfl rfl ?_
            refine nz_getf (v := iv ((i : Int))) (pc' := 63) (g_d dtbX11_isRead_0 32 rfl) gf_X11_89 (by decide) rfl (congrArg iv (h15b)) rfl ?_
            refine nz_iconst (pc' := 64) (g_d dtbX11_isRead_0 33 rfl) rfl ?_
            refine nz_iadd (pc' := 65) (g_d dtbX11_isRead_0 34 rfl) rfl ?_
            refine nz_puti (pc' := 68) (g_d dtbX11_isRead_0 35 rfl) pf_X11_89 rfl (by decide) rfl rfl ?_
            refine cz_aload_n (pc' := 69) (g_d dtbX11_isRead_0 36 rfl) rfl rfl ?_
            refine nz_cVv (M' := mX11_nextToken) (k := 34) (As := []) (S := []) (L := [some (.ref 34)]) (pc' := 72) (g_d dtbX11_isRead_0 37 rfl) lk_X11_82 okX11_nextToken (by decide) rfl rfl rfl rfl (Nat.le_of_ble_eq_true rfl) (Nat.le_of_ble_eq_true rfl) (by decide) rfl (m_nextToken G (zu W2 34 15 (((i : Int)) + 1)) n t (hk2.1.fr (FR.w (by decide))) (tE n t q) (tE_le hqn).2 ((zu_ne (by omega)).trans hk2.2.2.2.1)) ?_
            rintro W3 ⟨hk3, hf3⟩
            refine cz_goto (pc' := 21) (g_d dtbX11_isRead_0 38 rfl) rfl ?_
            have hii := it_s hq h53
            have hpq := iItem_in hT.2.1 hii
            refine nz_wi (ih (i + 1) (tE n t q) r1 W3 (by omega) (by omega) hk3 ((hf3.2 15 (by omega)).trans (zu_eq.trans (by omega))) (fun j hj => by rw [hf3.1 37 (by decide), zu_row (by decide)]; exact (hd1.fn hf2) j hj) (ro_item hR hii)) (fun v V h => ⟨(((hf1.q.tr (FR.n hf2)).tr (FR.w (by decide))).tr (FR.n hf3)).tr h.1, ?_⟩)
            rw [rd_g hq h53]
            exact h.2
          · refine nz_iconst (pc' := 57) (g_d dtbX11_isRead_0 28 rfl) rfl ?_
            refine nz_ri .boolean (g_d dtbX11_isRead_0 29 rfl) rfl rfl ?_
            exact ⟨hf1.q.tr (FR.n hf2), Or.inl ⟨rfl, q, rd_s hq h53, hqn, hk2.2.2.1⟩⟩
        · refine nz_if_ne_f (pc' := 42) (g_d dtbX11_isRead_0 19 rfl) (by omega) (by decide) rfl (by omega) ?_
          refine nz_iconst (pc' := 43) (g_d dtbX11_isRead_0 20 rfl) rfl ?_
          refine nz_ri .boolean (g_d dtbX11_isRead_0 21 rfl) rfl rfl ?_
          exact ⟨hf1.q, Or.inl ⟨rfl, q, rd_f hq (by omega), hqn, hq3⟩⟩

set_option maxRecDepth 20000 in
set_option maxHeartbeats 4000000 in
theorem m_isRead (G : Wd) (Z : ZS) (n : Nat) (t : Row) (hT : MX n t Z) : Cn G mX11_isRead 0 [some (.ref 34)] [] Z (qi (fun v W => FR Z W ∧ JM n t (rdF n t (n + 1) 0 0 (ru rBegin 0 0)) v W)) := by
  refine cz_aload_n (pc' := 1) (g_d dtbX11_isRead_0 0 rfl) rfl rfl ?_
  refine nz_getf (v := .ref 37) (pc' := 4) (g_d dtbX11_isRead_0 1 rfl) gf_X11_16 (by decide) rfl rfl rfl ?_
  refine nz_cSv (M' := mX11_begin) (As := [.ref 37]) (S := []) (L := [some (.ref 34)]) (pc' := 7) (g_d dtbX11_isRead_0 2 rfl) lk_X11_36 okX11_begin rfl rfl (Nat.le_of_ble_eq_true rfl) (Nat.le_of_ble_eq_true rfl) (by decide) rfl (m_begin2 G Z) ?_
  rintro _ rfl
  refine cz_aload_n (pc' := 8) (g_d dtbX11_isRead_0 3 rfl) rfl rfl ?_
  refine nz_iconst (pc' := 9) (g_d dtbX11_isRead_0 4 rfl) rfl ?_
  refine nz_puti (pc' := 12) (g_d dtbX11_isRead_0 5 rfl) pf_X11_59 rfl (by decide) rfl rfl ?_
  refine cz_aload_n (pc' := 13) (g_d dtbX11_isRead_0 6 rfl) rfl rfl ?_
  refine nz_iconst (pc' := 14) (g_d dtbX11_isRead_0 7 rfl) rfl ?_
  refine nz_puti (pc' := 17) (g_d dtbX11_isRead_0 8 rfl) pf_X11_89 rfl (by decide) rfl rfl ?_
  refine cz_aload_n (pc' := 18) (g_d dtbX11_isRead_0 9 rfl) rfl rfl ?_
  refine nz_cVv (M' := mX11_nextToken) (k := 34) (As := []) (S := []) (L := [some (.ref 34)]) (pc' := 21) (g_d dtbX11_isRead_0 10 rfl) lk_X11_82 okX11_nextToken (by decide) rfl rfl rfl rfl (Nat.le_of_ble_eq_true rfl) (Nat.le_of_ble_eq_true rfl) (by decide) rfl (m_nextToken G (zu (zu (zr Z 37 (r108 rBegin (Z 37))) 34 10 0) 34 15 0) n t (hT.fr ((FR.r.tr (FR.w (by decide))).tr (FR.w (by decide)))) 0 (Nat.zero_le _) ((zu_ne (by omega)).trans zu_eq)) ?_
  rintro W1 ⟨hk1, hf1⟩
  refine nz_wi (l_isRead G n t (n + 1) 0 0 (ru rBegin 0 0) W1 (by omega) (Nat.le_refl _) hk1 ((hf1.2 15 (by omega)).trans zu_eq) (fun j hj => ?_) ro_0) (fun v V h => ⟨(((FR.r.tr (FR.w (by decide))).tr (FR.w (by decide))).tr (FR.n hf1)).tr h.1, h.2⟩)
  rw [hf1.1 37 (by decide), zu_row (by decide), zu_row (by decide), zr_eq, r108_at hj]
  by_cases q0 : j = 0
  · subst q0; rfl
  · rw [ru_ne q0]

theorem MS.fq {Z W : ZS} {A : AS} (h : MS Z A) (g : FR Z W) : MS W A := by
  obtain ⟨h1, h2, h3, h4, h5, h6⟩ := h
  unfold MS
  rw [g.1 35 (by omega) (by omega), g.1 39 (by omega) (by omega), g.1 38 (by omega) (by omega), g.1 41 (by omega) (by omega), g.1 40 (by omega) (by omega), g.2 8 (by omega), g.2 6 (by omega), g.2 7 (by omega)]
  exact ⟨h1, h2, h3, h4, h5, h6⟩
theorem FR.fc {Z W : ZS} (h : FR Z W) : FC Z W := fun a ha => h.1 a (by omega) (by omega)

set_option maxRecDepth 20000 in
set_option maxHeartbeats 4000000 in
theorem b_read (G : Wd) (Z : ZS) (A : AS) (B : Int) (hM : MS Z A) (hA : AO B A) : Cn G mX11_read 0 [some (.ref 34)] [] Z (qi (fun r W => (xRead A).1 = r ∧ MS W (xRead A).2 ∧ FC Z W)) := by
  have hb0 := hA.1
  have hO := hA.2.1
  have h6 : 0 ≤ A.1 6 ∧ A.1 6 ≤ 7 := hO.2.1
  have h28 : 0 ≤ A.1 28 ∧ A.1 28 ≤ 6 := hO.2.2.2.1
  have h59 : 0 ≤ A.1 59 ∧ A.1 59 ≤ 8 := hO.2.2.2.2.2.1
  have hf := hO.1
  unfold FO at hf
  have hct := hA.2.2.2.2.2.2
  have ht := hM.2.2.2.1
  have hto := hA.2.2.2.2.1
  refine cz_aload_n (pc' := 1) (g_d dtbX11_read_0 0 rfl) rfl rfl ?_
  refine nz_cVi (M' := mX11_isRead) (k := 34) (As := []) (S := []) (L := [some (.ref 34)]) (pc' := 4) (g_d dtbX11_read_0 1 rfl) lk_X11_110 okX11_isRead (by decide) rfl rfl rfl rfl (Nat.le_of_ble_eq_true rfl) (Nat.le_of_ble_eq_true rfl) (by decide) rfl (m_isRead G Z A.2.2.2.1.1 A.2.2.2.1.2 ⟨hto, ht⟩) ?_
  rintro _ W1 ⟨hf1, ⟨rfl, q, hq, hqn, hq3⟩ | ⟨rfl, i, r1, hq, hin, h15, hd1⟩⟩
  · refine nz_if_ne_f (pc' := 7) (g_d dtbX11_read_0 2 rfl) (by omega) (by decide) rfl (by omega) ?_
    refine nz_bipush (pc' := 9) (g_d dtbX11_read_0 3 rfl) (by decide) rfl ?_
    refine cz_aload_n (pc' := 10) (g_d dtbX11_read_0 4 rfl) rfl rfl ?_
    refine nz_getf (v := iv ((tS A.2.2.2.1.1 A.2.2.2.1.2 q : Int))) (pc' := 13) (g_d dtbX11_read_0 5 rfl) gf_X11_62 (by decide) rfl (congrArg iv (hq3)) rfl ?_
    refine nz_isub (pc' := 14) (g_d dtbX11_read_0 6 rfl) rfl ?_
    refine nz_ri .int (g_d dtbX11_read_0 7 rfl) rfl rfl ?_
    rw [show xRead A = (-10 - (tS A.2.2.2.1.1 A.2.2.2.1.2 q : Int), A) from by unfold xRead; rw [hq]]
    exact ⟨rfl, hM.fq hf1, hf1.fc⟩
  · refine nz_if_ne_t (tgt := 15) (g_d dtbX11_read_0 2 rfl) (by omega) rfl (by omega) ?_
    refine cz_aload_n (pc' := 16) (g_d dtbX11_read_0 8 rfl) rfl rfl ?_
    refine nz_getf (v := .ref 37) (pc' := 19) (g_d dtbX11_read_0 9 rfl) gf_X11_16 (by decide) rfl rfl rfl ?_
    refine nz_iconst (pc' := 20) (g_d dtbX11_read_0 10 rfl) rfl ?_
    refine cz_aload_n (pc' := 21) (g_d dtbX11_read_0 11 rfl) rfl rfl ?_
    refine nz_getf (v := .ref 35) (pc' := 24) (g_d dtbX11_read_0 12 rfl) gf_X11_7 (by decide) rfl rfl rfl ?_
    refine nz_iconst (pc' := 25) (g_d dtbX11_read_0 13 rfl) rfl ?_
    refine nz_bipush (pc' := 27) (g_d dtbX11_read_0 14 rfl) (by decide) rfl ?_
    refine nz_cSv (M' := mX11_bring) (As := [.ref 37, iv 0, .ref 35, iv 0, iv 108]) (S := []) (L := [some (.ref 34)]) (pc' := 30) (g_d dtbX11_read_0 15 rfl) lk_X11_113 okX11_bring rfl rfl (Nat.le_of_ble_eq_true rfl) (Nat.le_of_ble_eq_true rfl) (by decide) rfl (m_bring2 G W1 0 0 108 37 35 0 0 108 108 108 (by decide) (by decide) rfl rfl (by decide) (by decide) (by decide) (by decide) (by decide) rfl rfl rfl) ?_
    rintro _ rfl
    refine cz_aload_n (pc' := 31) (g_d dtbX11_read_0 16 rfl) rfl rfl ?_
    refine nz_getf (v := iv ((i : Int))) (pc' := 34) (g_d dtbX11_read_0 17 rfl) gf_X11_89 (by decide) rfl (congrArg iv (by rw [zr_ne (by decide)]; exact h15)) rfl ?_
    refine nz_ri .int (g_d dtbX11_read_0 18 rfl) rfl rfl ?_
    rw [show xRead A = ((i : Int), sF A (r108 r1 A.1)) from by unfold xRead; rw [hq]]
    have e : zcp (W1 37) (W1 35) 0 0 108 = r108 r1 A.1 := by
      funext x
      unfold zcp r108
      by_cases hx : x < 108
      · rw [if_pos (by omega), if_pos hx, show 0 + (x - 0) = x by omega]; exact hd1 x hx
      · rw [if_neg (by omega), if_neg hx, hf1.1 35 (by decide) (by decide), hM.1]
    exact ⟨rfl, e ▸ (hM.fq hf1).row, hf1.fc.tr (FC.r FC.rf (by decide))⟩
