/-! reading, told once: a fault at the token from p on; or read up to q, with a row -/
abbrev RR : Type := Nat ⊕ (Nat × Row)
abbrev spB (n : Nat) (t : Row) (p i : Nat) : Prop := tK n t p = 1 ∧ tE n t p - tS n t p = sL i ∧ ∀ k, k < sL i → t (tS n t p + k) = sB i k
def iNum (n : Nat) (t : Row) (lo hi : Int) (p : Nat) (k : RR) : RR := if tK n t p = 2 ∧ lo ≤ tV n t p ∧ tV n t p ≤ hi then k else .inl p
def iStop (n : Nat) (t : Row) (p : Nat) (r : Row) : RR := if tK n t p = 3 then .inr (tE n t p, r) else .inl p
def iOne (n : Nat) (t : Row) (w : Nat) (most times : Int) (p : Nat) (r : Row) : RR := iNum n t 0 most (tE n t p) (iStop n t (tE n t (tE n t p)) (ru r w (times * tV n t (tE n t p))))
def iBill (n : Nat) (t : Row) (p : Nat) (r : Row) : RR := iNum n t 0 5 (tE n t p) (iNum n t 1 28 (tE n t (tE n t p)) (iNum n t 1 99 (tE n t (tE n t (tE n t p))) (iStop n t (tE n t (tE n t (tE n t (tE n t p)))) (rBill r (tV n t (tE n t p)) (tV n t (tE n t (tE n t p))) (tV n t (tE n t (tE n t (tE n t p))))))))
def iItem (n : Nat) (t : Row) (i p : Nat) (r : Row) : RR := if spB n t p 0 then (if i = 0 then iOne n t 0 99 10 p r else .inl p) else if i = 0 then .inl p else if spB n t p 1 then (if r 6 = 7 then .inl p else iBill n t p r) else if spB n t p 2 then iOne n t 5 30 1 p r else if spB n t p 3 then iOne n t 1 99 1 p r else .inl p
def rdF (n : Nat) (t : Row) : Nat → Nat → Nat → Row → RR
  | 0, _, p, _ => .inl p
  | d + 1, i, p, r => if tK n t p = 0 then (if i = 0 then .inl p else .inr (i, r)) else match iItem n t i p r with
    | .inl q => .inl q
    | .inr (q, r') => rdF n t d (i + 1) q r'
theorem tK_in {n : Nat} {t : Row} {p : Nat} : 0 ≤ tK n t p ∧ tK n t p ≤ 4 := by
  unfold tK
  (repeat' split) <;> omega
theorem tK_lt {n : Nat} {t : Row} {p : Nat} (h : tK n t p ≠ 0) : tS n t p < n := by
  by_cases q : tS n t p < n
  · exact q
  · exact absurd (by unfold tK; rw [if_neg q]) h
theorem tE_gt {n : Nat} {t : Row} {p : Nat} (h : tK n t p ≠ 0) : tS n t p < tE n t p := by
  have q := tK_lt h
  unfold tE
  rw [if_pos q]
  split
  · exact sk_gt ⟨q, by assumption⟩
  · split
    · exact sk_gt ⟨q, by assumption⟩
    · omega
theorem tV_in {n : Nat} {t : Row} {p : Nat} (h : tK n t p = 2) : 0 ≤ tV n t p ∧ tV n t p ≤ 99 := by
  have q := tK_lt (n := n) (t := t) (p := p) (by omega)
  have g := tE_gt (n := n) (t := t) (p := p) (by omega)
  unfold tK at h
  rw [if_pos q] at h
  split at h
  · omega
  · rename_i c1
    split at h
    · rename_i c2
      split at h
      · omega
      · rename_i c3
        have e : tE n t p = sk n t 48 57 (tS n t p) := by unfold tE; rw [if_pos q, if_neg c1, if_pos c2]
        unfold tV
        split
        · omega
        · have := sk_all (n := n) (t := t) (lo := 48) (hi := 57) (p := tS n t p) (x := tS n t p + 1) (by omega) (by omega)
          omega
    · split at h <;> omega
theorem iNum_inr {n : Nat} {t : Row} {lo hi : Int} {p : Nat} {k : RR} {x : Nat × Row} (h : iNum n t lo hi p k = .inr x) : (tK n t p = 2 ∧ lo ≤ tV n t p ∧ tV n t p ≤ hi) ∧ k = .inr x := by
  unfold iNum at h
  split at h
  · exact ⟨by assumption, h⟩
  · cases h
theorem iStop_inr {n : Nat} {t : Row} {p q : Nat} {r s : Row} (h : iStop n t p r = .inr (q, s)) : tK n t p = 3 ∧ q = tE n t p ∧ s = r := by
  unfold iStop at h
  split at h
  · cases h; exact ⟨by assumption, rfl, rfl⟩
  · cases h
theorem iOne_in {n : Nat} {t : Row} {w : Nat} {most times : Int} {p q : Nat} {r s : Row} (hp : p ≤ n) (h : iOne n t w most times p r = .inr (q, s)) : p < q ∧ q ≤ n := by
  obtain ⟨h1, h2⟩ := iNum_inr h
  obtain ⟨h3, rfl, rfl⟩ := iStop_inr h2
  have a := tS_le (t := t) hp
  have b := tE_le (t := t) hp
  have c := tS_le (t := t) b.2
  have d := tE_le (t := t) b.2
  have e := tS_le (t := t) d.2
  have f := tE_le (t := t) d.2
  have g := tE_gt (n := n) (t := t) (p := tE n t (tE n t p)) (by omega)
  omega
theorem iBill_in {n : Nat} {t : Row} {p q : Nat} {r s : Row} (hp : p ≤ n) (h : iBill n t p r = .inr (q, s)) : p < q ∧ q ≤ n := by
  obtain ⟨h1, h2⟩ := iNum_inr h
  obtain ⟨h1, h2⟩ := iNum_inr h2
  obtain ⟨h1, h2⟩ := iNum_inr h2
  obtain ⟨h3, rfl, rfl⟩ := iStop_inr h2
  have a := tS_le (t := t) hp
  have b := tE_le (t := t) hp
  have c := tS_le (t := t) b.2
  have d := tE_le (t := t) b.2
  have e := tS_le (t := t) d.2
  have f := tE_le (t := t) d.2
  have e2 := tS_le (t := t) f.2
  have f2 := tE_le (t := t) f.2
  have e3 := tS_le (t := t) f2.2
  have f3 := tE_le (t := t) f2.2
  have g := tE_gt (n := n) (t := t) (p := tE n t (tE n t (tE n t (tE n t p)))) (by omega)
  omega
theorem iItem_in {n : Nat} {t : Row} {i p q : Nat} {r s : Row} (hp : p ≤ n) (h : iItem n t i p r = .inr (q, s)) : p < q ∧ q ≤ n := by
  unfold iItem at h
  split at h
  · split at h
    · exact iOne_in hp h
    · cases h
  · split at h
    · cases h
    · split at h
      · split at h
        · cases h
        · exact iBill_in hp h
      · split at h
        · exact iOne_in hp h
        · split at h
          · exact iOne_in hp h
          · cases h
/-- a token was taken from p on -/
def TK (n : Nat) (t : Row) (p : Nat) (Z : ZS) : Prop := TX n t Z ∧ p ≤ n ∧ Z 17 3 = (tS n t p : Int) ∧ Z 17 4 = (tE n t p : Int) ∧ Z 17 5 = tK n t p ∧ (tK n t p = 2 → Z 17 6 = tV n t p)
/-- the reader's words and its draft changed, nothing else -/
def FD (Z W : ZS) : Prop := (∀ a, (a < 17 ∨ a = 18 ∨ 23 < a) → W a = Z a) ∧ W 17 2 = Z 17 2
theorem FD.rf {Z : ZS} : FD Z Z := ⟨fun _ _ => rfl, rfl⟩
theorem FD.tr {Z W V : ZS} (h : FD Z W) (g : FD W V) : FD Z V := ⟨fun a ha => (g.1 a ha).trans (h.1 a ha), g.2.trans h.2⟩
theorem FD.ft {Z W : ZS} (h : FT Z W) : FD Z W := ⟨fun a ha => h.1 a (by omega), h.2 2 (by omega)⟩
theorem FD.fb {Z W : ZS} (h : Fb 19 Z W) : FD Z W := ⟨fun a ha => h a (by omega), by rw [h 17 (by omega)]⟩
theorem FD.u {Z : ZS} {k j : Nat} {v : Int} (hk : 19 ≤ k ∧ k ≤ 23) : FD Z (zu Z k j v) := ⟨fun a ha => zu_row (by omega), by rw [zu_row (by omega)]⟩
theorem FD.w {Z : ZS} {j : Nat} {v : Int} (hj : 3 ≤ j) : FD Z (zu Z 17 j v) := ⟨fun a ha => zu_row (by omega), zu_ne (by omega)⟩
theorem TX.fd {n : Nat} {t : Row} {Z W : ZS} (h : TX n t Z) (g : FD Z W) : TX n t W := ⟨h.1, by rw [g.2]; exact h.2.1, fun i hi => by rw [g.1 18 (by omega)]; exact h.2.2 i hi⟩
theorem BR.ft {Z W : ZS} {r : Row} (h : BR Z 19 r) (g : FT Z W) : BR W 19 r := h.eq (fun a h1 h2 => g.1 a (by omega))
/-- what an item came to -/
def IR (n : Nat) (t : Row) (e : RR) (v : Int) (W : ZS) : Prop := (v = 1 ∧ ∃ q r', e = .inr (q, r') ∧ q ≤ n ∧ W 17 4 = (q : Int) ∧ BR W 19 r') ∨ (v = 0 ∧ ∃ q, e = .inl q ∧ q ≤ n ∧ W 17 3 = (tS n t q : Int))
theorem c_tok (G : Wd) (Z : ZS) (n : Nat) (t : Row) (hT : TX n t Z) (p : Nat) (hp : p ≤ n) (h4 : Z 17 4 = (p : Int)) : Cn G mX8_takeToken 0 [some (.ref 17), none] [] Z (qv (fun W => TK n t p W ∧ FT Z W)) :=
  nz_wv (c_takeToken G Z n t hT p hp h4) (fun W h => ⟨⟨hT.ft h.2.2.2.2, hp, h.1, h.2.1, h.2.2.1, h.2.2.2.1⟩, h.2.2.2.2⟩)
theorem c_byteAt2 (G : Wd) (Z : ZS) (n : Nat) (t : Row) (hT : TX n t Z) (x : Int) (q : Nat) (hx : x = (q : Int)) (hq : q < n) : Cn G mX8_byteAt 0 [some (.ref 17), some (iv x)] [] Z (qi (fun r W => t q = r ∧ Z = W)) := by
  subst hx
  have := hT.1.1
  refine nz_wi (c_byteAt G Z n t hT q (by omega)) (fun r W h => ⟨?_, h.2⟩)
  rw [← h.1, if_pos hq]

set_option maxRecDepth 20000 in
set_option maxHeartbeats 4000000 in
theorem l_spells (G : Wd) (Z : ZS) (n : Nat) (t : Row) (p i : Nat) (hT : TK n t p Z) (hi : i < 4) (h1 : tK n t p = 1) (h2 : tE n t p - tS n t p = sL i) : ∀ (d : Nat) (k : Nat), sL i - k = d → (k ≤ sL i) → (∀ j, j < k → t (tS n t p + j) = sB i j) → Cn G mX8_spells 28 [some (.ref 17), some (.ref (1001 + i)), some (iv ((k : Int)))] [] Z (qi (fun r W => Z = W ∧ ((r = 1 ∧ spB n t p i) ∨ (r = 0 ∧ ¬ spB n t p i)))) := by
  intro d
  induction d using Nat.strongRecOn with
  | ind d ih =>
    intro k hd hk ha
    have hkI := tK_in (n := n) (t := t) (p := p)
    have hn := hT.1.1.1
    have hsl := tS_le (t := t) hT.2.1
    have hel := tE_le (t := t) hT.2.1
    have hLi := sL_in i hi
    refine cz_iload_n (pc' := 29) (g_d dtbX8_spells_0 16 rfl) rfl rfl ?_
    refine cz_aload_n (pc' := 30) (g_d dtbX8_spells_0 17 rfl) rfl rfl ?_
    refine nz_callV (M' := mJ0_length_8abf5) (As := []) (S := [iv ((k : Int))]) (L := [some (.ref 17), some (.ref (1001 + i)), some (iv ((k : Int)))]) (pc' := 33) (g_d dtbX8_spells_0 18 rfl) lk_X8_93 okJ0_length_8abf5 (g_rcs hi) rfl rfl (Nat.le_of_ble_eq_true rfl) (Nat.le_of_ble_eq_true rfl) (by decide) rfl (c_length G Z i hi) ?_
    rintro _ _ ⟨_, rfl, rfl, rfl⟩
    refine nz_icmp_ge (tgt := 62) (pc' := 36) (g_d dtbX8_spells_0 19 rfl) (by omega) (by omega) rfl rfl (fun h33 => ?_) (fun h33 => ?_)
    · refine nz_iconst (pc' := 63) (g_d dtbX8_spells_0 34 rfl) rfl ?_
      refine nz_ri .boolean (g_d dtbX8_spells_0 35 rfl) rfl rfl ?_
      exact ⟨rfl, Or.inl ⟨rfl, h1, h2, fun j hj => ha j (by omega)⟩⟩
    · refine cz_aload_n (pc' := 37) (g_d dtbX8_spells_0 20 rfl) rfl rfl ?_
      refine cz_aload_n (pc' := 38) (g_d dtbX8_spells_0 21 rfl) rfl rfl ?_
      refine nz_getf (v := iv ((tS n t p : Int))) (pc' := 41) (g_d dtbX8_spells_0 22 rfl) gf_X8_43 (by decide) rfl (congrArg iv (hT.2.2.1)) rfl ?_
      refine cz_iload_n (pc' := 42) (g_d dtbX8_spells_0 23 rfl) rfl rfl ?_
      refine nz_iadd (pc' := 43) (g_d dtbX8_spells_0 24 rfl) rfl ?_
      refine nz_cVi (M' := mX8_byteAt) (k := 17) (As := [iv (((tS n t p : Int)) + ((k : Int)))]) (S := []) (L := [some (.ref 17), some (.ref (1001 + i)), some (iv ((k : Int)))]) (pc' := 46) (g_d dtbX8_spells_0 25 rfl) lk_X8_98 okX8_byteAt (by decide) rfl rfl rfl rfl (Nat.le_of_ble_eq_true rfl) (Nat.le_of_ble_eq_true rfl) (by decide) rfl (c_byteAt2 G Z n t hT.1 _ (tS n t p + k) (by push_cast; rfl) (by omega)) ?_
      rintro _ _ ⟨rfl, rfl⟩
      have htk := hT.1.1.2 (tS n t p + k) (by omega)
      have hsb := sB_in i hi k (by omega)
      refine cz_aload_n (pc' := 47) (g_d dtbX8_spells_0 26 rfl) rfl rfl ?_
      refine cz_iload_n (pc' := 48) (g_d dtbX8_spells_0 27 rfl) rfl rfl ?_
      refine nz_callV (M' := mJ0_charAt_5068e) (As := [iv (k : Int)]) (S := [iv (t (tS n t p + k))]) (L := [some (.ref 17), some (.ref (1001 + i)), some (iv ((k : Int)))]) (pc' := 51) (g_d dtbX8_spells_0 28 rfl) lk_X8_102 okJ0_charAt_5068e (g_rcs hi) rfl rfl (Nat.le_of_ble_eq_true rfl) (Nat.le_of_ble_eq_true rfl) (by decide) rfl (c_charAt G Z i k hi (by omega)) ?_
      rintro _ _ ⟨_, rfl, rfl, rfl⟩
      refine nz_icmp_eq (tgt := 56) (pc' := 54) (g_d dtbX8_spells_0 29 rfl) (by omega) (by omega) rfl rfl (fun h51 => ?_) (fun h51 => ?_)
      · refine nz_iinc (L' := [some (.ref 17), some (.ref (1001 + i)), some (iv (((k : Int)) + 1))]) (pc' := 59) (g_d dtbX8_spells_0 32 rfl) (by decide) rfl rfl rfl ?_
        refine cz_goto (pc' := 28) (g_d dtbX8_spells_0 33 rfl) rfl ?_
        exact ih (sL i - (k + 1)) (by omega) (k + 1) rfl (by omega) (fun j hj => (Decidable.em (j = k)).elim (fun q => by rw [q]; exact h51) (fun q => ha j (by omega)))
      · refine nz_iconst (pc' := 55) (g_d dtbX8_spells_0 30 rfl) rfl ?_
        refine nz_ri .boolean (g_d dtbX8_spells_0 31 rfl) rfl rfl ?_
        exact ⟨rfl, Or.inr ⟨rfl, fun h => h51 (h.2.2 k (by omega))⟩⟩

set_option maxRecDepth 20000 in
set_option maxHeartbeats 4000000 in
theorem c_spells (G : Wd) (Z : ZS) (n : Nat) (t : Row) (p i : Nat) (hT : TK n t p Z) (hi : i < 4) : Cn G mX8_spells 0 [some (.ref 17), some (.ref (1001 + i)), none] [] Z (qi (fun r W => Z = W ∧ ((r = 1 ∧ spB n t p i) ∨ (r = 0 ∧ ¬ spB n t p i)))) := by
  have hkI := tK_in (n := n) (t := t) (p := p)
  have hn := hT.1.1.1
  have hsl := tS_le (t := t) hT.2.1
  have hel := tE_le (t := t) hT.2.1
  have hLi := sL_in i hi
  refine cz_aload_n (pc' := 1) (g_d dtbX8_spells_0 0 rfl) rfl rfl ?_
  refine nz_getf (v := iv (tK n t p)) (pc' := 4) (g_d dtbX8_spells_0 1 rfl) gf_X8_36 (by decide) rfl (congrArg iv (hT.2.2.2.2.1)) rfl ?_
  refine nz_iconst (pc' := 5) (g_d dtbX8_spells_0 2 rfl) rfl ?_
  refine nz_icmp_ne (tgt := 24) (pc' := 8) (g_d dtbX8_spells_0 3 rfl) (by omega) (by omega) rfl rfl (fun h5 => ?_) (fun h5 => ?_)
  · refine nz_iconst (pc' := 25) (g_d dtbX8_spells_0 12 rfl) rfl ?_
    refine nz_ri .boolean (g_d dtbX8_spells_0 13 rfl) rfl rfl ?_
    exact ⟨rfl, Or.inr ⟨rfl, fun h => by have h1 := h.1; have h2 := h.2.1; omega⟩⟩
  · refine cz_aload_n (pc' := 9) (g_d dtbX8_spells_0 4 rfl) rfl rfl ?_
    refine nz_getf (v := iv ((tE n t p : Int))) (pc' := 12) (g_d dtbX8_spells_0 5 rfl) gf_X8_26 (by decide) rfl (congrArg iv (hT.2.2.2.1)) rfl ?_
    refine cz_aload_n (pc' := 13) (g_d dtbX8_spells_0 6 rfl) rfl rfl ?_
    refine nz_getf (v := iv ((tS n t p : Int))) (pc' := 16) (g_d dtbX8_spells_0 7 rfl) gf_X8_43 (by decide) rfl (congrArg iv (hT.2.2.1)) rfl ?_
    refine nz_isub (pc' := 17) (g_d dtbX8_spells_0 8 rfl) rfl ?_
    refine cz_aload_n (pc' := 18) (g_d dtbX8_spells_0 9 rfl) rfl rfl ?_
    refine nz_callV (M' := mJ0_length_8abf5) (As := []) (S := [iv (((tE n t p : Int)) - ((tS n t p : Int)))]) (L := [some (.ref 17), some (.ref (1001 + i)), none]) (pc' := 21) (g_d dtbX8_spells_0 10 rfl) lk_X8_93 okJ0_length_8abf5 (g_rcs hi) rfl rfl (Nat.le_of_ble_eq_true rfl) (Nat.le_of_ble_eq_true rfl) (by decide) rfl (c_length G Z i hi) ?_
    rintro _ _ ⟨_, rfl, rfl, rfl⟩
    refine nz_icmp_eq (tgt := 26) (pc' := 24) (g_d dtbX8_spells_0 11 rfl) (by omega) (by omega) rfl rfl (fun h21 => ?_) (fun h21 => ?_)
    · refine nz_iconst (pc' := 27) (g_d dtbX8_spells_0 14 rfl) rfl ?_
      refine cz_istore_n (L' := [some (.ref 17), some (.ref (1001 + i)), some (iv 0)]) (pc' := 28) (g_d dtbX8_spells_0 15 rfl) (by decide) rfl rfl ?_
      exact l_spells G Z n t p i hT hi (by omega) (by omega) (sL i - 0) 0 rfl (by omega) (fun j hj => absurd hj (Nat.not_lt_zero j))
    · refine nz_iconst (pc' := 25) (g_d dtbX8_spells_0 12 rfl) rfl ?_
      refine nz_ri .boolean (g_d dtbX8_spells_0 13 rfl) rfl rfl ?_
      exact ⟨rfl, Or.inr ⟨rfl, fun h => by have h1 := h.1; have h2 := h.2.1; omega⟩⟩

set_option maxRecDepth 20000 in
set_option maxHeartbeats 4000000 in
theorem c_takeNumber (G : Wd) (Z : ZS) (n : Nat) (t : Row) (hT : TX n t Z) (p : Nat) (hp : p ≤ n) (h4 : Z 17 4 = (p : Int)) (lo hi : Int) (hl : 0 ≤ lo ∧ lo ≤ 1000) (hh : 0 ≤ hi ∧ hi ≤ 1000) : Cn G mX8_takeNumber 0 [some (.ref 17), some (iv (lo)), some (iv (hi))] [] Z (qi (fun r W => TK n t p W ∧ FT Z W ∧ ((r = 1 ∧ tK n t p = 2 ∧ lo ≤ tV n t p ∧ tV n t p ≤ hi) ∨ (r = 0 ∧ ¬ (tK n t p = 2 ∧ lo ≤ tV n t p ∧ tV n t p ≤ hi))))) := by
  have hkI := tK_in (n := n) (t := t) (p := p)
  refine cz_aload_n (pc' := 1) (g_d dtbX8_takeNumber_0 0 rfl) rfl rfl ?_
  refine nz_cVv (M' := mX8_takeToken) (k := 17) (As := []) (S := []) (L := [some (.ref 17), some (iv (lo)), some (iv (hi))]) (pc' := 4) (g_d dtbX8_takeNumber_0 1 rfl) lk_X8_33 okX8_takeToken (by decide) rfl rfl rfl rfl (Nat.le_of_ble_eq_true rfl) (Nat.le_of_ble_eq_true rfl) (by decide) rfl (c_tok G Z n t hT p hp h4) ?_
  rintro W1 ⟨hk1, hf1⟩
  refine cz_aload_n (pc' := 5) (g_d dtbX8_takeNumber_0 2 rfl) rfl rfl ?_
  refine nz_getf (v := iv (tK n t p)) (pc' := 8) (g_d dtbX8_takeNumber_0 3 rfl) gf_X8_36 (by decide) rfl (congrArg iv (hk1.2.2.2.2.1)) rfl ?_
  refine nz_iconst (pc' := 9) (g_d dtbX8_takeNumber_0 4 rfl) rfl ?_
  refine nz_icmp_ne (tgt := 28) (pc' := 12) (g_d dtbX8_takeNumber_0 5 rfl) (by omega) (by omega) rfl rfl (fun h9 => ?_) (fun h9 => ?_)
  · refine nz_iconst (pc' := 29) (g_d dtbX8_takeNumber_0 14 rfl) rfl ?_
    refine nz_ri .boolean (g_d dtbX8_takeNumber_0 15 rfl) rfl rfl ?_
    exact ⟨hk1, hf1, by omega⟩
  · have hvI := tV_in h9
    refine cz_aload_n (pc' := 13) (g_d dtbX8_takeNumber_0 6 rfl) rfl rfl ?_
    refine nz_getf (v := iv (tV n t p)) (pc' := 16) (g_d dtbX8_takeNumber_0 7 rfl) gf_X8_79 (by decide) rfl (congrArg iv (hk1.2.2.2.2.2 h9)) rfl ?_
    refine cz_iload_n (pc' := 17) (g_d dtbX8_takeNumber_0 8 rfl) rfl rfl ?_
    refine cz_iload_n (pc' := 18) (g_d dtbX8_takeNumber_0 9 rfl) rfl rfl ?_
    refine nz_cSi (M' := mX10_within) (As := [iv (tV n t p), iv (lo), iv (hi)]) (S := []) (L := [some (.ref 17), some (iv (lo)), some (iv (hi))]) (pc' := 21) (g_d dtbX8_takeNumber_0 10 rfl) lk_X8_89 okX10_within rfl rfl (Nat.le_of_ble_eq_true rfl) (Nat.le_of_ble_eq_true rfl) (by decide) rfl (c_within G W1 (tV n t p) lo hi (by omega) (by omega) (by omega)) ?_
    rintro _ _ ⟨rfl, ⟨rfl, hw18⟩ | ⟨rfl, hw18⟩⟩
    · refine nz_if_eq_f (pc' := 24) (g_d dtbX8_takeNumber_0 11 rfl) (by omega) (by decide) rfl (by omega) ?_
      refine nz_iconst (pc' := 25) (g_d dtbX8_takeNumber_0 12 rfl) rfl ?_
      refine cz_goto (pc' := 29) (g_d dtbX8_takeNumber_0 13 rfl) rfl ?_
      refine nz_ri .boolean (g_d dtbX8_takeNumber_0 15 rfl) rfl rfl ?_
      exact ⟨hk1, hf1, by omega⟩
    · refine nz_if_eq_t (tgt := 28) (g_d dtbX8_takeNumber_0 11 rfl) (by omega) rfl (by omega) ?_
      refine nz_iconst (pc' := 29) (g_d dtbX8_takeNumber_0 14 rfl) rfl ?_
      refine nz_ri .boolean (g_d dtbX8_takeNumber_0 15 rfl) rfl rfl ?_
      exact ⟨hk1, hf1, by omega⟩

set_option maxRecDepth 20000 in
set_option maxHeartbeats 4000000 in
theorem c_takeStop (G : Wd) (Z : ZS) (n : Nat) (t : Row) (hT : TX n t Z) (p : Nat) (hp : p ≤ n) (h4 : Z 17 4 = (p : Int)) : Cn G mX8_takeStop 0 [some (.ref 17)] [] Z (qi (fun r W => TK n t p W ∧ FT Z W ∧ ((r = 1 ∧ tK n t p = 3) ∨ (r = 0 ∧ ¬ (tK n t p = 3))))) := by
  have hkI := tK_in (n := n) (t := t) (p := p)
  refine cz_aload_n (pc' := 1) (g_d dtbX8_takeStop_0 0 rfl) rfl rfl ?_
  refine nz_cVv (M' := mX8_takeToken) (k := 17) (As := []) (S := []) (L := [some (.ref 17)]) (pc' := 4) (g_d dtbX8_takeStop_0 1 rfl) lk_X8_33 okX8_takeToken (by decide) rfl rfl rfl rfl (Nat.le_of_ble_eq_true rfl) (Nat.le_of_ble_eq_true rfl) (by decide) rfl (c_tok G Z n t hT p hp h4) ?_
  rintro W1 ⟨hk1, hf1⟩
  refine cz_aload_n (pc' := 5) (g_d dtbX8_takeStop_0 2 rfl) rfl rfl ?_
  refine nz_getf (v := iv (tK n t p)) (pc' := 8) (g_d dtbX8_takeStop_0 3 rfl) gf_X8_36 (by decide) rfl (congrArg iv (hk1.2.2.2.2.1)) rfl ?_
  refine nz_iconst (pc' := 9) (g_d dtbX8_takeStop_0 4 rfl) rfl ?_
  refine nz_icmp_ne (tgt := 16) (pc' := 12) (g_d dtbX8_takeStop_0 5 rfl) (by omega) (by omega) rfl rfl (fun h9 => ?_) (fun h9 => ?_)
  · refine nz_iconst (pc' := 17) (g_d dtbX8_takeStop_0 8 rfl) rfl ?_
    refine nz_ri .boolean (g_d dtbX8_takeStop_0 9 rfl) rfl rfl ?_
    exact ⟨hk1, hf1, by omega⟩
  · refine nz_iconst (pc' := 13) (g_d dtbX8_takeStop_0 6 rfl) rfl ?_
    refine cz_goto (pc' := 17) (g_d dtbX8_takeStop_0 7 rfl) rfl ?_
    refine nz_ri .boolean (g_d dtbX8_takeStop_0 9 rfl) rfl rfl ?_
    exact ⟨hk1, hf1, by omega⟩

set_option maxRecDepth 20000 in
set_option maxHeartbeats 4000000 in
theorem c_takeAccount (G : Wd) (Z : ZS) (n : Nat) (t : Row) (p : Nat) (hT : TK n t p Z) (r : Row) (hB : BR Z 19 r) : Cn G mX8_takeAccount 0 [some (.ref 17)] [] Z (qi (fun v W => FD Z W ∧ IR n t (iOne n t 0 99 10 p r) v W)) := by
  have e1 := tE_le (t := t) hT.2.1
  have e2 := tE_le (t := t) e1.2
  refine cz_aload_n (pc' := 1) (g_d dtbX8_takeAccount_0 0 rfl) rfl rfl ?_
  refine nz_iconst (pc' := 2) (g_d dtbX8_takeAccount_0 1 rfl) rfl ?_
  refine nz_bipush (pc' := 4) (g_d dtbX8_takeAccount_0 2 rfl) (by decide) rfl ?_
  refine nz_cVi (M' := mX8_takeNumber) (k := 17) (As := [iv 0, iv 99]) (S := []) (L := [some (.ref 17)]) (pc' := 7) (g_d dtbX8_takeAccount_0 3 rfl) lk_X8_72 okX8_takeNumber (by decide) rfl rfl rfl rfl (Nat.le_of_ble_eq_true rfl) (Nat.le_of_ble_eq_true rfl) (by decide) rfl (c_takeNumber G Z n t hT.1 (tE n t p) e1.2 hT.2.2.2.1 0 99 (by omega) (by omega)) ?_
  rintro _ W1 ⟨hk1, hf1, ⟨rfl, hw1⟩ | ⟨rfl, hw1⟩⟩
  · refine nz_if_ne_t (tgt := 12) (g_d dtbX8_takeAccount_0 4 rfl) (by omega) rfl (by omega) ?_
    refine cz_aload_n (pc' := 13) (g_d dtbX8_takeAccount_0 7 rfl) rfl rfl ?_
    refine nz_getf (v := .ref 19) (pc' := 16) (g_d dtbX8_takeAccount_0 8 rfl) gf_X8_18 (by decide) rfl rfl rfl ?_
    refine nz_getf (v := .ref 20) (pc' := 19) (g_d dtbX8_takeAccount_0 9 rfl) gf_X8_75 (by decide) rfl rfl rfl ?_
    refine nz_iconst (pc' := 20) (g_d dtbX8_takeAccount_0 10 rfl) rfl ?_
    refine nz_bipush (pc' := 22) (g_d dtbX8_takeAccount_0 11 rfl) (by decide) rfl ?_
    refine cz_aload_n (pc' := 23) (g_d dtbX8_takeAccount_0 12 rfl) rfl rfl ?_
    refine nz_getf (v := iv (tV n t (tE n t p))) (pc' := 26) (g_d dtbX8_takeAccount_0 13 rfl) gf_X8_79 (by decide) rfl (congrArg iv (hk1.2.2.2.2.2 hw1.1)) rfl ?_
    refine nz_imul (pc' := 27) (g_d dtbX8_takeAccount_0 14 rfl) rfl ?_
    refine nz_iast 0 (pc' := 28) (g_d dtbX8_takeAccount_0 15 rfl) (by decide) rfl (by omega) (by rfl) (by omega) rfl ?_
    refine cz_aload_n (pc' := 29) (g_d dtbX8_takeAccount_0 16 rfl) rfl rfl ?_
    refine nz_cVi (M' := mX8_takeStop) (k := 17) (As := []) (S := []) (L := [some (.ref 17)]) (pc' := 32) (g_d dtbX8_takeAccount_0 17 rfl) lk_X8_82 okX8_takeStop (by decide) rfl rfl rfl rfl (Nat.le_of_ble_eq_true rfl) (Nat.le_of_ble_eq_true rfl) (by decide) rfl (c_takeStop G (zu W1 20 0 (10 * (tV n t (tE n t p)))) n t (hk1.1.fd (FD.u (by decide))) (tE n t (tE n t p)) e2.2 (by rw [zu_row (by decide)]; exact hk1.2.2.2.1)) ?_
    rintro _ W2 ⟨hk2, hf2, ⟨rfl, hw2⟩ | ⟨rfl, hw2⟩⟩
    · refine nz_ri .boolean (g_d dtbX8_takeAccount_0 18 rfl) rfl rfl ?_
      refine ⟨(((FD.ft hf1).tr (FD.u (by decide))).tr (FD.ft hf2)), Or.inl ⟨rfl, _, _, by unfold iOne iNum iStop; rw [if_pos hw1, if_pos hw2], (tE_le e2.2).2, hk2.2.2.2.1, ?_⟩⟩
      exact (br_fig (k := 19) (hB.ft hf1) (by omega)).ft hf2
    · refine nz_ri .boolean (g_d dtbX8_takeAccount_0 18 rfl) rfl rfl ?_
      exact ⟨(((FD.ft hf1).tr (FD.u (by decide))).tr (FD.ft hf2)), Or.inr ⟨rfl, _, by unfold iOne iNum iStop; rw [if_pos hw1, if_neg hw2], e2.2, hk2.2.2.1⟩⟩
  · refine nz_if_ne_f (pc' := 10) (g_d dtbX8_takeAccount_0 4 rfl) (by omega) (by decide) rfl (by omega) ?_
    refine nz_iconst (pc' := 11) (g_d dtbX8_takeAccount_0 5 rfl) rfl ?_
    refine nz_ri .boolean (g_d dtbX8_takeAccount_0 6 rfl) rfl rfl ?_
    exact ⟨FD.ft hf1, Or.inr ⟨rfl, _, by unfold iOne iNum; rw [if_neg hw1], e1.2, hk1.2.2.1⟩⟩

set_option maxRecDepth 20000 in
set_option maxHeartbeats 4000000 in
theorem c_takeFigure (G : Wd) (Z : ZS) (n : Nat) (t : Row) (p : Nat) (hT : TK n t p Z) (r : Row) (hB : BR Z 19 r) (w : Nat) (hw : w < 6) (most : Int) (hm : 0 ≤ most ∧ most ≤ 1000) : Cn G mX8_takeFigure 0 [some (.ref 17), some (iv ((w : Int))), some (iv (most))] [] Z (qi (fun v W => FD Z W ∧ IR n t (iOne n t w most 1 p r) v W)) := by
  have e1 := tE_le (t := t) hT.2.1
  have e2 := tE_le (t := t) e1.2
  refine cz_iload_n (pc' := 1) (g_d dtbX8_takeFigure_0 0 rfl) rfl rfl ?_
  refine nz_iconst (pc' := 2) (g_d dtbX8_takeFigure_0 1 rfl) rfl ?_
  refine nz_iconst (pc' := 3) (g_d dtbX8_takeFigure_0 2 rfl) rfl ?_
  refine nz_cSi (M' := mX10_within) (As := [iv ((w : Int)), iv 0, iv 5]) (S := []) (L := [some (.ref 17), some (iv ((w : Int))), some (iv (most))]) (pc' := 6) (g_d dtbX8_takeFigure_0 3 rfl) lk_X8_89 okX10_within rfl rfl (Nat.le_of_ble_eq_true rfl) (Nat.le_of_ble_eq_true rfl) (by decide) rfl (c_within G Z ((w : Int)) 0 5 (by omega) (by omega) (by omega)) ?_
  rintro _ _ ⟨rfl, ⟨rfl, hw3⟩ | ⟨rfl, hw3⟩⟩
  · refine nz_if_eq_f (pc' := 9) (g_d dtbX8_takeFigure_0 4 rfl) (by omega) (by decide) rfl (by omega) ?_
    refine cz_aload_n (pc' := 10) (g_d dtbX8_takeFigure_0 5 rfl) rfl rfl ?_
    refine nz_iconst (pc' := 11) (g_d dtbX8_takeFigure_0 6 rfl) rfl ?_
    refine cz_iload_n (pc' := 12) (g_d dtbX8_takeFigure_0 7 rfl) rfl rfl ?_
    refine nz_cVi (M' := mX8_takeNumber) (k := 17) (As := [iv 0, iv (most)]) (S := []) (L := [some (.ref 17), some (iv ((w : Int))), some (iv (most))]) (pc' := 15) (g_d dtbX8_takeFigure_0 8 rfl) lk_X8_72 okX8_takeNumber (by decide) rfl rfl rfl rfl (Nat.le_of_ble_eq_true rfl) (Nat.le_of_ble_eq_true rfl) (by decide) rfl (c_takeNumber G Z n t hT.1 (tE n t p) e1.2 hT.2.2.2.1 0 most (by omega) (by omega)) ?_
    rintro _ W1 ⟨hk1, hf1, ⟨rfl, hw1⟩ | ⟨rfl, hw1⟩⟩
    · refine nz_if_ne_t (tgt := 20) (g_d dtbX8_takeFigure_0 9 rfl) (by omega) rfl (by omega) ?_
      refine cz_aload_n (pc' := 21) (g_d dtbX8_takeFigure_0 12 rfl) rfl rfl ?_
      refine nz_getf (v := .ref 19) (pc' := 24) (g_d dtbX8_takeFigure_0 13 rfl) gf_X8_18 (by decide) rfl rfl rfl ?_
      refine nz_getf (v := .ref 20) (pc' := 27) (g_d dtbX8_takeFigure_0 14 rfl) gf_X8_75 (by decide) rfl rfl rfl ?_
      refine cz_iload_n (pc' := 28) (g_d dtbX8_takeFigure_0 15 rfl) rfl rfl ?_
      refine cz_aload_n (pc' := 29) (g_d dtbX8_takeFigure_0 16 rfl) rfl rfl ?_
      refine nz_getf (v := iv (tV n t (tE n t p))) (pc' := 32) (g_d dtbX8_takeFigure_0 17 rfl) gf_X8_79 (by decide) rfl (congrArg iv (hk1.2.2.2.2.2 hw1.1)) rfl ?_
      refine nz_iast w (pc' := 33) (g_d dtbX8_takeFigure_0 18 rfl) (by decide) rfl (by omega) (by rfl) (by omega) rfl ?_
      refine cz_aload_n (pc' := 34) (g_d dtbX8_takeFigure_0 19 rfl) rfl rfl ?_
      refine nz_cVi (M' := mX8_takeStop) (k := 17) (As := []) (S := []) (L := [some (.ref 17), some (iv ((w : Int))), some (iv (most))]) (pc' := 37) (g_d dtbX8_takeFigure_0 20 rfl) lk_X8_82 okX8_takeStop (by decide) rfl rfl rfl rfl (Nat.le_of_ble_eq_true rfl) (Nat.le_of_ble_eq_true rfl) (by decide) rfl (c_takeStop G (zu W1 20 w (tV n t (tE n t p))) n t (hk1.1.fd (FD.u (by decide))) (tE n t (tE n t p)) e2.2 (by rw [zu_row (by decide)]; exact hk1.2.2.2.1)) ?_
      rintro _ W2 ⟨hk2, hf2, ⟨rfl, hw2⟩ | ⟨rfl, hw2⟩⟩
      · refine nz_ri .boolean (g_d dtbX8_takeFigure_0 21 rfl) rfl rfl ?_
        refine ⟨(((FD.ft hf1).tr (FD.u (by decide))).tr (FD.ft hf2)), Or.inl ⟨rfl, _, _, by unfold iOne iNum iStop; rw [if_pos hw1, if_pos hw2], (tE_le e2.2).2, hk2.2.2.2.1, ?_⟩⟩
        rw [Int.one_mul]
        exact (br_fig (k := 19) (hB.ft hf1) (by omega)).ft hf2
      · refine nz_ri .boolean (g_d dtbX8_takeFigure_0 21 rfl) rfl rfl ?_
        exact ⟨(((FD.ft hf1).tr (FD.u (by decide))).tr (FD.ft hf2)), Or.inr ⟨rfl, _, by unfold iOne iNum iStop; rw [if_pos hw1, if_neg hw2], e2.2, hk2.2.2.1⟩⟩
    · refine nz_if_ne_f (pc' := 18) (g_d dtbX8_takeFigure_0 9 rfl) (by omega) (by decide) rfl (by omega) ?_
      refine nz_iconst (pc' := 19) (g_d dtbX8_takeFigure_0 10 rfl) rfl ?_
      refine nz_ri .boolean (g_d dtbX8_takeFigure_0 11 rfl) rfl rfl ?_
      exact ⟨FD.ft hf1, Or.inr ⟨rfl, _, by unfold iOne iNum; rw [if_neg hw1], e1.2, hk1.2.2.1⟩⟩
  · refine nz_if_eq_t (tgt := 18) (g_d dtbX8_takeFigure_0 4 rfl) (by omega) rfl (by omega) ?_
    refine nz_iconst (pc' := 19) (g_d dtbX8_takeFigure_0 10 rfl) rfl ?_
    refine nz_ri .boolean (g_d dtbX8_takeFigure_0 11 rfl) rfl rfl ?_
    exact absurd hw3 (by omega)

set_option maxRecDepth 20000 in
set_option maxHeartbeats 4000000 in
theorem c_takeBill (G : Wd) (Z : ZS) (n : Nat) (t : Row) (p : Nat) (hT : TK n t p Z) (r : Row) (hB : BR Z 19 r) (c : Nat) (hc : r 6 = (c : Int)) (hc7 : c < 7) : Cn G mX8_takeBill 0 [some (.ref 17), none, none] [] Z (qi (fun v W => FD Z W ∧ IR n t (iBill n t p r) v W)) := by
  have e1 := tE_le (t := t) hT.2.1
  have e2 := tE_le (t := t) e1.2
  have e3 := tE_le (t := t) e2.2
  have e4 := tE_le (t := t) e3.2
  refine cz_aload_n (pc' := 1) (g_d dtbX8_takeBill_0 0 rfl) rfl rfl ?_
  refine nz_iconst (pc' := 2) (g_d dtbX8_takeBill_0 1 rfl) rfl ?_
  refine nz_iconst (pc' := 3) (g_d dtbX8_takeBill_0 2 rfl) rfl ?_
  refine nz_cVi (M' := mX8_takeNumber) (k := 17) (As := [iv 0, iv 5]) (S := []) (L := [some (.ref 17), none, none]) (pc' := 6) (g_d dtbX8_takeBill_0 3 rfl) lk_X8_72 okX8_takeNumber (by decide) rfl rfl rfl rfl (Nat.le_of_ble_eq_true rfl) (Nat.le_of_ble_eq_true rfl) (by decide) rfl (c_takeNumber G Z n t hT.1 (tE n t p) e1.2 hT.2.2.2.1 0 5 (by omega) (by omega)) ?_
  rintro _ W1 ⟨hk1, hf1, ⟨rfl, hw1⟩ | ⟨rfl, hw1⟩⟩
  · refine nz_if_ne_t (tgt := 11) (g_d dtbX8_takeBill_0 4 rfl) (by omega) rfl (by omega) ?_
    refine cz_aload_n (pc' := 12) (g_d dtbX8_takeBill_0 7 rfl) rfl rfl ?_
    refine nz_getf (v := iv (tV n t (tE n t p))) (pc' := 15) (g_d dtbX8_takeBill_0 8 rfl) gf_X8_79 (by decide) rfl (congrArg iv (hk1.2.2.2.2.2 hw1.1)) rfl ?_
    refine cz_istore_n (L' := [some (.ref 17), some (iv (tV n t (tE n t p))), none]) (pc' := 16) (g_d dtbX8_takeBill_0 9 rfl) (by decide) rfl rfl ?_
    refine cz_aload_n (pc' := 17) (g_d dtbX8_takeBill_0 10 rfl) rfl rfl ?_
    refine nz_iconst (pc' := 18) (g_d dtbX8_takeBill_0 11 rfl) rfl ?_
    refine nz_bipush (pc' := 20) (g_d dtbX8_takeBill_0 12 rfl) (by decide) rfl ?_
    refine nz_cVi (M' := mX8_takeNumber) (k := 17) (As := [iv 1, iv 28]) (S := []) (L := [some (.ref 17), some (iv (tV n t (tE n t p))), none]) (pc' := 23) (g_d dtbX8_takeBill_0 13 rfl) lk_X8_72 okX8_takeNumber (by decide) rfl rfl rfl rfl (Nat.le_of_ble_eq_true rfl) (Nat.le_of_ble_eq_true rfl) (by decide) rfl (c_takeNumber G W1 n t hk1.1 (tE n t (tE n t p)) e2.2 hk1.2.2.2.1 1 28 (by omega) (by omega)) ?_
    rintro _ W2 ⟨hk2, hf2, ⟨rfl, hw2⟩ | ⟨rfl, hw2⟩⟩
    · refine nz_if_ne_t (tgt := 28) (g_d dtbX8_takeBill_0 14 rfl) (by omega) rfl (by omega) ?_
      refine cz_aload_n (pc' := 29) (g_d dtbX8_takeBill_0 17 rfl) rfl rfl ?_
      refine nz_getf (v := iv (tV n t (tE n t (tE n t p)))) (pc' := 32) (g_d dtbX8_takeBill_0 18 rfl) gf_X8_79 (by decide) rfl (congrArg iv (hk2.2.2.2.2.2 hw2.1)) rfl ?_
      refine cz_istore_n (L' := [some (.ref 17), some (iv (tV n t (tE n t p))), some (iv (tV n t (tE n t (tE n t p))))]) (pc' := 33) (g_d dtbX8_takeBill_0 19 rfl) (by decide) rfl rfl ?_
      refine cz_aload_n (pc' := 34) (g_d dtbX8_takeBill_0 20 rfl) rfl rfl ?_
      refine nz_iconst (pc' := 35) (g_d dtbX8_takeBill_0 21 rfl) rfl ?_
      refine nz_bipush (pc' := 37) (g_d dtbX8_takeBill_0 22 rfl) (by decide) rfl ?_
      refine nz_cVi (M' := mX8_takeNumber) (k := 17) (As := [iv 1, iv 99]) (S := []) (L := [some (.ref 17), some (iv (tV n t (tE n t p))), some (iv (tV n t (tE n t (tE n t p))))]) (pc' := 40) (g_d dtbX8_takeBill_0 23 rfl) lk_X8_72 okX8_takeNumber (by decide) rfl rfl rfl rfl (Nat.le_of_ble_eq_true rfl) (Nat.le_of_ble_eq_true rfl) (by decide) rfl (c_takeNumber G W2 n t hk2.1 (tE n t (tE n t (tE n t p))) e3.2 hk2.2.2.2.1 1 99 (by omega) (by omega)) ?_
      rintro _ W3 ⟨hk3, hf3, ⟨rfl, hw3⟩ | ⟨rfl, hw3⟩⟩
      · refine nz_if_ne_t (tgt := 45) (g_d dtbX8_takeBill_0 24 rfl) (by omega) rfl (by omega) ?_
        refine cz_aload_n (pc' := 46) (g_d dtbX8_takeBill_0 27 rfl) rfl rfl ?_
        refine nz_getf (v := .ref 19) (pc' := 49) (g_d dtbX8_takeBill_0 28 rfl) gf_X8_18 (by decide) rfl rfl rfl ?_
        refine cz_iload_n (pc' := 50) (g_d dtbX8_takeBill_0 29 rfl) rfl rfl ?_
        refine cz_iload_n (pc' := 51) (g_d dtbX8_takeBill_0 30 rfl) rfl rfl ?_
        refine cz_aload_n (pc' := 52) (g_d dtbX8_takeBill_0 31 rfl) rfl rfl ?_
        refine nz_getf (v := iv (tV n t (tE n t (tE n t (tE n t p))))) (pc' := 55) (g_d dtbX8_takeBill_0 32 rfl) gf_X8_79 (by decide) rfl (congrArg iv (hk3.2.2.2.2.2 hw3.1)) rfl ?_
        refine nz_cVv (M' := mX0_addBill) (k := 19) (As := [iv (tV n t (tE n t p)), iv (tV n t (tE n t (tE n t p))), iv (tV n t (tE n t (tE n t (tE n t p))))]) (S := []) (L := [some (.ref 17), some (iv (tV n t (tE n t p))), some (iv (tV n t (tE n t (tE n t p))))]) (pc' := 58) (g_d dtbX8_takeBill_0 33 rfl) lk_X8_85 okX0_addBill (by decide) rfl rfl rfl rfl (Nat.le_of_ble_eq_true rfl) (Nat.le_of_ble_eq_true rfl) (by decide) rfl (c_addBill G W3 19 c r (tV n t (tE n t p)) (tV n t (tE n t (tE n t p))) (tV n t (tE n t (tE n t (tE n t p)))) bk19 (((hB.ft hf1).ft hf2).ft hf3) hc hc7) ?_
        rintro W4 ⟨hb4, hF4⟩
        refine cz_aload_n (pc' := 59) (g_d dtbX8_takeBill_0 34 rfl) rfl rfl ?_
        refine nz_cVi (M' := mX8_takeStop) (k := 17) (As := []) (S := []) (L := [some (.ref 17), some (iv (tV n t (tE n t p))), some (iv (tV n t (tE n t (tE n t p))))]) (pc' := 62) (g_d dtbX8_takeBill_0 35 rfl) lk_X8_82 okX8_takeStop (by decide) rfl rfl rfl rfl (Nat.le_of_ble_eq_true rfl) (Nat.le_of_ble_eq_true rfl) (by decide) rfl (c_takeStop G W4 n t (hk3.1.fd (FD.fb hF4)) (tE n t (tE n t (tE n t (tE n t p)))) e4.2 (by rw [hF4 17 (by decide)]; exact hk3.2.2.2.1)) ?_
        rintro _ W5 ⟨hk5, hf5, ⟨rfl, hw5⟩ | ⟨rfl, hw5⟩⟩
        · refine nz_ri .boolean (g_d dtbX8_takeBill_0 36 rfl) rfl rfl ?_
          exact ⟨(((((FD.ft hf1).tr (FD.ft hf2)).tr (FD.ft hf3)).tr (FD.fb hF4)).tr (FD.ft hf5)), Or.inl ⟨rfl, _, _, by unfold iBill; rw [iNum, if_pos hw1, iNum, if_pos hw2, iNum, if_pos hw3, iStop, if_pos hw5], (tE_le e4.2).2, hk5.2.2.2.1, hb4.ft hf5⟩⟩
        · refine nz_ri .boolean (g_d dtbX8_takeBill_0 36 rfl) rfl rfl ?_
          exact ⟨(((((FD.ft hf1).tr (FD.ft hf2)).tr (FD.ft hf3)).tr (FD.fb hF4)).tr (FD.ft hf5)), Or.inr ⟨rfl, _, by unfold iBill; rw [iNum, if_pos hw1, iNum, if_pos hw2, iNum, if_pos hw3, iStop, if_neg hw5], e4.2, hk5.2.2.1⟩⟩
      · refine nz_if_ne_f (pc' := 43) (g_d dtbX8_takeBill_0 24 rfl) (by omega) (by decide) rfl (by omega) ?_
        refine nz_iconst (pc' := 44) (g_d dtbX8_takeBill_0 25 rfl) rfl ?_
        refine nz_ri .boolean (g_d dtbX8_takeBill_0 26 rfl) rfl rfl ?_
        exact ⟨((FD.ft hf1).tr (FD.ft hf2)).tr (FD.ft hf3), Or.inr ⟨rfl, _, by unfold iBill; rw [iNum, if_pos hw1, iNum, if_pos hw2, iNum, if_neg hw3], e3.2, hk3.2.2.1⟩⟩
    · refine nz_if_ne_f (pc' := 26) (g_d dtbX8_takeBill_0 14 rfl) (by omega) (by decide) rfl (by omega) ?_
      refine nz_iconst (pc' := 27) (g_d dtbX8_takeBill_0 15 rfl) rfl ?_
      refine nz_ri .boolean (g_d dtbX8_takeBill_0 16 rfl) rfl rfl ?_
      exact ⟨(FD.ft hf1).tr (FD.ft hf2), Or.inr ⟨rfl, _, by unfold iBill; rw [iNum, if_pos hw1, iNum, if_neg hw2], e2.2, hk2.2.2.1⟩⟩
  · refine nz_if_ne_f (pc' := 9) (g_d dtbX8_takeBill_0 4 rfl) (by omega) (by decide) rfl (by omega) ?_
    refine nz_iconst (pc' := 10) (g_d dtbX8_takeBill_0 5 rfl) rfl ?_
    refine nz_ri .boolean (g_d dtbX8_takeBill_0 6 rfl) rfl rfl ?_
    exact ⟨FD.ft hf1, Or.inr ⟨rfl, _, by unfold iBill; rw [iNum, if_neg hw1], e1.2, hk1.2.2.1⟩⟩

set_option maxRecDepth 20000 in
set_option maxHeartbeats 4000000 in
theorem c_takeItem (G : Wd) (Z : ZS) (n : Nat) (t : Row) (p : Nat) (hT : TK n t p Z) (r : Row) (hB : BR Z 19 r) (i : Nat) (f : Int) (hf : (f = 1 ∧ i = 0) ∨ (f = 0 ∧ i ≠ 0)) (h6 : 0 ≤ r 6 ∧ r 6 ≤ 7) : Cn G mX8_takeItem 0 [some (.ref 17), some (iv (f))] [] Z (qi (fun v W => FD Z W ∧ IR n t (iItem n t i p r) v W)) := by
  refine cz_aload_n (pc' := 1) (g_d dtbX8_takeItem_0 0 rfl) rfl rfl ?_
  refine cz_ldcs (i := 0) (pc' := 3) (by decide) (g_d dtbX8_takeItem_0 1 rfl) rfl rfl ?_
  refine nz_cVi (M' := mX8_spells) (k := 17) (As := [.ref 1001]) (S := []) (L := [some (.ref 17), some (iv (f))]) (pc' := 6) (g_d dtbX8_takeItem_0 2 rfl) lk_X8_48 okX8_spells (by decide) rfl rfl rfl rfl (Nat.le_of_ble_eq_true rfl) (Nat.le_of_ble_eq_true rfl) (by decide) rfl (c_spells G Z n t p 0 hT (by decide)) ?_
  rintro _ _ ⟨rfl, ⟨rfl, hs0⟩ | ⟨rfl, hs0⟩⟩
  · refine nz_if_eq_f (pc' := 9) (g_d dtbX8_takeItem_0 3 rfl) (by omega) (by decide) rfl (by omega) ?_
    refine cz_iload_n (pc' := 10) (g_d dtbX8_takeItem_0 4 rfl) rfl rfl ?_
    refine nz_if_eq (tgt := 24) (pc' := 13) (g_d dtbX8_takeItem_0 5 rfl) (by omega) rfl rfl (fun h10 => ?_) (fun h10 => ?_)
    · refine nz_iconst (pc' := 25) (g_d dtbX8_takeItem_0 11 rfl) rfl ?_
      refine nz_ri .boolean (g_d dtbX8_takeItem_0 12 rfl) rfl rfl ?_
      exact ⟨FD.rf, Or.inr ⟨rfl, p, by unfold iItem; rw [if_pos hs0, if_neg (by omega)], hT.2.1, hT.2.2.1⟩⟩
    · refine cz_aload_n (pc' := 14) (g_d dtbX8_takeItem_0 6 rfl) rfl rfl ?_
      refine nz_cVi (M' := mX8_takeAccount) (k := 17) (As := []) (S := []) (L := [some (.ref 17), some (iv (f))]) (pc' := 17) (g_d dtbX8_takeItem_0 7 rfl) lk_X8_52 okX8_takeAccount (by decide) rfl rfl rfl rfl (Nat.le_of_ble_eq_true rfl) (Nat.le_of_ble_eq_true rfl) (by decide) rfl (c_takeAccount G Z n t p hT r hB) ?_
      rintro _ V ⟨hfd, ⟨rfl, hir⟩ | ⟨rfl, hir⟩⟩
      · refine nz_if_eq_f (pc' := 20) (g_d dtbX8_takeItem_0 8 rfl) (by omega) (by decide) rfl (by omega) ?_
        refine nz_iconst (pc' := 21) (g_d dtbX8_takeItem_0 9 rfl) rfl ?_
        refine cz_goto (pc' := 25) (g_d dtbX8_takeItem_0 10 rfl) rfl ?_
        refine nz_ri .boolean (g_d dtbX8_takeItem_0 12 rfl) rfl rfl ?_
        have hi0 : i = 0 := by omega
        rw [show iItem n t i p r = _ from by unfold iItem; rw [if_pos hs0, if_pos hi0]]
        exact ⟨hfd, Or.inl ⟨rfl, hir⟩⟩
      · refine nz_if_eq_t (tgt := 24) (g_d dtbX8_takeItem_0 8 rfl) (by omega) rfl (by omega) ?_
        refine nz_iconst (pc' := 25) (g_d dtbX8_takeItem_0 11 rfl) rfl ?_
        refine nz_ri .boolean (g_d dtbX8_takeItem_0 12 rfl) rfl rfl ?_
        have hi0 : i = 0 := by omega
        rw [show iItem n t i p r = _ from by unfold iItem; rw [if_pos hs0, if_pos hi0]]
        exact ⟨hfd, Or.inr ⟨rfl, hir⟩⟩
  · refine nz_if_eq_t (tgt := 26) (g_d dtbX8_takeItem_0 3 rfl) (by omega) rfl (by omega) ?_
    refine cz_iload_n (pc' := 27) (g_d dtbX8_takeItem_0 13 rfl) rfl rfl ?_
    refine nz_if_eq (tgt := 32) (pc' := 30) (g_d dtbX8_takeItem_0 14 rfl) (by omega) rfl rfl (fun h27 => ?_) (fun h27 => ?_)
    · refine cz_aload_n (pc' := 33) (g_d dtbX8_takeItem_0 17 rfl) rfl rfl ?_
      refine cz_ldcs (i := 1) (pc' := 35) (by decide) (g_d dtbX8_takeItem_0 18 rfl) rfl rfl ?_
      refine nz_cVi (M' := mX8_spells) (k := 17) (As := [.ref 1002]) (S := []) (L := [some (.ref 17), some (iv (f))]) (pc' := 38) (g_d dtbX8_takeItem_0 19 rfl) lk_X8_48 okX8_spells (by decide) rfl rfl rfl rfl (Nat.le_of_ble_eq_true rfl) (Nat.le_of_ble_eq_true rfl) (by decide) rfl (c_spells G Z n t p 1 hT (by decide)) ?_
      rintro _ _ ⟨rfl, ⟨rfl, hs1⟩ | ⟨rfl, hs1⟩⟩
      · refine nz_if_eq_f (pc' := 41) (g_d dtbX8_takeItem_0 20 rfl) (by omega) (by decide) rfl (by omega) ?_
        refine cz_aload_n (pc' := 42) (g_d dtbX8_takeItem_0 21 rfl) rfl rfl ?_
        refine nz_getf (v := .ref 19) (pc' := 45) (g_d dtbX8_takeItem_0 22 rfl) gf_X8_18 (by decide) rfl rfl rfl ?_
        refine nz_getf (v := iv (r 6)) (pc' := 48) (g_d dtbX8_takeItem_0 23 rfl) gf_X8_58 (by decide) rfl (congrArg iv (hB.2.1)) rfl ?_
        refine nz_bipush (pc' := 50) (g_d dtbX8_takeItem_0 24 rfl) (by decide) rfl ?_
        refine nz_icmp_ge (tgt := 64) (pc' := 53) (g_d dtbX8_takeItem_0 25 rfl) (by omega) (by omega) rfl rfl (fun h50 => ?_) (fun h50 => ?_)
        · refine nz_iconst (pc' := 65) (g_d dtbX8_takeItem_0 31 rfl) rfl ?_
          refine nz_ri .boolean (g_d dtbX8_takeItem_0 32 rfl) rfl rfl ?_
          exact ⟨FD.rf, Or.inr ⟨rfl, p, by unfold iItem; rw [if_neg hs0, if_neg (by omega), if_pos hs1, if_pos (by omega)], hT.2.1, hT.2.2.1⟩⟩
        · refine cz_aload_n (pc' := 54) (g_d dtbX8_takeItem_0 26 rfl) rfl rfl ?_
          refine nz_cVi (M' := mX8_takeBill) (k := 17) (As := []) (S := []) (L := [some (.ref 17), some (iv (f))]) (pc' := 57) (g_d dtbX8_takeItem_0 27 rfl) lk_X8_61 okX8_takeBill (by decide) rfl rfl rfl rfl (Nat.le_of_ble_eq_true rfl) (Nat.le_of_ble_eq_true rfl) (by decide) rfl (c_takeBill G Z n t p hT r hB (r 6).toNat (by omega) (by omega)) ?_
          rintro _ V ⟨hfd, ⟨rfl, hir⟩ | ⟨rfl, hir⟩⟩
          · refine nz_if_eq_f (pc' := 60) (g_d dtbX8_takeItem_0 28 rfl) (by omega) (by decide) rfl (by omega) ?_
            refine nz_iconst (pc' := 61) (g_d dtbX8_takeItem_0 29 rfl) rfl ?_
            refine cz_goto (pc' := 65) (g_d dtbX8_takeItem_0 30 rfl) rfl ?_
            refine nz_ri .boolean (g_d dtbX8_takeItem_0 32 rfl) rfl rfl ?_
            have hi0 : i ≠ 0 := by omega
            have hn7 : ¬ r 6 = 7 := by omega
            rw [show iItem n t i p r = _ from by unfold iItem; rw [if_neg hs0, if_neg hi0, if_pos hs1, if_neg hn7]]
            exact ⟨hfd, Or.inl ⟨rfl, hir⟩⟩
          · refine nz_if_eq_t (tgt := 64) (g_d dtbX8_takeItem_0 28 rfl) (by omega) rfl (by omega) ?_
            refine nz_iconst (pc' := 65) (g_d dtbX8_takeItem_0 31 rfl) rfl ?_
            refine nz_ri .boolean (g_d dtbX8_takeItem_0 32 rfl) rfl rfl ?_
            have hi0 : i ≠ 0 := by omega
            have hn7 : ¬ r 6 = 7 := by omega
            rw [show iItem n t i p r = _ from by unfold iItem; rw [if_neg hs0, if_neg hi0, if_pos hs1, if_neg hn7]]
            exact ⟨hfd, Or.inr ⟨rfl, hir⟩⟩
      · refine nz_if_eq_t (tgt := 66) (g_d dtbX8_takeItem_0 20 rfl) (by omega) rfl (by omega) ?_
        refine cz_aload_n (pc' := 67) (g_d dtbX8_takeItem_0 33 rfl) rfl rfl ?_
        refine cz_ldcs (i := 2) (pc' := 69) (by decide) (g_d dtbX8_takeItem_0 34 rfl) rfl rfl ?_
        refine nz_cVi (M' := mX8_spells) (k := 17) (As := [.ref 1003]) (S := []) (L := [some (.ref 17), some (iv (f))]) (pc' := 72) (g_d dtbX8_takeItem_0 35 rfl) lk_X8_48 okX8_spells (by decide) rfl rfl rfl rfl (Nat.le_of_ble_eq_true rfl) (Nat.le_of_ble_eq_true rfl) (by decide) rfl (c_spells G Z n t p 2 hT (by decide)) ?_
        rintro _ _ ⟨rfl, ⟨rfl, hs2⟩ | ⟨rfl, hs2⟩⟩
        · refine nz_if_eq_f (pc' := 75) (g_d dtbX8_takeItem_0 36 rfl) (by omega) (by decide) rfl (by omega) ?_
          refine cz_aload_n (pc' := 76) (g_d dtbX8_takeItem_0 37 rfl) rfl rfl ?_
          refine nz_iconst (pc' := 77) (g_d dtbX8_takeItem_0 38 rfl) rfl ?_
          refine nz_bipush (pc' := 79) (g_d dtbX8_takeItem_0 39 rfl) (by decide) rfl ?_
          refine nz_cVi (M' := mX8_takeFigure) (k := 17) (As := [iv 5, iv 30]) (S := []) (L := [some (.ref 17), some (iv (f))]) (pc' := 82) (g_d dtbX8_takeItem_0 40 rfl) lk_X8_66 okX8_takeFigure (by decide) rfl rfl rfl rfl (Nat.le_of_ble_eq_true rfl) (Nat.le_of_ble_eq_true rfl) (by decide) rfl (c_takeFigure G Z n t p hT r hB 5 (by decide) 30 (by decide)) ?_
          rintro _ V ⟨hfd, ⟨rfl, hir⟩ | ⟨rfl, hir⟩⟩
          · refine nz_ri .boolean (g_d dtbX8_takeItem_0 41 rfl) rfl rfl ?_
            have hi0 : i ≠ 0 := by omega
            rw [show iItem n t i p r = _ from by unfold iItem; rw [if_neg hs0, if_neg hi0, if_neg hs1, if_pos hs2]]
            exact ⟨hfd, Or.inl ⟨rfl, hir⟩⟩
          · refine nz_ri .boolean (g_d dtbX8_takeItem_0 41 rfl) rfl rfl ?_
            have hi0 : i ≠ 0 := by omega
            rw [show iItem n t i p r = _ from by unfold iItem; rw [if_neg hs0, if_neg hi0, if_neg hs1, if_pos hs2]]
            exact ⟨hfd, Or.inr ⟨rfl, hir⟩⟩
        · refine nz_if_eq_t (tgt := 83) (g_d dtbX8_takeItem_0 36 rfl) (by omega) rfl (by omega) ?_
          refine cz_aload_n (pc' := 84) (g_d dtbX8_takeItem_0 42 rfl) rfl rfl ?_
          refine cz_ldcs (i := 3) (pc' := 86) (by decide) (g_d dtbX8_takeItem_0 43 rfl) rfl rfl ?_
          refine nz_cVi (M' := mX8_spells) (k := 17) (As := [.ref 1004]) (S := []) (L := [some (.ref 17), some (iv (f))]) (pc' := 89) (g_d dtbX8_takeItem_0 44 rfl) lk_X8_48 okX8_spells (by decide) rfl rfl rfl rfl (Nat.le_of_ble_eq_true rfl) (Nat.le_of_ble_eq_true rfl) (by decide) rfl (c_spells G Z n t p 3 hT (by decide)) ?_
          rintro _ _ ⟨rfl, ⟨rfl, hs3⟩ | ⟨rfl, hs3⟩⟩
          · refine nz_if_eq_f (pc' := 92) (g_d dtbX8_takeItem_0 45 rfl) (by omega) (by decide) rfl (by omega) ?_
            refine cz_aload_n (pc' := 93) (g_d dtbX8_takeItem_0 46 rfl) rfl rfl ?_
            refine nz_iconst (pc' := 94) (g_d dtbX8_takeItem_0 47 rfl) rfl ?_
            refine nz_bipush (pc' := 96) (g_d dtbX8_takeItem_0 48 rfl) (by decide) rfl ?_
            refine nz_cVi (M' := mX8_takeFigure) (k := 17) (As := [iv 1, iv 99]) (S := []) (L := [some (.ref 17), some (iv (f))]) (pc' := 99) (g_d dtbX8_takeItem_0 49 rfl) lk_X8_66 okX8_takeFigure (by decide) rfl rfl rfl rfl (Nat.le_of_ble_eq_true rfl) (Nat.le_of_ble_eq_true rfl) (by decide) rfl (c_takeFigure G Z n t p hT r hB 1 (by decide) 99 (by decide)) ?_
            rintro _ V ⟨hfd, ⟨rfl, hir⟩ | ⟨rfl, hir⟩⟩
            · refine nz_if_eq_f (pc' := 102) (g_d dtbX8_takeItem_0 50 rfl) (by omega) (by decide) rfl (by omega) ?_
              refine nz_iconst (pc' := 103) (g_d dtbX8_takeItem_0 51 rfl) rfl ?_
              refine cz_goto (pc' := 107) (g_d dtbX8_takeItem_0 52 rfl) rfl ?_
              refine nz_ri .boolean (g_d dtbX8_takeItem_0 54 rfl) rfl rfl ?_
              have hi0 : i ≠ 0 := by omega
              rw [show iItem n t i p r = _ from by unfold iItem; rw [if_neg hs0, if_neg hi0, if_neg hs1, if_neg hs2, if_pos hs3]]
              exact ⟨hfd, Or.inl ⟨rfl, hir⟩⟩
            · refine nz_if_eq_t (tgt := 106) (g_d dtbX8_takeItem_0 50 rfl) (by omega) rfl (by omega) ?_
              refine nz_iconst (pc' := 107) (g_d dtbX8_takeItem_0 53 rfl) rfl ?_
              refine nz_ri .boolean (g_d dtbX8_takeItem_0 54 rfl) rfl rfl ?_
              have hi0 : i ≠ 0 := by omega
              rw [show iItem n t i p r = _ from by unfold iItem; rw [if_neg hs0, if_neg hi0, if_neg hs1, if_neg hs2, if_pos hs3]]
              exact ⟨hfd, Or.inr ⟨rfl, hir⟩⟩
          · refine nz_if_eq_t (tgt := 106) (g_d dtbX8_takeItem_0 45 rfl) (by omega) rfl (by omega) ?_
            refine nz_iconst (pc' := 107) (g_d dtbX8_takeItem_0 53 rfl) rfl ?_
            refine nz_ri .boolean (g_d dtbX8_takeItem_0 54 rfl) rfl rfl ?_
            exact ⟨FD.rf, Or.inr ⟨rfl, p, by unfold iItem; rw [if_neg hs0, if_neg (by omega), if_neg hs1, if_neg hs2, if_neg hs3], hT.2.1, hT.2.2.1⟩⟩
    · refine nz_iconst (pc' := 31) (g_d dtbX8_takeItem_0 15 rfl) rfl ?_
      refine nz_ri .boolean (g_d dtbX8_takeItem_0 16 rfl) rfl rfl ?_
      exact ⟨FD.rf, Or.inr ⟨rfl, p, by unfold iItem; rw [if_neg hs0, if_pos (by omega)], hT.2.1, hT.2.2.1⟩⟩
