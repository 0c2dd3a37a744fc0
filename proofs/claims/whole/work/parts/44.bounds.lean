/-! as it may be, from call to call -/
theorem ao_up {B : Int} {A : AS} (h : AO B A) (hb : B + 700000 ≤ 60000000) : AO (B + 700000) A := h.mono (by omega) hb
theorem ao_bad {B : Int} {A : AS} (h : AO B A) (hb : B + 700000 ≤ 60000000) : AO (B + 700000) (aBad A) := (h.bad (by omega)).mono (by omega) hb
theorem ao_no {B : Int} {A : AS} (h : AO B A) (hb : B + 700000 ≤ 60000000) : AO (B + 700000) (aNo A) := (h.no (by omega)).mono (by omega) hb
theorem ao_full {B : Int} {A : AS} (h : AO B A) (hb : B + 700000 ≤ 60000000) : AO (B + 700000) (aFull A) := (h.full (by omega)).mono (by omega) hb

theorem ao_Of {B : Int} {A : AS} (h : AO B A) (hb : B + 700000 ≤ 60000000) (b w : Int) : AO (B + 700000) (xOf A b w).2 := by
  unfold xOf
  (repeat' split) <;> first | exact ao_up h hb | exact ao_bad h hb
theorem ao_Truly {B : Int} {A : AS} (h : AO B A) (hb : B + 700000 ≤ 60000000)  : AO (B + 700000) (xTruly A).2 := by
  unfold xTruly
  exact ao_up h hb
theorem ao_Monthly {B : Int} {A : AS} (h : AO B A) (hb : B + 700000 ≤ 60000000) (b : Int) : AO (B + 700000) (xMonthly A b).2 := by
  unfold xMonthly
  (repeat' split) <;> first | exact ao_up h hb | exact ao_bad h hb
theorem ao_Then {B : Int} {A : AS} (h : AO B A) (hb : B + 700000 ≤ 60000000) (m w : Int) : AO (B + 700000) (xThen A m w).2 := by
  unfold xThen
  (repeat' split) <;> first | exact ao_up h hb | exact ao_bad h hb
theorem ao_Low {B : Int} {A : AS} (h : AO B A) (hb : B + 700000 ≤ 60000000) (m w : Int) : AO (B + 700000) (xLow A m w).2 := by
  unfold xLow
  (repeat' split) <;> first | exact ao_up h hb | exact ao_bad h hb
theorem ao_Below {B : Int} {A : AS} (h : AO B A) (hb : B + 700000 ≤ 60000000)  : AO (B + 700000) (xBelow A).2 := by
  unfold xBelow
  exact ao_up h hb
theorem ao_Most {B : Int} {A : AS} (h : AO B A) (hb : B + 700000 ≤ 60000000) (m : Int) : AO (B + 700000) (xMost A m).2 := by
  unfold xMost
  (repeat' split) <;> first | exact ao_up h hb | exact ao_bad h hb
theorem ao_Need {B : Int} {A : AS} (h : AO B A) (hb : B + 700000 ≤ 60000000) (m : Int) : AO (B + 700000) (xNeed A m).2 := by
  unfold xNeed
  (repeat' split) <;> first | exact ao_up h hb | exact ao_bad h hb
theorem ao_Move {B : Int} {A : AS} (h : AO B A) (hb : B + 700000 ≤ 60000000)  : AO (B + 700000) (xMove A).2 := by
  unfold xMove
  exact ao_up h hb
theorem ao_Dear {B : Int} {A : AS} (h : AO B A) (hb : B + 700000 ≤ 60000000)  : AO (B + 700000) (xDear A).2 := by
  unfold xDear
  exact ao_up h hb
theorem ao_Years {B : Int} {A : AS} (h : AO B A) (hb : B + 700000 ≤ 60000000) (s n : Int) : AO (B + 700000) (xYears A s n).2 := by
  unfold xYears
  (repeat' split) <;> first | exact ao_up h hb | exact ao_bad h hb
theorem ao_Is {B : Int} {A : AS} (h : AO B A) (hb : B + 700000 ≤ 60000000) (b : Int) : AO (B + 700000) (xIs A b).2 := by
  unfold xIs
  (repeat' split) <;> first | exact ao_up h hb | exact ao_bad h hb
theorem ao_Look {B : Int} {A : AS} (h : AO B A) (hb : B + 700000 ≤ 60000000) (b : Int) : AO (B + 700000) (xLook A b).2 := by
  unfold xLook
  (repeat' split) <;> first | exact ao_up h hb | exact ao_bad h hb
theorem ao_Part {B : Int} {A : AS} (h : AO B A) (hb : B + 700000 ≤ 60000000) (w : Int) : AO (B + 700000) (xPart A w).2 := by
  unfold xPart
  (repeat' split) <;> first | exact ao_up h hb | exact ao_bad h hb
theorem ao_Now {B : Int} {A : AS} (h : AO B A) (hb : B + 700000 ≤ 60000000) (w : Int) : AO (B + 700000) (xNow A w).2 := by
  unfold xNow
  (repeat' split) <;> first | exact ao_up h hb | exact ao_bad h hb
theorem ao_Status {B : Int} {A : AS} (h : AO B A) (hb : B + 700000 ≤ 60000000) (w : Int) : AO (B + 700000) (xStatus A w).2 := by
  unfold xStatus
  (repeat' split) <;> first | exact ao_up h hb | exact ao_bad h hb
theorem ao_Count {B : Int} {A : AS} (h : AO B A) (hb : B + 700000 ≤ 60000000) (w : Int) : AO (B + 700000) (xCount A w).2 := by
  unfold xCount
  (repeat' split) <;> first | exact ao_up h hb | exact ao_bad h hb
theorem ao_Account {B : Int} {A : AS} (h : AO B A) (hb : B + 700000 ≤ 60000000) (n : Int) : AO (B + 700000) (xAccount A n).2 := by
  unfold xAccount
  split
  · have hb0 := h.1
    exact (ao_up h hb).f ((ro_begin (by omega) (by omega)).ext (fun j hj => r108_at hj))
  · exact ao_bad h hb
theorem ao_Bill {B : Int} {A : AS} (h : AO B A) (hb : B + 700000 ≤ 60000000) (a d p : Int) : AO (B + 700000) (xBill A a d p).2 := by
  unfold xBill
  split
  · rename_i q
    split
    · exact ao_full h hb
    · have h6 := h.2.1.2.1
      exact (ao_up h hb).f (ro_bill (ao_up h hb).2.1 (by omega) q.1 q.2.1 q.2.2)
  · exact ao_bad h hb
theorem AO.t {B : Int} {A : AS} {n : Nat} {t : Row} (h : AO B A) (hn : n ≤ 150 ∧ ∀ i, i < n → 0 ≤ t i ∧ t i ≤ 127) : AO B (sT A n t) := ⟨h.1, h.2.1, h.2.2.1, h.2.2.2.1, hn, h.2.2.2.2.2⟩
theorem ao_Type {B : Int} {A : AS} (h : AO B A) (hb : B + 700000 ≤ 60000000) (c : Int) : AO (B + 700000) (xType A c).2 := by
  unfold xType
  split
  · split
    · exact ao_full h hb
    · have ht := h.2.2.2.2.1
      refine (ao_up h hb).t ⟨by omega, fun i hi => ?_⟩
      by_cases q : i = A.2.2.2.1.1
      · rw [q, ru_eq]; omega
      · rw [ru_ne q]; exact ht.2 i (by omega)
  · exact ao_bad h hb
theorem ao_Clear {B : Int} {A : AS} (h : AO B A) (hb : B + 700000 ≤ 60000000) : AO (B + 700000) (xClear A).2 := (ao_up h hb).t ⟨Nat.zero_le _, fun i hi => absurd hi (Nat.not_lt_zero i)⟩
theorem ao_Days {B : Int} {A : AS} (h : AO B A) (hb : B + 700000 ≤ 60000000) (n : Int) : AO (B + 700000) (xDays A n).2 := by
  unfold xDays
  split
  · exact (ao_up h hb).f ((ro_ds (ro_keep h.2.1) n.toNat).mono (by omega))
  · exact ao_bad h hb
theorem ao_Spend {B : Int} {A : AS} (h : AO B A) (hb : B + 700000 ≤ 60000000) (n : Int) : AO (B + 700000) (xSpend A n).2 := by
  unfold xSpend
  split
  · have hk := ro_keep (ao_up h hb).2.1
    refine (ao_up h hb).f (ro_fig hk (fun j hj => ru_ne (by omega)) ?_)
    have hf := hk.1
    unfold FO at hf ⊢
    have a0 : ru (rKeep A.1) 5 n 0 = rKeep A.1 0 := ru_ne (by decide)
    have a1 : ru (rKeep A.1) 5 n 1 = rKeep A.1 1 := ru_ne (by decide)
    have a2 : ru (rKeep A.1) 5 n 2 = rKeep A.1 2 := ru_ne (by decide)
    have a3 : ru (rKeep A.1) 5 n 3 = rKeep A.1 3 := ru_ne (by decide)
    have a4 : ru (rKeep A.1) 5 n 4 = rKeep A.1 4 := ru_ne (by decide)
    have a5 : ru (rKeep A.1) 5 n 5 = n := ru_eq
    rw [a0, a1, a2, a3, a4, a5]; omega
  · exact ao_bad h hb
theorem ao_Jar {B : Int} {A : AS} (h : AO B A) (hb : B + 700000 ≤ 60000000) (n : Int) : AO (B + 700000) (xJar A n).2 := by
  unfold xJar
  split
  · split
    · exact ao_no h hb
    · have hk := ro_keep (ao_up h hb).2.1
      have h0 := h.2.1.1
      unfold FO at h0
      refine (ao_up h hb).f (ro_fig hk (fun j hj => by rw [ru_ne (by omega), ru_ne (by omega)]) ?_)
      have hf := hk.1
      unfold FO at hf ⊢
      have a0 : ru (ru (rKeep A.1) 0 (A.1 0 - n)) 1 (A.1 1 + n) 0 = A.1 0 - n := by rw [ru_ne (by decide), ru_eq]
      have a1 : ru (ru (rKeep A.1) 0 (A.1 0 - n)) 1 (A.1 1 + n) 1 = A.1 1 + n := ru_eq
      have a2 : ru (ru (rKeep A.1) 0 (A.1 0 - n)) 1 (A.1 1 + n) 2 = rKeep A.1 2 := by rw [ru_ne (by decide), ru_ne (by decide)]
      have a3 : ru (ru (rKeep A.1) 0 (A.1 0 - n)) 1 (A.1 1 + n) 3 = rKeep A.1 3 := by rw [ru_ne (by decide), ru_ne (by decide)]
      have a4 : ru (ru (rKeep A.1) 0 (A.1 0 - n)) 1 (A.1 1 + n) 4 = rKeep A.1 4 := by rw [ru_ne (by decide), ru_ne (by decide)]
      have a5 : ru (ru (rKeep A.1) 0 (A.1 0 - n)) 1 (A.1 1 + n) 5 = rKeep A.1 5 := by rw [ru_ne (by decide), ru_ne (by decide)]
      rw [a0, a1, a2, a3, a4, a5]; omega
  · exact ao_bad h hb
theorem ao_Undo {B : Int} {A : AS} (h : AO B A) (hb : B + 700000 ≤ 60000000) : AO (B + 700000) (xUndo A).2 := by
  unfold xUndo
  have h59 := h.2.1.2.2.2.2.2.1
  split
  · exact ao_no h hb
  · exact (ao_up h hb).f (ro_undo (ao_up h hb).2.1 (by omega))
theorem ao_Forget {B : Int} {A : AS} (h : AO B A) (hb : B + 700000 ≤ 60000000) : AO (B + 700000) (xForget A).2 := (ao_up h hb).f (ro_forget (ao_up h hb).2.1)
theorem ao_Note {B : Int} {A : AS} (h : AO B A) (hb : B + 700000 ≤ 60000000) (b d e m q : Int) : AO (B + 700000) (xNote A b d e m q).2 := by
  unfold xNote
  split
  · rename_i z
    split
    · exact ao_full h hb
    · have h6 := h.2.1.2.1
      have h28 := h.2.1.2.2.2.1
      exact (ao_up h hb).f (ro_note (ao_up h hb).2.1 (by omega) (by omega) z.2.1 z.2.2.1 z.2.2.2.1 z.2.2.2.2)
  · exact ao_bad h hb
theorem ao_Image {B : Int} {A : AS} (h : AO B A) (hb : B + 700000 ≤ 60000000) (i : Int) : AO (B + 700000) (xImage A i).2 := by
  unfold xImage
  have g := ao_up h hb
  split
  · exact ⟨g.1, g.2.1, ⟨Or.inr rfl, fun _ => g.2.1⟩, g.2.2.2⟩
  · split
    · exact ⟨g.1, g.2.1, g.2.2.1, ⟨Or.inr rfl, fun _ => g.2.1⟩, g.2.2.2.2⟩
    · exact ao_bad h hb
theorem ao_From {B : Int} {A : AS} (h : AO B A) (hb : B + 700000 ≤ 60000000) (i : Int) : AO (B + 700000) (xFrom A i).2 := by
  unfold xFrom
  have g := ao_up h hb
  split
  · split
    · exact ao_no h hb
    · rename_i q
      exact g.f ((g.2.2.1.2 (g.2.2.1.1.resolve_left q)).ext (fun j hj => r108_at hj))
  · split
    · split
      · exact ao_no h hb
      · rename_i q
        exact g.f ((g.2.2.2.1.2 (g.2.2.2.1.1.resolve_left q)).ext (fun j hj => r108_at hj))
    · exact ao_bad h hb
theorem ao_Boiler {B : Int} {A : AS} (h : AO B A) (hb : B + 700000 ≤ 60000000) (b m c : Int) : AO (B + 700000) (xBoiler A b m c).2 := by
  unfold xBoiler
  have g := ao_up h hb
  split
  · rename_i q
    have t1 := tB_in (A := A) (b := b) (c := c) (m := m.toNat) q.2.2 (by omega)
    generalize tB A b c m.toNat = t at t1 ⊢
    have t2 : cT t = 1 ∨ cT t = 2 ∨ cT t = 5 ∨ cT t = 10 := by unfold cT; (repeat' split) <;> simp
    refine ⟨g.1, g.2.1, g.2.2.1, g.2.2.2.1, g.2.2.2.2.1, ⟨?_, ?_⟩, g.2.2.2.2.2.2⟩
    · show 0 ≤ t / cT t ∧ t / cT t ≤ 1000
      rcases t2 with e | e | e | e <;> rw [e] <;> omega
    · show 1 ≤ 10 / cT t ∧ 10 / cT t ≤ 10
      rcases t2 with e | e | e | e <;> rw [e] <;> omega
  · exact ao_bad h hb
theorem ao_Read {B : Int} {A : AS} (h : AO B A) (hb : B + 700000 ≤ 60000000) : AO (B + 700000) (xRead A).2 := by
  unfold xRead
  have g := ao_up h hb
  split
  · exact g
  · rename_i i r hq
    have hb0 := h.1
    exact g.f (((ro_rd _ _ _ _ _ _ ro_0 hq).1.mono (by omega)).ext (fun j hj => r108_at hj))
