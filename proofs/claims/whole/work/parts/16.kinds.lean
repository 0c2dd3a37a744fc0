/-! the kinds -/
def dayB (κ d : Int) : Int := if κ = 1 ∨ κ = 5 then (if d % 7 = 0 then (if d = 28 then d - 1 else d + 1) else d) else if κ = 3 then (if d + 14 ≤ 28 then d + 14 else d + 14 - 28) else d
def pndB (κ p m : Int) : Int := if κ = 2 then (if m % 3 = 0 then p else 0) else if κ = 4 then (if m % 12 = 0 then 10 * p else 0) else if κ = 5 then -p else p
theorem dayB_in {κ d : Int} (hd : 1 ≤ d ∧ d ≤ 28) : 1 ≤ dayB κ d ∧ dayB κ d ≤ 28 := by
  unfold dayB
  repeat' split
  all_goals omega
theorem pndB_in {κ p m : Int} (hp : 0 ≤ p ∧ p ≤ 99) : -99 ≤ pndB κ p m ∧ pndB κ p m ≤ 990 := by
  unfold pndB
  repeat' split
  all_goals omega

set_option maxRecDepth 20000 in
set_option maxHeartbeats 4000000 in
theorem c_plainDay (G : Wd) (Z : ZS) (k : Nat) (d : Int) : Cn G mX6_drawnOn 0 [some (.ref k), some (iv (d))] [] Z (qi (fun r W => d = r ∧ Z = W)) := by
  refine cz_iload_n (pc' := 1) (g_d dtbX6_drawnOn_0 0 rfl) rfl rfl ?_
  refine nz_ri .int (g_d dtbX6_drawnOn_0 1 rfl) rfl rfl ?_
  exact ⟨rfl, rfl⟩

set_option maxRecDepth 20000 in
set_option maxHeartbeats 4000000 in
theorem c_plainPnd (G : Wd) (Z : ZS) (k : Nat) (m p : Int) : Cn G mX6_poundsIn 0 [some (.ref k), some (iv (m)), some (iv (p))] [] Z (qi (fun r W => p = r ∧ Z = W)) := by
  refine cz_iload_n (pc' := 1) (g_d dtbX6_poundsIn_0 0 rfl) rfl rfl ?_
  refine nz_ri .int (g_d dtbX6_poundsIn_0 1 rfl) rfl rfl ?_
  exact ⟨rfl, rfl⟩

set_option maxRecDepth 20000 in
set_option maxHeartbeats 4000000 in
theorem c_cardDay (G : Wd) (Z : ZS) (d : Int) (hd : 1 ≤ d ∧ d ≤ 28) : Cn G mX1_drawnOn 0 [some (.ref 29), some (iv (d)), none] [] Z (qi (fun r W => dayB 3 d = r ∧ Z = W)) := by
  refine cz_aload_n (pc' := 1) (g_d dtbX1_drawnOn_0 0 rfl) rfl rfl ?_
  refine cz_iload_n (pc' := 2) (g_d dtbX1_drawnOn_0 1 rfl) rfl rfl ?_
  refine nz_cVi (M' := mX6_drawnOn) (k := 29) (As := [iv (d)]) (S := []) (L := [some (.ref 29), some (iv (d)), none]) (pc' := 5) (g_d dtbX1_drawnOn_0 2 rfl) lk_X1_9_X1 okX6_drawnOn (by decide) rfl rfl rfl rfl (Nat.le_of_ble_eq_true rfl) (Nat.le_of_ble_eq_true rfl) (by decide) rfl (c_plainDay G Z 29 d) ?_
  rintro _ _ ⟨rfl, rfl⟩
  refine nz_bipush (pc' := 7) (g_d dtbX1_drawnOn_0 3 rfl) (by decide) rfl ?_
  refine nz_iadd (pc' := 8) (g_d dtbX1_drawnOn_0 4 rfl) rfl ?_
  refine cz_istore_n (L' := [some (.ref 29), some (iv (d)), some (iv (d + 14))]) (pc' := 9) (g_d dtbX1_drawnOn_0 5 rfl) (by decide) rfl rfl ?_
  refine cz_iload_n (pc' := 10) (g_d dtbX1_drawnOn_0 6 rfl) rfl rfl ?_
  refine nz_bipush (pc' := 12) (g_d dtbX1_drawnOn_0 7 rfl) (by decide) rfl ?_
  refine nz_icmp_le (tgt := 22) (pc' := 15) (g_d dtbX1_drawnOn_0 8 rfl) (by omega) (by omega) rfl rfl (fun h12 => ?_) (fun h12 => ?_)
  · refine cz_iload_n (pc' := 23) (g_d dtbX1_drawnOn_0 13 rfl) rfl rfl ?_
    refine nz_ri .int (g_d dtbX1_drawnOn_0 14 rfl) rfl rfl ?_
    refine ⟨?_, rfl⟩
    unfold dayB
    rw [if_neg (by omega), if_pos rfl]
    first | rw [if_pos (by omega)] | rw [if_neg (by omega)]
  · refine cz_iload_n (pc' := 16) (g_d dtbX1_drawnOn_0 9 rfl) rfl rfl ?_
    refine nz_bipush (pc' := 18) (g_d dtbX1_drawnOn_0 10 rfl) (by decide) rfl ?_
    refine nz_isub (pc' := 19) (g_d dtbX1_drawnOn_0 11 rfl) rfl ?_
    refine cz_goto (pc' := 23) (g_d dtbX1_drawnOn_0 12 rfl) rfl ?_
    refine nz_ri .int (g_d dtbX1_drawnOn_0 14 rfl) rfl rfl ?_
    refine ⟨?_, rfl⟩
    unfold dayB
    rw [if_neg (by omega), if_pos rfl]
    first | rw [if_pos (by omega)] | rw [if_neg (by omega)]

set_option maxRecDepth 20000 in
set_option maxHeartbeats 4000000 in
theorem c_movedDay27 (G : Wd) (Z : ZS) (d : Int) (hd : 1 ≤ d ∧ d ≤ 28) : Cn G mX3_drawnOn 0 [some (.ref 27), some (iv (d)), none] [] Z (qi (fun r W => dayB 1 d = r ∧ Z = W)) := by
  refine cz_aload_n (pc' := 1) (g_d dtbX3_drawnOn_0 0 rfl) rfl rfl ?_
  refine cz_iload_n (pc' := 2) (g_d dtbX3_drawnOn_0 1 rfl) rfl rfl ?_
  refine nz_cVi (M' := mX6_drawnOn) (k := 27) (As := [iv (d)]) (S := []) (L := [some (.ref 27), some (iv (d)), none]) (pc' := 5) (g_d dtbX3_drawnOn_0 2 rfl) lk_X3_9_X3 okX6_drawnOn (by decide) rfl rfl rfl rfl (Nat.le_of_ble_eq_true rfl) (Nat.le_of_ble_eq_true rfl) (by decide) rfl (c_plainDay G Z 27 d) ?_
  rintro _ _ ⟨rfl, rfl⟩
  refine cz_istore_n (L' := [some (.ref 27), some (iv (d)), some (iv (d))]) (pc' := 6) (g_d dtbX3_drawnOn_0 3 rfl) (by decide) rfl rfl ?_
  refine cz_iload_n (pc' := 7) (g_d dtbX3_drawnOn_0 4 rfl) rfl rfl ?_
  refine nz_bipush (pc' := 9) (g_d dtbX3_drawnOn_0 5 rfl) (by decide) rfl ?_
  refine nz_irem (pc' := 10) (g_d dtbX3_drawnOn_0 6 rfl) (by omega) (by omega) rfl ?_
  refine nz_if_eq (tgt := 15) (pc' := 13) (g_d dtbX3_drawnOn_0 7 rfl) (by omega) rfl rfl (fun h10 => ?_) (fun h10 => ?_)
  · refine cz_iload_n (pc' := 16) (g_d dtbX3_drawnOn_0 10 rfl) rfl rfl ?_
    refine nz_bipush (pc' := 18) (g_d dtbX3_drawnOn_0 11 rfl) (by decide) rfl ?_
    refine nz_icmp_ne (tgt := 27) (pc' := 21) (g_d dtbX3_drawnOn_0 12 rfl) (by omega) (by omega) rfl rfl (fun h18 => ?_) (fun h18 => ?_)
    · refine cz_iload_n (pc' := 28) (g_d dtbX3_drawnOn_0 17 rfl) rfl rfl ?_
      refine nz_iconst (pc' := 29) (g_d dtbX3_drawnOn_0 18 rfl) rfl ?_
      refine nz_iadd (pc' := 30) (g_d dtbX3_drawnOn_0 19 rfl) rfl ?_
      refine nz_ri .int (g_d dtbX3_drawnOn_0 20 rfl) rfl rfl ?_
      refine ⟨?_, rfl⟩
      unfold dayB
      rw [if_pos (by omega)]
      first | rw [if_neg (by omega)] | rw [if_pos (by omega), if_pos (by omega)] | rw [if_pos (by omega), if_neg (by omega)]
    · refine cz_iload_n (pc' := 22) (g_d dtbX3_drawnOn_0 13 rfl) rfl rfl ?_
      refine nz_iconst (pc' := 23) (g_d dtbX3_drawnOn_0 14 rfl) rfl ?_
      refine nz_isub (pc' := 24) (g_d dtbX3_drawnOn_0 15 rfl) rfl ?_
      refine cz_goto (pc' := 30) (g_d dtbX3_drawnOn_0 16 rfl) rfl ?_
      refine nz_ri .int (g_d dtbX3_drawnOn_0 20 rfl) rfl rfl ?_
      refine ⟨?_, rfl⟩
      unfold dayB
      rw [if_pos (by omega)]
      first | rw [if_neg (by omega)] | rw [if_pos (by omega), if_pos (by omega)] | rw [if_pos (by omega), if_neg (by omega)]
  · refine cz_iload_n (pc' := 14) (g_d dtbX3_drawnOn_0 8 rfl) rfl rfl ?_
    refine nz_ri .int (g_d dtbX3_drawnOn_0 9 rfl) rfl rfl ?_
    refine ⟨?_, rfl⟩
    unfold dayB
    rw [if_pos (by omega)]
    first | rw [if_neg (by omega)] | rw [if_pos (by omega), if_pos (by omega)] | rw [if_pos (by omega), if_neg (by omega)]

set_option maxRecDepth 20000 in
set_option maxHeartbeats 4000000 in
theorem c_movedDay31 (G : Wd) (Z : ZS) (d : Int) (hd : 1 ≤ d ∧ d ≤ 28) : Cn G mX3_drawnOn 0 [some (.ref 31), some (iv (d)), none] [] Z (qi (fun r W => dayB 5 d = r ∧ Z = W)) := by
  refine cz_aload_n (pc' := 1) (g_d dtbX3_drawnOn_0 0 rfl) rfl rfl ?_
  refine cz_iload_n (pc' := 2) (g_d dtbX3_drawnOn_0 1 rfl) rfl rfl ?_
  refine nz_cVi (M' := mX6_drawnOn) (k := 31) (As := [iv (d)]) (S := []) (L := [some (.ref 31), some (iv (d)), none]) (pc' := 5) (g_d dtbX3_drawnOn_0 2 rfl) lk_X3_9_X5 okX6_drawnOn (by decide) rfl rfl rfl rfl (Nat.le_of_ble_eq_true rfl) (Nat.le_of_ble_eq_true rfl) (by decide) rfl (c_plainDay G Z 31 d) ?_
  rintro _ _ ⟨rfl, rfl⟩
  refine cz_istore_n (L' := [some (.ref 31), some (iv (d)), some (iv (d))]) (pc' := 6) (g_d dtbX3_drawnOn_0 3 rfl) (by decide) rfl rfl ?_
  refine cz_iload_n (pc' := 7) (g_d dtbX3_drawnOn_0 4 rfl) rfl rfl ?_
  refine nz_bipush (pc' := 9) (g_d dtbX3_drawnOn_0 5 rfl) (by decide) rfl ?_
  refine nz_irem (pc' := 10) (g_d dtbX3_drawnOn_0 6 rfl) (by omega) (by omega) rfl ?_
  refine nz_if_eq (tgt := 15) (pc' := 13) (g_d dtbX3_drawnOn_0 7 rfl) (by omega) rfl rfl (fun h10 => ?_) (fun h10 => ?_)
  · refine cz_iload_n (pc' := 16) (g_d dtbX3_drawnOn_0 10 rfl) rfl rfl ?_
    refine nz_bipush (pc' := 18) (g_d dtbX3_drawnOn_0 11 rfl) (by decide) rfl ?_
    refine nz_icmp_ne (tgt := 27) (pc' := 21) (g_d dtbX3_drawnOn_0 12 rfl) (by omega) (by omega) rfl rfl (fun h18 => ?_) (fun h18 => ?_)
    · refine cz_iload_n (pc' := 28) (g_d dtbX3_drawnOn_0 17 rfl) rfl rfl ?_
      refine nz_iconst (pc' := 29) (g_d dtbX3_drawnOn_0 18 rfl) rfl ?_
      refine nz_iadd (pc' := 30) (g_d dtbX3_drawnOn_0 19 rfl) rfl ?_
      refine nz_ri .int (g_d dtbX3_drawnOn_0 20 rfl) rfl rfl ?_
      refine ⟨?_, rfl⟩
      unfold dayB
      rw [if_pos (by omega)]
      first | rw [if_neg (by omega)] | rw [if_pos (by omega), if_pos (by omega)] | rw [if_pos (by omega), if_neg (by omega)]
    · refine cz_iload_n (pc' := 22) (g_d dtbX3_drawnOn_0 13 rfl) rfl rfl ?_
      refine nz_iconst (pc' := 23) (g_d dtbX3_drawnOn_0 14 rfl) rfl ?_
      refine nz_isub (pc' := 24) (g_d dtbX3_drawnOn_0 15 rfl) rfl ?_
      refine cz_goto (pc' := 30) (g_d dtbX3_drawnOn_0 16 rfl) rfl ?_
      refine nz_ri .int (g_d dtbX3_drawnOn_0 20 rfl) rfl rfl ?_
      refine ⟨?_, rfl⟩
      unfold dayB
      rw [if_pos (by omega)]
      first | rw [if_neg (by omega)] | rw [if_pos (by omega), if_pos (by omega)] | rw [if_pos (by omega), if_neg (by omega)]
  · refine cz_iload_n (pc' := 14) (g_d dtbX3_drawnOn_0 8 rfl) rfl rfl ?_
    refine nz_ri .int (g_d dtbX3_drawnOn_0 9 rfl) rfl rfl ?_
    refine ⟨?_, rfl⟩
    unfold dayB
    rw [if_pos (by omega)]
    first | rw [if_neg (by omega)] | rw [if_pos (by omega), if_pos (by omega)] | rw [if_pos (by omega), if_neg (by omega)]

set_option maxRecDepth 20000 in
set_option maxHeartbeats 4000000 in
theorem c_quarterPnd28 (G : Wd) (Z : ZS) (m p : Int) (hm : 0 ≤ m ∧ m ≤ 1000000000) (hp : 0 ≤ p ∧ p ≤ 99) : Cn G mX7_poundsIn 0 [some (.ref 28), some (iv (m)), some (iv (p))] [] Z (qi (fun r W => pndB 2 p m = r ∧ Z = W)) := by
  refine cz_iload_n (pc' := 1) (g_d dtbX7_poundsIn_0 0 rfl) rfl rfl ?_
  refine nz_iconst (pc' := 2) (g_d dtbX7_poundsIn_0 1 rfl) rfl ?_
  refine nz_irem (pc' := 3) (g_d dtbX7_poundsIn_0 2 rfl) (by omega) (by omega) rfl ?_
  refine nz_if_ne (tgt := 15) (pc' := 6) (g_d dtbX7_poundsIn_0 3 rfl) (by omega) rfl rfl (fun h3 => ?_) (fun h3 => ?_)
  · refine nz_iconst (pc' := 16) (g_d dtbX7_poundsIn_0 9 rfl) rfl ?_
    refine nz_ri .int (g_d dtbX7_poundsIn_0 10 rfl) rfl rfl ?_
    refine ⟨?_, rfl⟩
    unfold pndB
    rw [if_pos rfl]
    first | rw [if_pos (by omega)] | rw [if_neg (by omega)]
  · refine cz_aload_n (pc' := 7) (g_d dtbX7_poundsIn_0 4 rfl) rfl rfl ?_
    refine cz_iload_n (pc' := 8) (g_d dtbX7_poundsIn_0 5 rfl) rfl rfl ?_
    refine cz_iload_n (pc' := 9) (g_d dtbX7_poundsIn_0 6 rfl) rfl rfl ?_
    refine nz_cVi (M' := mX6_poundsIn) (k := 28) (As := [iv (m), iv (p)]) (S := []) (L := [some (.ref 28), some (iv (m)), some (iv (p))]) (pc' := 12) (g_d dtbX7_poundsIn_0 7 rfl) lk_X7_7_X7 okX6_poundsIn (by decide) rfl rfl rfl rfl (Nat.le_of_ble_eq_true rfl) (Nat.le_of_ble_eq_true rfl) (by decide) rfl (c_plainPnd G Z 28 m p) ?_
    rintro _ _ ⟨rfl, rfl⟩
    refine cz_goto (pc' := 16) (g_d dtbX7_poundsIn_0 8 rfl) rfl ?_
    refine nz_ri .int (g_d dtbX7_poundsIn_0 10 rfl) rfl rfl ?_
    refine ⟨?_, rfl⟩
    unfold pndB
    rw [if_pos rfl]
    first | rw [if_pos (by omega)] | rw [if_neg (by omega)]

set_option maxRecDepth 20000 in
set_option maxHeartbeats 4000000 in
theorem c_quarterPnd30 (G : Wd) (Z : ZS) (m p : Int) (hm : 0 ≤ m ∧ m ≤ 1000000000) (hp : 0 ≤ p ∧ p ≤ 99) : Cn G mX7_poundsIn 0 [some (.ref 30), some (iv (m)), some (iv (p))] [] Z (qi (fun r W => pndB 2 p m = r ∧ Z = W)) := by
  refine cz_iload_n (pc' := 1) (g_d dtbX7_poundsIn_0 0 rfl) rfl rfl ?_
  refine nz_iconst (pc' := 2) (g_d dtbX7_poundsIn_0 1 rfl) rfl ?_
  refine nz_irem (pc' := 3) (g_d dtbX7_poundsIn_0 2 rfl) (by omega) (by omega) rfl ?_
  refine nz_if_ne (tgt := 15) (pc' := 6) (g_d dtbX7_poundsIn_0 3 rfl) (by omega) rfl rfl (fun h3 => ?_) (fun h3 => ?_)
  · refine nz_iconst (pc' := 16) (g_d dtbX7_poundsIn_0 9 rfl) rfl ?_
    refine nz_ri .int (g_d dtbX7_poundsIn_0 10 rfl) rfl rfl ?_
    refine ⟨?_, rfl⟩
    unfold pndB
    rw [if_pos rfl]
    first | rw [if_pos (by omega)] | rw [if_neg (by omega)]
  · refine cz_aload_n (pc' := 7) (g_d dtbX7_poundsIn_0 4 rfl) rfl rfl ?_
    refine cz_iload_n (pc' := 8) (g_d dtbX7_poundsIn_0 5 rfl) rfl rfl ?_
    refine cz_iload_n (pc' := 9) (g_d dtbX7_poundsIn_0 6 rfl) rfl rfl ?_
    refine nz_cVi (M' := mX6_poundsIn) (k := 30) (As := [iv (m), iv (p)]) (S := []) (L := [some (.ref 30), some (iv (m)), some (iv (p))]) (pc' := 12) (g_d dtbX7_poundsIn_0 7 rfl) lk_X7_7_X9 okX6_poundsIn (by decide) rfl rfl rfl rfl (Nat.le_of_ble_eq_true rfl) (Nat.le_of_ble_eq_true rfl) (by decide) rfl (c_plainPnd G Z 30 m p) ?_
    rintro _ _ ⟨rfl, rfl⟩
    refine cz_goto (pc' := 16) (g_d dtbX7_poundsIn_0 8 rfl) rfl ?_
    refine nz_ri .int (g_d dtbX7_poundsIn_0 10 rfl) rfl rfl ?_
    refine ⟨?_, rfl⟩
    unfold pndB
    rw [if_pos rfl]
    first | rw [if_pos (by omega)] | rw [if_neg (by omega)]

set_option maxRecDepth 20000 in
set_option maxHeartbeats 4000000 in
theorem c_yearlyPnd (G : Wd) (Z : ZS) (m p : Int) (hm : 0 ≤ m ∧ m ≤ 1000000000) (hp : 0 ≤ p ∧ p ≤ 99) : Cn G mX9_poundsIn 0 [some (.ref 30), some (iv (m)), some (iv (p))] [] Z (qi (fun r W => pndB 4 p m = r ∧ Z = W)) := by
  refine cz_iload_n (pc' := 1) (g_d dtbX9_poundsIn_0 0 rfl) rfl rfl ?_
  refine nz_bipush (pc' := 3) (g_d dtbX9_poundsIn_0 1 rfl) (by decide) rfl ?_
  refine nz_irem (pc' := 4) (g_d dtbX9_poundsIn_0 2 rfl) (by omega) (by omega) rfl ?_
  refine nz_if_ne (tgt := 19) (pc' := 7) (g_d dtbX9_poundsIn_0 3 rfl) (by omega) rfl rfl (fun h4 => ?_) (fun h4 => ?_)
  · refine nz_iconst (pc' := 20) (g_d dtbX9_poundsIn_0 11 rfl) rfl ?_
    refine nz_ri .int (g_d dtbX9_poundsIn_0 12 rfl) rfl rfl ?_
    refine ⟨?_, rfl⟩
    unfold pndB
    first | rw [if_pos rfl, if_neg (by decide), if_pos rfl, if_pos (by omega), if_pos (by omega)] | rw [if_neg (by decide), if_pos rfl, if_neg (by omega)]
  · refine nz_bipush (pc' := 9) (g_d dtbX9_poundsIn_0 4 rfl) (by decide) rfl ?_
    refine cz_aload_n (pc' := 10) (g_d dtbX9_poundsIn_0 5 rfl) rfl rfl ?_
    refine cz_iload_n (pc' := 11) (g_d dtbX9_poundsIn_0 6 rfl) rfl rfl ?_
    refine cz_iload_n (pc' := 12) (g_d dtbX9_poundsIn_0 7 rfl) rfl rfl ?_
    refine nz_cVi (M' := mX7_poundsIn) (k := 30) (As := [iv (m), iv (p)]) (S := [iv 10]) (L := [some (.ref 30), some (iv (m)), some (iv (p))]) (pc' := 15) (g_d dtbX9_poundsIn_0 8 rfl) lk_X9_7_X9 okX7_poundsIn (by decide) rfl rfl rfl rfl (Nat.le_of_ble_eq_true rfl) (Nat.le_of_ble_eq_true rfl) (by decide) rfl (c_quarterPnd30 G Z m p hm hp) ?_
    rintro _ _ ⟨rfl, rfl⟩
    refine nz_imul (pc' := 16) (g_d dtbX9_poundsIn_0 9 rfl) rfl ?_
    refine cz_goto (pc' := 20) (g_d dtbX9_poundsIn_0 10 rfl) rfl ?_
    refine nz_ri .int (g_d dtbX9_poundsIn_0 12 rfl) rfl rfl ?_
    refine ⟨?_, rfl⟩
    unfold pndB
    first | rw [if_pos rfl, if_neg (by decide), if_pos rfl, if_pos (by omega), if_pos (by omega)] | rw [if_neg (by decide), if_pos rfl, if_neg (by omega)]

set_option maxRecDepth 20000 in
set_option maxHeartbeats 4000000 in
theorem c_payPnd (G : Wd) (Z : ZS) (m p : Int) : Cn G mX5_poundsIn 0 [some (.ref 31), some (iv (m)), some (iv (p))] [] Z (qi (fun r W => pndB 5 p m = r ∧ Z = W)) := by
  refine cz_aload_n (pc' := 1) (g_d dtbX5_poundsIn_0 0 rfl) rfl rfl ?_
  refine cz_iload_n (pc' := 2) (g_d dtbX5_poundsIn_0 1 rfl) rfl rfl ?_
  refine cz_iload_n (pc' := 3) (g_d dtbX5_poundsIn_0 2 rfl) rfl rfl ?_
  refine nz_cVi (M' := mX6_poundsIn) (k := 31) (As := [iv (m), iv (p)]) (S := []) (L := [some (.ref 31), some (iv (m)), some (iv (p))]) (pc' := 6) (g_d dtbX5_poundsIn_0 3 rfl) lk_X5_7 okX6_poundsIn (by decide) rfl rfl rfl rfl (Nat.le_of_ble_eq_true rfl) (Nat.le_of_ble_eq_true rfl) (by decide) rfl (c_plainPnd G Z 31 m p) ?_
  rintro _ _ ⟨rfl, rfl⟩
  refine nz_ineg (pc' := 7) (g_d dtbX5_poundsIn_0 4 rfl) rfl ?_
  refine nz_ri .int (g_d dtbX5_poundsIn_0 5 rfl) rfl rfl ?_
  refine ⟨?_, rfl⟩
  unfold pndB
  rw [if_neg (by decide), if_neg (by decide), if_pos rfl]

set_option maxRecDepth 20000 in
set_option maxHeartbeats 4000000 in
theorem c_numbered (G : Wd) (Z : ZS) (κ : Nat) (hκ : κ < 6) : Cn G mX2_numbered 0 [some (.ref 25), some (iv ((κ : Int)))] [] Z (qr (fun r W => 26 + κ = r ∧ Z = W)) := by
  refine cz_iload_n (pc' := 1) (g_d dtbX2_numbered_0 0 rfl) rfl rfl ?_
  rcases (show (κ : Int) = 1 ∨ (κ : Int) = 2 ∨ (κ : Int) = 3 ∨ (κ : Int) = 4 ∨ (κ : Int) = 5 ∨ ((κ : Int) < 1 ∨ 5 < (κ : Int)) from by omega) with h1 | h1 | h1 | h1 | h1 | h1
  · refine nz_tabIn (tgt := 36) 0 (g_d dtbX2_numbered_0 1 rfl) (by omega) (by omega) (by omega) rfl rfl ?_
    refine cz_aload_n (pc' := 37) (g_d dtbX2_numbered_0 2 rfl) rfl rfl ?_
    refine nz_getf (v := .ref 27) (pc' := 40) (g_d dtbX2_numbered_0 3 rfl) gf_X2_19 (by decide) rfl rfl rfl ?_
    refine nz_rr (g_d dtbX2_numbered_0 4 rfl) rfl ?_
    exact ⟨by omega, rfl⟩
  · refine nz_tabIn (tgt := 41) 1 (g_d dtbX2_numbered_0 1 rfl) (by omega) (by omega) (by omega) rfl rfl ?_
    refine cz_aload_n (pc' := 42) (g_d dtbX2_numbered_0 5 rfl) rfl rfl ?_
    refine nz_getf (v := .ref 28) (pc' := 45) (g_d dtbX2_numbered_0 6 rfl) gf_X2_26 (by decide) rfl rfl rfl ?_
    refine nz_rr (g_d dtbX2_numbered_0 7 rfl) rfl ?_
    exact ⟨by omega, rfl⟩
  · refine nz_tabIn (tgt := 46) 2 (g_d dtbX2_numbered_0 1 rfl) (by omega) (by omega) (by omega) rfl rfl ?_
    refine cz_aload_n (pc' := 47) (g_d dtbX2_numbered_0 8 rfl) rfl rfl ?_
    refine nz_getf (v := .ref 29) (pc' := 50) (g_d dtbX2_numbered_0 9 rfl) gf_X2_33 (by decide) rfl rfl rfl ?_
    refine nz_rr (g_d dtbX2_numbered_0 10 rfl) rfl ?_
    exact ⟨by omega, rfl⟩
  · refine nz_tabIn (tgt := 51) 3 (g_d dtbX2_numbered_0 1 rfl) (by omega) (by omega) (by omega) rfl rfl ?_
    refine cz_aload_n (pc' := 52) (g_d dtbX2_numbered_0 11 rfl) rfl rfl ?_
    refine nz_getf (v := .ref 30) (pc' := 55) (g_d dtbX2_numbered_0 12 rfl) gf_X2_40 (by decide) rfl rfl rfl ?_
    refine nz_rr (g_d dtbX2_numbered_0 13 rfl) rfl ?_
    exact ⟨by omega, rfl⟩
  · refine nz_tabIn (tgt := 56) 4 (g_d dtbX2_numbered_0 1 rfl) (by omega) (by omega) (by omega) rfl rfl ?_
    refine cz_aload_n (pc' := 57) (g_d dtbX2_numbered_0 14 rfl) rfl rfl ?_
    refine nz_getf (v := .ref 31) (pc' := 60) (g_d dtbX2_numbered_0 15 rfl) gf_X2_47 (by decide) rfl rfl rfl ?_
    refine nz_rr (g_d dtbX2_numbered_0 16 rfl) rfl ?_
    exact ⟨by omega, rfl⟩
  · refine nz_tabOut (tgt := 61) (g_d dtbX2_numbered_0 1 rfl) (by omega) h1 rfl ?_
    refine cz_aload_n (pc' := 62) (g_d dtbX2_numbered_0 17 rfl) rfl rfl ?_
    refine nz_getf (v := .ref 26) (pc' := 65) (g_d dtbX2_numbered_0 18 rfl) gf_X2_10 (by decide) rfl rfl rfl ?_
    refine nz_rr (g_d dtbX2_numbered_0 19 rfl) rfl ?_
    exact ⟨by omega, rfl⟩

/-- on which day, whichever kind it is -/
def g_KD (own : String) (ins : Instr) : Prop := g_LkV own ins RX6 1 mX6_drawnOn ∧ g_LkV own ins RX3 1 mX3_drawnOn ∧ g_LkV own ins RX7 1 mX6_drawnOn ∧ g_LkV own ins RX1 1 mX1_drawnOn ∧ g_LkV own ins RX9 1 mX6_drawnOn ∧ g_LkV own ins RX5 1 mX3_drawnOn
def g_KP (own : String) (ins : Instr) : Prop := g_LkV own ins RX6 2 mX6_poundsIn ∧ g_LkV own ins RX3 2 mX6_poundsIn ∧ g_LkV own ins RX7 2 mX7_poundsIn ∧ g_LkV own ins RX1 2 mX6_poundsIn ∧ g_LkV own ins RX9 2 mX9_poundsIn ∧ g_LkV own ins RX5 2 mX5_poundsIn
theorem kd_X4 : g_KD RX4 (.invokevirtual 61) := ⟨lk_X4_61_X6, lk_X4_61_X3, lk_X4_61_X7, lk_X4_61_X1, lk_X4_61_X9, lk_X4_61_X5⟩
theorem kp_X4 : g_KP RX4 (.invokevirtual 75) := ⟨lk_X4_75_X6, lk_X4_75_X3, lk_X4_75_X7, lk_X4_75_X1, lk_X4_75_X9, lk_X4_75_X5⟩
theorem kd_X10 : g_KD RX10 (.invokevirtual 133) := ⟨lk_X10_133_X6, lk_X10_133_X3, lk_X10_133_X7, lk_X10_133_X1, lk_X10_133_X9, lk_X10_133_X5⟩
theorem kp_X10 : g_KP RX10 (.invokevirtual 138) := ⟨lk_X10_138_X6, lk_X10_138_X3, lk_X10_138_X7, lk_X10_138_X1, lk_X10_138_X9, lk_X10_138_X5⟩
section
variable {G : Wd} {M : MD} {pc pc' : Nat} {L : List (Option Value)} {S : List Value} {Z : ZS} {Q : Option Value → ZS → Prop}
theorem nz_cD {κ : Nat} {d : Int} {ins : Instr} (hd : decode M.2.1 pc = .ok (ins, 3)) (hK : g_KD M.1.cls ins) (hκ : κ < 6) (hdd : 1 ≤ d ∧ d ≤ 28) (hcat : (S.map fun v => v.category).sum ≤ 8) (hf : 2 ≤ M.2.2.2.2.1) (hl : 43 ≤ M.2.2.2.2.2) (hp : pc + 3 = pc') (h : Cn G M pc' L (iv (dayB κ d) :: S) Z Q) : Cn G M pc L (iv d :: .ref (26 + κ) :: S) Z Q := by
  obtain ⟨k0, k1, k2, k3, k4, k5⟩ := hK
  have r6 : mX6_drawnOn.2.2.2.2.1 + 1 ≤ M.2.2.2.2.1 ∧ 8 + (mX6_drawnOn.2.2.1 + 11) + mX6_drawnOn.2.2.2.2.2 ≤ M.2.2.2.2.2 := ⟨Nat.le_trans (by decide) hf, Nat.le_trans (by decide) hl⟩
  have r3 : mX3_drawnOn.2.2.2.2.1 + 1 ≤ M.2.2.2.2.1 ∧ 8 + (mX3_drawnOn.2.2.1 + 11) + mX3_drawnOn.2.2.2.2.2 ≤ M.2.2.2.2.2 := ⟨Nat.le_trans (by decide) hf, Nat.le_trans (by decide) hl⟩
  have r1 : mX1_drawnOn.2.2.2.2.1 + 1 ≤ M.2.2.2.2.1 ∧ 8 + (mX1_drawnOn.2.2.1 + 11) + mX1_drawnOn.2.2.2.2.2 ≤ M.2.2.2.2.2 := ⟨Nat.le_trans (by decide) hf, Nat.le_trans (by decide) hl⟩
  rcases (show κ = 0 ∨ κ = 1 ∨ κ = 2 ∨ κ = 3 ∨ κ = 4 ∨ κ = 5 by omega) with rfl | rfl | rfl | rfl | rfl | rfl
  · refine nz_cVi (As := [iv d]) (k := 26) (S := S) hd k0 okX6_drawnOn (by decide) rfl rfl rfl rfl (Nat.le_of_ble_eq_true rfl) hcat r6 hp (c_plainDay G Z 26 d) ?_
    rintro _ _ ⟨rfl, rfl⟩
    exact h
  · refine nz_cVi (As := [iv d]) (k := 27) (S := S) hd k1 okX3_drawnOn (by decide) rfl rfl rfl rfl (Nat.le_of_ble_eq_true rfl) hcat r3 hp (c_movedDay27 G Z d hdd) ?_
    rintro _ _ ⟨rfl, rfl⟩
    exact h
  · refine nz_cVi (As := [iv d]) (k := 28) (S := S) hd k2 okX6_drawnOn (by decide) rfl rfl rfl rfl (Nat.le_of_ble_eq_true rfl) hcat r6 hp (c_plainDay G Z 28 d) ?_
    rintro _ _ ⟨rfl, rfl⟩
    exact h
  · refine nz_cVi (As := [iv d]) (k := 29) (S := S) hd k3 okX1_drawnOn (by decide) rfl rfl rfl rfl (Nat.le_of_ble_eq_true rfl) hcat r1 hp (c_cardDay G Z d hdd) ?_
    rintro _ _ ⟨rfl, rfl⟩
    exact h
  · refine nz_cVi (As := [iv d]) (k := 30) (S := S) hd k4 okX6_drawnOn (by decide) rfl rfl rfl rfl (Nat.le_of_ble_eq_true rfl) hcat r6 hp (c_plainDay G Z 30 d) ?_
    rintro _ _ ⟨rfl, rfl⟩
    exact h
  · refine nz_cVi (As := [iv d]) (k := 31) (S := S) hd k5 okX3_drawnOn (by decide) rfl rfl rfl rfl (Nat.le_of_ble_eq_true rfl) hcat r3 hp (c_movedDay31 G Z d hdd) ?_
    rintro _ _ ⟨rfl, rfl⟩
    exact h
theorem nz_cP {κ : Nat} {m p : Int} {ins : Instr} (hd : decode M.2.1 pc = .ok (ins, 3)) (hK : g_KP M.1.cls ins) (hκ : κ < 6) (hm : 0 ≤ m ∧ m ≤ 1000000000) (hpp : 0 ≤ p ∧ p ≤ 99) (hcat : (S.map fun v => v.category).sum ≤ 8) (hf : 3 ≤ M.2.2.2.2.1) (hl : 66 ≤ M.2.2.2.2.2) (hp : pc + 3 = pc') (h : Cn G M pc' L (iv (pndB κ p m) :: S) Z Q) : Cn G M pc L (iv p :: iv m :: .ref (26 + κ) :: S) Z Q := by
  obtain ⟨k0, k1, k2, k3, k4, k5⟩ := hK
  have r6 : mX6_poundsIn.2.2.2.2.1 + 1 ≤ M.2.2.2.2.1 ∧ 8 + (mX6_poundsIn.2.2.1 + 11) + mX6_poundsIn.2.2.2.2.2 ≤ M.2.2.2.2.2 := ⟨Nat.le_trans (by decide) hf, Nat.le_trans (by decide) hl⟩
  have r7 : mX7_poundsIn.2.2.2.2.1 + 1 ≤ M.2.2.2.2.1 ∧ 8 + (mX7_poundsIn.2.2.1 + 11) + mX7_poundsIn.2.2.2.2.2 ≤ M.2.2.2.2.2 := ⟨Nat.le_trans (by decide) hf, Nat.le_trans (by decide) hl⟩
  have r9 : mX9_poundsIn.2.2.2.2.1 + 1 ≤ M.2.2.2.2.1 ∧ 8 + (mX9_poundsIn.2.2.1 + 11) + mX9_poundsIn.2.2.2.2.2 ≤ M.2.2.2.2.2 := ⟨Nat.le_trans (by decide) hf, Nat.le_trans (by decide) hl⟩
  have r5 : mX5_poundsIn.2.2.2.2.1 + 1 ≤ M.2.2.2.2.1 ∧ 8 + (mX5_poundsIn.2.2.1 + 11) + mX5_poundsIn.2.2.2.2.2 ≤ M.2.2.2.2.2 := ⟨Nat.le_trans (by decide) hf, Nat.le_trans (by decide) hl⟩
  rcases (show κ = 0 ∨ κ = 1 ∨ κ = 2 ∨ κ = 3 ∨ κ = 4 ∨ κ = 5 by omega) with rfl | rfl | rfl | rfl | rfl | rfl
  · refine nz_cVi (As := [iv m, iv p]) (k := 26) (S := S) hd k0 okX6_poundsIn (by decide) rfl rfl rfl rfl (Nat.le_of_ble_eq_true rfl) hcat r6 hp (c_plainPnd G Z 26 m p) ?_
    rintro _ _ ⟨rfl, rfl⟩
    exact h
  · refine nz_cVi (As := [iv m, iv p]) (k := 27) (S := S) hd k1 okX6_poundsIn (by decide) rfl rfl rfl rfl (Nat.le_of_ble_eq_true rfl) hcat r6 hp (c_plainPnd G Z 27 m p) ?_
    rintro _ _ ⟨rfl, rfl⟩
    exact h
  · refine nz_cVi (As := [iv m, iv p]) (k := 28) (S := S) hd k2 okX7_poundsIn (by decide) rfl rfl rfl rfl (Nat.le_of_ble_eq_true rfl) hcat r7 hp (c_quarterPnd28 G Z m p hm hpp) ?_
    rintro _ _ ⟨rfl, rfl⟩
    exact h
  · refine nz_cVi (As := [iv m, iv p]) (k := 29) (S := S) hd k3 okX6_poundsIn (by decide) rfl rfl rfl rfl (Nat.le_of_ble_eq_true rfl) hcat r6 hp (c_plainPnd G Z 29 m p) ?_
    rintro _ _ ⟨rfl, rfl⟩
    exact h
  · refine nz_cVi (As := [iv m, iv p]) (k := 30) (S := S) hd k4 okX9_poundsIn (by decide) rfl rfl rfl rfl (Nat.le_of_ble_eq_true rfl) hcat r9 hp (c_yearlyPnd G Z m p hm hpp) ?_
    rintro _ _ ⟨rfl, rfl⟩
    exact h
  · refine nz_cVi (As := [iv m, iv p]) (k := 31) (S := S) hd k5 okX5_poundsIn (by decide) rfl rfl rfl rfl (Nat.le_of_ble_eq_true rfl) hcat r5 hp (c_payPnd G Z m p) ?_
    rintro _ _ ⟨rfl, rfl⟩
    exact h
end
