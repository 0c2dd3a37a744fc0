/-! the other one: days, bills, what it keeps -/
theorem ru_ru {f : Row} {j : Nat} {a b : Int} : ru (ru f j a) j b = ru f j b := by
  funext x; unfold ru; split <;> rfl

set_option maxRecDepth 20000 in
set_option maxHeartbeats 4000000 in
theorem m_dayBy (G : Wd) (Z : ZS) (κ d : Int) (hκ : 0 ≤ κ ∧ κ ≤ 5) (hd : 1 ≤ d ∧ d ≤ 28) : Cn G mX11_dayBy 0 [some (iv (κ)), some (iv (d))] [] Z (qi (fun r W => dayB κ d = r ∧ Z = W)) := by
  refine cz_iload_n (pc' := 1) (g_d dtbX11_dayBy_0 0 rfl) rfl rfl ?_
  rcases (show κ = 1 ∨ κ = 2 ∨ κ = 3 ∨ κ = 4 ∨ κ = 5 ∨ (κ < 1 ∨ 5 < κ) from by omega) with h1 | h1 | h1 | h1 | h1 | h1
  · refine nz_tabIn (tgt := 36) 0 (g_d dtbX11_dayBy_0 1 rfl) (by omega) (by omega) (by omega) rfl rfl ?_
    refine cz_iload_n (pc' := 37) (g_d dtbX11_dayBy_0 2 rfl) rfl rfl ?_
    refine nz_bipush (pc' := 39) (g_d dtbX11_dayBy_0 3 rfl) (by decide) rfl ?_
    refine nz_irem (pc' := 40) (g_d dtbX11_dayBy_0 4 rfl) (by omega) (by omega) rfl ?_
    refine nz_if_eq (tgt := 47) (pc' := 43) (g_d dtbX11_dayBy_0 5 rfl) (by omega) rfl rfl (fun h40 => ?_) (fun h40 => ?_)
    · refine cz_iload_n (pc' := 48) (g_d dtbX11_dayBy_0 8 rfl) rfl rfl ?_
      refine nz_bipush (pc' := 50) (g_d dtbX11_dayBy_0 9 rfl) (by decide) rfl ?_
      refine nz_icmp_ne (tgt := 59) (pc' := 53) (g_d dtbX11_dayBy_0 10 rfl) (by omega) (by omega) rfl rfl (fun h50 => ?_) (fun h50 => ?_)
      · refine cz_iload_n (pc' := 60) (g_d dtbX11_dayBy_0 15 rfl) rfl rfl ?_
        refine nz_iconst (pc' := 61) (g_d dtbX11_dayBy_0 16 rfl) rfl ?_
        refine nz_iadd (pc' := 62) (g_d dtbX11_dayBy_0 17 rfl) rfl ?_
        refine nz_ri .int (g_d dtbX11_dayBy_0 18 rfl) rfl rfl ?_
        exact ⟨by unfold dayB; (repeat' split) <;> omega, rfl⟩
      · refine cz_iload_n (pc' := 54) (g_d dtbX11_dayBy_0 11 rfl) rfl rfl ?_
        refine nz_iconst (pc' := 55) (g_d dtbX11_dayBy_0 12 rfl) rfl ?_
        refine nz_isub (pc' := 56) (g_d dtbX11_dayBy_0 13 rfl) rfl ?_
        refine cz_goto (pc' := 62) (g_d dtbX11_dayBy_0 14 rfl) rfl ?_
        refine nz_ri .int (g_d dtbX11_dayBy_0 18 rfl) rfl rfl ?_
        exact ⟨by unfold dayB; (repeat' split) <;> omega, rfl⟩
    · refine cz_iload_n (pc' := 44) (g_d dtbX11_dayBy_0 6 rfl) rfl rfl ?_
      refine cz_goto (pc' := 62) (g_d dtbX11_dayBy_0 7 rfl) rfl ?_
      refine nz_ri .int (g_d dtbX11_dayBy_0 18 rfl) rfl rfl ?_
      exact ⟨by unfold dayB; (repeat' split) <;> omega, rfl⟩
  · refine nz_tabIn (tgt := 84) 1 (g_d dtbX11_dayBy_0 1 rfl) (by omega) (by omega) (by omega) rfl rfl ?_
    refine cz_iload_n (pc' := 85) (g_d dtbX11_dayBy_0 32 rfl) rfl rfl ?_
    refine nz_ri .int (g_d dtbX11_dayBy_0 33 rfl) rfl rfl ?_
    exact ⟨by unfold dayB; (repeat' split) <;> omega, rfl⟩
  · refine nz_tabIn (tgt := 63) 2 (g_d dtbX11_dayBy_0 1 rfl) (by omega) (by omega) (by omega) rfl rfl ?_
    refine cz_iload_n (pc' := 64) (g_d dtbX11_dayBy_0 19 rfl) rfl rfl ?_
    refine nz_bipush (pc' := 66) (g_d dtbX11_dayBy_0 20 rfl) (by decide) rfl ?_
    refine nz_iadd (pc' := 67) (g_d dtbX11_dayBy_0 21 rfl) rfl ?_
    refine nz_bipush (pc' := 69) (g_d dtbX11_dayBy_0 22 rfl) (by decide) rfl ?_
    refine nz_icmp_le (tgt := 79) (pc' := 72) (g_d dtbX11_dayBy_0 23 rfl) (by omega) (by omega) rfl rfl (fun h69 => ?_) (fun h69 => ?_)
    · refine cz_iload_n (pc' := 80) (g_d dtbX11_dayBy_0 28 rfl) rfl rfl ?_
      refine nz_bipush (pc' := 82) (g_d dtbX11_dayBy_0 29 rfl) (by decide) rfl ?_
      refine nz_iadd (pc' := 83) (g_d dtbX11_dayBy_0 30 rfl) rfl ?_
      refine nz_ri .int (g_d dtbX11_dayBy_0 31 rfl) rfl rfl ?_
      exact ⟨by unfold dayB; (repeat' split) <;> omega, rfl⟩
    · refine cz_iload_n (pc' := 73) (g_d dtbX11_dayBy_0 24 rfl) rfl rfl ?_
      refine nz_bipush (pc' := 75) (g_d dtbX11_dayBy_0 25 rfl) (by decide) rfl ?_
      refine nz_isub (pc' := 76) (g_d dtbX11_dayBy_0 26 rfl) rfl ?_
      refine cz_goto (pc' := 83) (g_d dtbX11_dayBy_0 27 rfl) rfl ?_
      refine nz_ri .int (g_d dtbX11_dayBy_0 31 rfl) rfl rfl ?_
      exact ⟨by unfold dayB; (repeat' split) <;> omega, rfl⟩
  · refine nz_tabIn (tgt := 84) 3 (g_d dtbX11_dayBy_0 1 rfl) (by omega) (by omega) (by omega) rfl rfl ?_
    refine cz_iload_n (pc' := 85) (g_d dtbX11_dayBy_0 32 rfl) rfl rfl ?_
    refine nz_ri .int (g_d dtbX11_dayBy_0 33 rfl) rfl rfl ?_
    exact ⟨by unfold dayB; (repeat' split) <;> omega, rfl⟩
  · refine nz_tabIn (tgt := 36) 4 (g_d dtbX11_dayBy_0 1 rfl) (by omega) (by omega) (by omega) rfl rfl ?_
    refine cz_iload_n (pc' := 37) (g_d dtbX11_dayBy_0 2 rfl) rfl rfl ?_
    refine nz_bipush (pc' := 39) (g_d dtbX11_dayBy_0 3 rfl) (by decide) rfl ?_
    refine nz_irem (pc' := 40) (g_d dtbX11_dayBy_0 4 rfl) (by omega) (by omega) rfl ?_
    refine nz_if_eq (tgt := 47) (pc' := 43) (g_d dtbX11_dayBy_0 5 rfl) (by omega) rfl rfl (fun h40 => ?_) (fun h40 => ?_)
    · refine cz_iload_n (pc' := 48) (g_d dtbX11_dayBy_0 8 rfl) rfl rfl ?_
      refine nz_bipush (pc' := 50) (g_d dtbX11_dayBy_0 9 rfl) (by decide) rfl ?_
      refine nz_icmp_ne (tgt := 59) (pc' := 53) (g_d dtbX11_dayBy_0 10 rfl) (by omega) (by omega) rfl rfl (fun h50 => ?_) (fun h50 => ?_)
      · refine cz_iload_n (pc' := 60) (g_d dtbX11_dayBy_0 15 rfl) rfl rfl ?_
        refine nz_iconst (pc' := 61) (g_d dtbX11_dayBy_0 16 rfl) rfl ?_
        refine nz_iadd (pc' := 62) (g_d dtbX11_dayBy_0 17 rfl) rfl ?_
        refine nz_ri .int (g_d dtbX11_dayBy_0 18 rfl) rfl rfl ?_
        exact ⟨by unfold dayB; (repeat' split) <;> omega, rfl⟩
      · refine cz_iload_n (pc' := 54) (g_d dtbX11_dayBy_0 11 rfl) rfl rfl ?_
        refine nz_iconst (pc' := 55) (g_d dtbX11_dayBy_0 12 rfl) rfl ?_
        refine nz_isub (pc' := 56) (g_d dtbX11_dayBy_0 13 rfl) rfl ?_
        refine cz_goto (pc' := 62) (g_d dtbX11_dayBy_0 14 rfl) rfl ?_
        refine nz_ri .int (g_d dtbX11_dayBy_0 18 rfl) rfl rfl ?_
        exact ⟨by unfold dayB; (repeat' split) <;> omega, rfl⟩
    · refine cz_iload_n (pc' := 44) (g_d dtbX11_dayBy_0 6 rfl) rfl rfl ?_
      refine cz_goto (pc' := 62) (g_d dtbX11_dayBy_0 7 rfl) rfl ?_
      refine nz_ri .int (g_d dtbX11_dayBy_0 18 rfl) rfl rfl ?_
      exact ⟨by unfold dayB; (repeat' split) <;> omega, rfl⟩
  · refine nz_tabOut (tgt := 84) (g_d dtbX11_dayBy_0 1 rfl) (by omega) h1 rfl ?_
    refine cz_iload_n (pc' := 85) (g_d dtbX11_dayBy_0 32 rfl) rfl rfl ?_
    refine nz_ri .int (g_d dtbX11_dayBy_0 33 rfl) rfl rfl ?_
    exact ⟨by unfold dayB; (repeat' split) <;> omega, rfl⟩

set_option maxRecDepth 20000 in
set_option maxHeartbeats 4000000 in
theorem m_poundsBy (G : Wd) (Z : ZS) (κ p m : Int) (hκ : 0 ≤ κ ∧ κ ≤ 5) (hp : 0 ≤ p ∧ p ≤ 99) (hm : 0 ≤ m ∧ m ≤ 100000000) : Cn G mX11_poundsBy 0 [some (iv (κ)), some (iv (p)), some (iv (m))] [] Z (qi (fun r W => pndB κ p m = r ∧ Z = W)) := by
  refine cz_iload_n (pc' := 1) (g_d dtbX11_poundsBy_0 0 rfl) rfl rfl ?_
  rcases (show κ = 2 ∨ κ = 3 ∨ κ = 4 ∨ κ = 5 ∨ (κ < 2 ∨ 5 < κ) from by omega) with h1 | h1 | h1 | h1 | h1
  · refine nz_tabIn (tgt := 32) 0 (g_d dtbX11_poundsBy_0 1 rfl) (by omega) (by omega) (by omega) rfl rfl ?_
    refine cz_iload_n (pc' := 33) (g_d dtbX11_poundsBy_0 2 rfl) rfl rfl ?_
    refine nz_iconst (pc' := 34) (g_d dtbX11_poundsBy_0 3 rfl) rfl ?_
    refine nz_irem (pc' := 35) (g_d dtbX11_poundsBy_0 4 rfl) (by omega) (by omega) rfl ?_
    refine nz_if_ne (tgt := 42) (pc' := 38) (g_d dtbX11_poundsBy_0 5 rfl) (by omega) rfl rfl (fun h35 => ?_) (fun h35 => ?_)
    · refine nz_iconst (pc' := 43) (g_d dtbX11_poundsBy_0 8 rfl) rfl ?_
      refine nz_ri .int (g_d dtbX11_poundsBy_0 9 rfl) rfl rfl ?_
      exact ⟨by unfold pndB; (repeat' split) <;> omega, rfl⟩
    · refine cz_iload_n (pc' := 39) (g_d dtbX11_poundsBy_0 6 rfl) rfl rfl ?_
      refine cz_goto (pc' := 43) (g_d dtbX11_poundsBy_0 7 rfl) rfl ?_
      refine nz_ri .int (g_d dtbX11_poundsBy_0 9 rfl) rfl rfl ?_
      exact ⟨by unfold pndB; (repeat' split) <;> omega, rfl⟩
  · refine nz_tabIn (tgt := 63) 1 (g_d dtbX11_poundsBy_0 1 rfl) (by omega) (by omega) (by omega) rfl rfl ?_
    refine cz_iload_n (pc' := 64) (g_d dtbX11_poundsBy_0 23 rfl) rfl rfl ?_
    refine nz_ri .int (g_d dtbX11_poundsBy_0 24 rfl) rfl rfl ?_
    exact ⟨by unfold pndB; (repeat' split) <;> omega, rfl⟩
  · refine nz_tabIn (tgt := 44) 2 (g_d dtbX11_poundsBy_0 1 rfl) (by omega) (by omega) (by omega) rfl rfl ?_
    refine cz_iload_n (pc' := 45) (g_d dtbX11_poundsBy_0 10 rfl) rfl rfl ?_
    refine nz_bipush (pc' := 47) (g_d dtbX11_poundsBy_0 11 rfl) (by decide) rfl ?_
    refine nz_irem (pc' := 48) (g_d dtbX11_poundsBy_0 12 rfl) (by omega) (by omega) rfl ?_
    refine nz_if_ne (tgt := 58) (pc' := 51) (g_d dtbX11_poundsBy_0 13 rfl) (by omega) rfl rfl (fun h48 => ?_) (fun h48 => ?_)
    · refine nz_iconst (pc' := 59) (g_d dtbX11_poundsBy_0 18 rfl) rfl ?_
      refine nz_ri .int (g_d dtbX11_poundsBy_0 19 rfl) rfl rfl ?_
      exact ⟨by unfold pndB; (repeat' split) <;> omega, rfl⟩
    · refine nz_bipush (pc' := 53) (g_d dtbX11_poundsBy_0 14 rfl) (by decide) rfl ?_
      refine cz_iload_n (pc' := 54) (g_d dtbX11_poundsBy_0 15 rfl) rfl rfl ?_
      refine nz_imul (pc' := 55) (g_d dtbX11_poundsBy_0 16 rfl) rfl ?_
      refine cz_goto (pc' := 59) (g_d dtbX11_poundsBy_0 17 rfl) rfl ?_
      refine nz_ri .int (g_d dtbX11_poundsBy_0 19 rfl) rfl rfl ?_
      exact ⟨by unfold pndB; (repeat' split) <;> omega, rfl⟩
  · refine nz_tabIn (tgt := 60) 3 (g_d dtbX11_poundsBy_0 1 rfl) (by omega) (by omega) (by omega) rfl rfl ?_
    refine cz_iload_n (pc' := 61) (g_d dtbX11_poundsBy_0 20 rfl) rfl rfl ?_
    refine nz_ineg (pc' := 62) (g_d dtbX11_poundsBy_0 21 rfl) rfl ?_
    refine nz_ri .int (g_d dtbX11_poundsBy_0 22 rfl) rfl rfl ?_
    exact ⟨by unfold pndB; (repeat' split) <;> omega, rfl⟩
  · refine nz_tabOut (tgt := 63) (g_d dtbX11_poundsBy_0 1 rfl) (by omega) h1 rfl ?_
    refine cz_iload_n (pc' := 64) (g_d dtbX11_poundsBy_0 23 rfl) rfl rfl ?_
    refine nz_ri .int (g_d dtbX11_poundsBy_0 24 rfl) rfl rfl ?_
    exact ⟨by unfold pndB; (repeat' split) <;> omega, rfl⟩

set_option maxRecDepth 20000 in
set_option maxHeartbeats 4000000 in
theorem m_drawn (G : Wd) (Z : ZS) (k : Nat) (hlk : k < 42) (hsk : g_sh k = .inl (0, 108)) (n : Nat) (hn : n < 7) (κ p mo : Int) (h1 : Z k (7 + n) = κ) (h2 : Z k (21 + n) = p) (h3 : Z k 4 = mo) (hκ : 0 ≤ κ ∧ κ ≤ 5) (hp : 0 ≤ p ∧ p ≤ 99) (hm : 0 ≤ mo ∧ mo ≤ 100000000) : Cn G mX11_drawn 0 [some (.ref k), some (iv ((n : Int)))] [] Z (qi (fun r W => pndB κ p mo = r ∧ Z = W)) := by
  refine cz_aload_n (pc' := 1) (g_d dtbX11_drawn_0 0 rfl) rfl rfl ?_
  refine nz_bipush (pc' := 3) (g_d dtbX11_drawn_0 1 rfl) (by decide) rfl ?_
  refine cz_iload_n (pc' := 4) (g_d dtbX11_drawn_0 2 rfl) rfl rfl ?_
  refine nz_iadd (pc' := 5) (g_d dtbX11_drawn_0 3 rfl) rfl ?_
  refine nz_iald (7 + n) (pc' := 6) (g_d dtbX11_drawn_0 4 rfl) hlk hsk (by omega) (by push_cast; omega) (by omega) rfl ?_
  rw [show Z k (7 + n) = κ from h1]
  refine cz_aload_n (pc' := 7) (g_d dtbX11_drawn_0 5 rfl) rfl rfl ?_
  refine nz_bipush (pc' := 9) (g_d dtbX11_drawn_0 6 rfl) (by decide) rfl ?_
  refine cz_iload_n (pc' := 10) (g_d dtbX11_drawn_0 7 rfl) rfl rfl ?_
  refine nz_iadd (pc' := 11) (g_d dtbX11_drawn_0 8 rfl) rfl ?_
  refine nz_iald (21 + n) (pc' := 12) (g_d dtbX11_drawn_0 9 rfl) hlk hsk (by omega) (by push_cast; omega) (by omega) rfl ?_
  rw [show Z k (21 + n) = p from h2]
  refine cz_aload_n (pc' := 13) (g_d dtbX11_drawn_0 10 rfl) rfl rfl ?_
  refine nz_iconst (pc' := 14) (g_d dtbX11_drawn_0 11 rfl) rfl ?_
  refine nz_iald 4 (pc' := 15) (g_d dtbX11_drawn_0 12 rfl) hlk hsk (by omega) (by rfl) (by omega) rfl ?_
  rw [show Z k 4 = mo from h3]
  refine nz_cSi (M' := mX11_poundsBy) (As := [iv (κ), iv (p), iv (mo)]) (S := []) (L := [some (.ref k), some (iv ((n : Int)))]) (pc' := 18) (g_d dtbX11_drawn_0 13 rfl) lk_X11_117 okX11_poundsBy rfl rfl (Nat.le_of_ble_eq_true rfl) (Nat.le_of_ble_eq_true rfl) (by decide) rfl (m_poundsBy G Z κ p mo (by omega) (by omega) (by omega)) ?_
  rintro _ _ ⟨rfl, rfl⟩
  refine nz_ri .int (g_d dtbX11_drawn_0 14 rfl) rfl rfl ?_
  exact ⟨rfl, rfl⟩

def rAdd (f : Row) (a d p : Int) : Row := ru (ru (ru (ru f (7 + (f 6).toNat) a) (14 + (f 6).toNat) d) (21 + (f 6).toNat) p) 6 (f 6 + 1)
theorem rAdd_bill {f : Row} {a d p : Int} : rAdd (ru f 59 0) a d p = rBill f a d p := rfl

set_option maxRecDepth 20000 in
set_option maxHeartbeats 4000000 in
theorem m_addBill (G : Wd) (Z : ZS) (f : Row) (k : Nat) (hlk : k < 42) (hsk : g_sh k = .inl (0, 108)) (c : Nat) (hc : f 6 = (c : Int)) (hc7 : c < 7) (a d p : Int) : Cn G mX11_addBill 0 [some (.ref k), some (iv (a)), some (iv (d)), some (iv (p)), none] [] (zr Z k f) (qi (fun r W => f 6 = r ∧ zr Z k (rAdd f a d p) = W)) := by
  refine cz_aload_n (pc' := 1) (g_d dtbX11_addBill_0 0 rfl) rfl rfl ?_
  refine nz_bipush (pc' := 3) (g_d dtbX11_addBill_0 1 rfl) (by decide) rfl ?_
  refine nz_iald 6 (pc' := 4) (g_d dtbX11_addBill_0 2 rfl) hlk hsk (by omega) (by rfl) (by omega) rfl ?_
  rw [show (zr Z k f) k 6 = (c : Int) from by rw [zr_eq]; exact hc]
  refine cz_istore (L' := [some (.ref k), some (iv (a)), some (iv (d)), some (iv (p)), some (iv ((c : Int)))]) (pc' := 6) (g_d dtbX11_addBill_0 3 rfl) (by decide) rfl rfl ?_
  refine cz_aload_n (pc' := 7) (g_d dtbX11_addBill_0 4 rfl) rfl rfl ?_
  refine nz_bipush (pc' := 9) (g_d dtbX11_addBill_0 5 rfl) (by decide) rfl ?_
  refine cz_iload (pc' := 11) (g_d dtbX11_addBill_0 6 rfl) rfl rfl ?_
  refine nz_iadd (pc' := 12) (g_d dtbX11_addBill_0 7 rfl) rfl ?_
  refine cz_iload_n (pc' := 13) (g_d dtbX11_addBill_0 8 rfl) rfl rfl ?_
  refine nz_iast (7 + c) (pc' := 14) (g_d dtbX11_addBill_0 9 rfl) hlk hsk (by omega) (by push_cast; omega) (by omega) rfl ?_
  rw [zr_ru]
  refine cz_aload_n (pc' := 15) (g_d dtbX11_addBill_0 10 rfl) rfl rfl ?_
  refine nz_bipush (pc' := 17) (g_d dtbX11_addBill_0 11 rfl) (by decide) rfl ?_
  refine cz_iload (pc' := 19) (g_d dtbX11_addBill_0 12 rfl) rfl rfl ?_
  refine nz_iadd (pc' := 20) (g_d dtbX11_addBill_0 13 rfl) rfl ?_
  refine cz_iload_n (pc' := 21) (g_d dtbX11_addBill_0 14 rfl) rfl rfl ?_
  refine nz_iast (14 + c) (pc' := 22) (g_d dtbX11_addBill_0 15 rfl) hlk hsk (by omega) (by push_cast; omega) (by omega) rfl ?_
  rw [zr_ru]
  refine cz_aload_n (pc' := 23) (g_d dtbX11_addBill_0 16 rfl) rfl rfl ?_
  refine nz_bipush (pc' := 25) (g_d dtbX11_addBill_0 17 rfl) (by decide) rfl ?_
  refine cz_iload (pc' := 27) (g_d dtbX11_addBill_0 18 rfl) rfl rfl ?_
  refine nz_iadd (pc' := 28) (g_d dtbX11_addBill_0 19 rfl) rfl ?_
  refine cz_iload_n (pc' := 29) (g_d dtbX11_addBill_0 20 rfl) rfl rfl ?_
  refine nz_iast (21 + c) (pc' := 30) (g_d dtbX11_addBill_0 21 rfl) hlk hsk (by omega) (by push_cast; omega) (by omega) rfl ?_
  rw [zr_ru]
  refine cz_aload_n (pc' := 31) (g_d dtbX11_addBill_0 22 rfl) rfl rfl ?_
  refine nz_bipush (pc' := 33) (g_d dtbX11_addBill_0 23 rfl) (by decide) rfl ?_
  refine cz_dup2 (pc' := 34) (g_d dtbX11_addBill_0 24 rfl) rfl rfl rfl ?_
  refine nz_iald 6 (pc' := 35) (g_d dtbX11_addBill_0 25 rfl) hlk hsk (by omega) (by rfl) (by omega) rfl ?_
  rw [show (zr Z k (ru (ru (ru f (7 + c) a) (14 + c) d) (21 + c) p)) k 6 = (c : Int) from by rw [zr_eq, ru_ne (by omega), ru_ne (by omega), ru_ne (by omega)]; exact hc]
  refine nz_iconst (pc' := 36) (g_d dtbX11_addBill_0 26 rfl) rfl ?_
  refine nz_iadd (pc' := 37) (g_d dtbX11_addBill_0 27 rfl) rfl ?_
  refine nz_iast 6 (pc' := 38) (g_d dtbX11_addBill_0 28 rfl) hlk hsk (by omega) (by rfl) (by omega) rfl ?_
  rw [zr_ru]
  refine cz_iload (pc' := 40) (g_d dtbX11_addBill_0 29 rfl) rfl rfl ?_
  refine nz_ri .int (g_d dtbX11_addBill_0 30 rfl) rfl rfl ?_
  refine ⟨hc, ?_⟩
  rw [rAdd, hc]
  rfl

/-- a row that days may go by on -/
def TR (C : Int) (f : Row) : Prop := (-C ≤ f 0 ∧ f 0 ≤ C) ∧ (0 ≤ f 2 ∧ f 2 ≤ C) ∧ (1 ≤ f 3 ∧ f 3 ≤ 28) ∧ (0 ≤ f 4 ∧ f 4 ≤ C) ∧ (0 ≤ f 6 ∧ f 6 ≤ 7) ∧ (∀ b : Nat, b < 7 → (b : Int) < f 6 → (0 ≤ f (7 + b) ∧ f (7 + b) ≤ 5) ∧ (1 ≤ f (14 + b) ∧ f (14 + b) ≤ 28) ∧ (0 ≤ f (21 + b) ∧ f (21 + b) ≤ 99))
theorem TR.mono {C D : Int} {f : Row} (h : TR C f) (hd : C ≤ D) : TR D f := by
  obtain ⟨h1, h2, h3, h4, h5, h6⟩ := h
  exact ⟨by omega, by omega, h3, by omega, h5, h6⟩
theorem RO.tr {B : Int} {f : Row} (h : RO B f) (hB : 4000 ≤ B) : TR B f := by
  obtain ⟨h1, h2, h3, h4, h5, h6, h7⟩ := h
  unfold FO at h1
  refine ⟨by omega, by omega, by omega, by omega, h2, fun b hb hb2 => ?_⟩
  have := h3 b hb hb2
  unfold BO at this
  omega
theorem drA_tr {C : Int} {f : Row} (h : TR C f) (i : Nat) : ∀ n : Nat, n ≤ 7 → (n : Int) ≤ f 6 → -99 * (n : Int) ≤ drA f n i ∧ drA f n i ≤ 990 * (n : Int) := by
  intro n
  induction n with
  | zero => intro _ _; simp [drA]
  | succ n ih =>
    intro h1 h2
    have a := ih (by omega) (by omega)
    have b := h.2.2.2.2.2 n (by omega) (by omega)
    have c := pA_in (f := f) (κ := f (7 + n)) (told := f (14 + n)) (i := i) (p := f (21 + n)) (by omega)
    simp only [drA]
    omega
theorem tr_go {C s : Int} {f : Row} (h : TR C f) (hs : 0 ≤ s ∧ s ≤ 1000) : TR (C + 8000) (rGo f s) := by
  have hd := drA_tr h 0 (f 6).toNat (by have := h.2.2.2.2.1; omega) (by have := h.2.2.2.2.1; omega)
  obtain ⟨h1, h2, h3, h4, h5, h6⟩ := h
  unfold TR
  rw [rGo_0, rGo_2, rGo_3, rGo_4, rGo_hi (j := 6) (by omega)]
  refine ⟨?_, ?_, ?_, ?_, h5, fun b hb hb2 => ?_⟩
  · split <;> omega
  · split <;> omega
  · split <;> omega
  · split <;> omega
  · rw [rGo_hi (by omega), rGo_hi (by omega), rGo_hi (by omega)]; exact h6 b hb hb2

set_option maxRecDepth 20000 in
set_option maxHeartbeats 4000000 in
theorem l_goBy (G : Wd) (Z : ZS) (f : Row) (C sp : Int) (k : Nat) (hlk : k < 42) (hsk : g_sh k = .inl (0, 108)) (hR : TR C f) (hC : C ≤ 90000000) (hs : 0 ≤ sp ∧ sp ≤ 1000) : ∀ (d : Nat) (n : Nat), (f 6).toNat - n = d → ((n : Int) ≤ f 6) → Cn G mX11_goBy 2 [some (.ref k), some (iv (sp)), some (iv ((n : Int)))] [] (zr Z k (ru f 0 (f 0 - drA f n 0))) (qv (fun W => zr Z k (rGo f sp) = W)) := by
  intro d
  induction d using Nat.strongRecOn with
  | ind d ih =>
    intro n hd hn
    have hf0 := hR.1
    have hf2 := hR.2.1
    have hf3 := hR.2.2.1
    have hf4 := hR.2.2.2.1
    have h6 := hR.2.2.2.2.1
    have hdn0 := drA_tr hR 0 n (by omega) (by omega)
    refine cz_iload_n (pc' := 3) (g_d dtbX11_goBy_0 2 rfl) rfl rfl ?_
    refine cz_aload_n (pc' := 4) (g_d dtbX11_goBy_0 3 rfl) rfl rfl ?_
    refine nz_bipush (pc' := 6) (g_d dtbX11_goBy_0 4 rfl) (by decide) rfl ?_
    refine nz_iald 6 (pc' := 7) (g_d dtbX11_goBy_0 5 rfl) hlk hsk (by omega) (by rfl) (by omega) rfl ?_
    rw [show (zr Z k (ru f 0 (f 0 - drA f n 0))) k 6 = f 6 from by simp [zu, zr, ru]]
    refine nz_icmp_ge (tgt := 52) (pc' := 10) (g_d dtbX11_goBy_0 6 rfl) (by omega) (by omega) rfl rfl (fun h7 => ?_) (fun h7 => ?_)
    · refine cz_aload_n (pc' := 53) (g_d dtbX11_goBy_0 35 rfl) rfl rfl ?_
      refine nz_iconst (pc' := 54) (g_d dtbX11_goBy_0 36 rfl) rfl ?_
      refine cz_dup2 (pc' := 55) (g_d dtbX11_goBy_0 37 rfl) rfl rfl rfl ?_
      refine nz_iald 0 (pc' := 56) (g_d dtbX11_goBy_0 38 rfl) hlk hsk (by omega) (by rfl) (by omega) rfl ?_
      rw [show (zr Z k (ru f 0 (f 0 - drA f n 0))) k 0 = f 0 - drA f n 0 from by simp [zu, zr, ru]]
      refine cz_iload_n (pc' := 57) (g_d dtbX11_goBy_0 39 rfl) rfl rfl ?_
      refine nz_isub (pc' := 58) (g_d dtbX11_goBy_0 40 rfl) rfl ?_
      refine nz_iast 0 (pc' := 59) (g_d dtbX11_goBy_0 41 rfl) hlk hsk (by omega) (by rfl) (by omega) rfl ?_
      rw [zr_ru]
      refine cz_aload_n (pc' := 60) (g_d dtbX11_goBy_0 42 rfl) rfl rfl ?_
      refine nz_iconst (pc' := 61) (g_d dtbX11_goBy_0 43 rfl) rfl ?_
      refine nz_iald 0 (pc' := 62) (g_d dtbX11_goBy_0 44 rfl) hlk hsk (by omega) (by rfl) (by omega) rfl ?_
      rw [show (zr Z k (ru (ru f 0 (f 0 - drA f n 0)) 0 ((f 0 - drA f n 0) - sp))) k 0 = (f 0 - drA f n 0) - sp from by simp [zu, zr, ru]]
      refine nz_if_ge (tgt := 79) (pc' := 65) (g_d dtbX11_goBy_0 45 rfl) (by omega) rfl rfl (fun h62 => ?_) (fun h62 => ?_)
      · refine cz_aload_n (pc' := 80) (g_d dtbX11_goBy_1 0 rfl) rfl rfl ?_
        refine nz_iconst (pc' := 81) (g_d dtbX11_goBy_1 1 rfl) rfl ?_
        refine cz_dup2 (pc' := 82) (g_d dtbX11_goBy_1 2 rfl) rfl rfl rfl ?_
        refine nz_iald 3 (pc' := 83) (g_d dtbX11_goBy_1 3 rfl) hlk hsk (by omega) (by rfl) (by omega) rfl ?_
        rw [show (zr Z k (ru (ru f 0 (f 0 - drA f n 0)) 0 ((f 0 - drA f n 0) - sp))) k 3 = f 3 from by simp [zu, zr, ru]]
        refine nz_iconst (pc' := 84) (g_d dtbX11_goBy_1 4 rfl) rfl ?_
        refine nz_iadd (pc' := 85) (g_d dtbX11_goBy_1 5 rfl) rfl ?_
        refine nz_iast 3 (pc' := 86) (g_d dtbX11_goBy_1 6 rfl) hlk hsk (by omega) (by rfl) (by omega) rfl ?_
        rw [zr_ru]
        refine cz_aload_n (pc' := 87) (g_d dtbX11_goBy_1 7 rfl) rfl rfl ?_
        refine nz_iconst (pc' := 88) (g_d dtbX11_goBy_1 8 rfl) rfl ?_
        refine nz_iald 3 (pc' := 89) (g_d dtbX11_goBy_1 9 rfl) hlk hsk (by omega) (by rfl) (by omega) rfl ?_
        rw [show (zr Z k (ru (ru (ru f 0 (f 0 - drA f n 0)) 0 ((f 0 - drA f n 0) - sp)) 3 ((f 3) + 1))) k 3 = (f 3) + 1 from by simp [zu, zr, ru]]
        refine nz_bipush (pc' := 91) (g_d dtbX11_goBy_1 10 rfl) (by decide) rfl ?_
        refine nz_icmp_le (tgt := 105) (pc' := 94) (g_d dtbX11_goBy_1 11 rfl) (by omega) (by omega) rfl rfl (fun h91 => ?_) (fun h91 => ?_)
        · refine nz_rv (g_d dtbX11_goBy_1 23 rfl) rfl ?_
          obtain rfl : n = (f 6).toNat := by omega
          refine congrArg (zr Z k) (funext (fun j => ?_))
          simp only [rGo, ru]
          (repeat' split) <;> first | rfl | omega | (subst_vars; first | rfl | omega | contradiction) | contradiction
        · refine cz_aload_n (pc' := 95) (g_d dtbX11_goBy_1 12 rfl) rfl rfl ?_
          refine nz_iconst (pc' := 96) (g_d dtbX11_goBy_1 13 rfl) rfl ?_
          refine nz_iconst (pc' := 97) (g_d dtbX11_goBy_1 14 rfl) rfl ?_
          refine nz_iast 3 (pc' := 98) (g_d dtbX11_goBy_1 15 rfl) hlk hsk (by omega) (by rfl) (by omega) rfl ?_
          rw [zr_ru]
          refine cz_aload_n (pc' := 99) (g_d dtbX11_goBy_1 16 rfl) rfl rfl ?_
          refine nz_iconst (pc' := 100) (g_d dtbX11_goBy_1 17 rfl) rfl ?_
          refine cz_dup2 (pc' := 101) (g_d dtbX11_goBy_1 18 rfl) rfl rfl rfl ?_
          refine nz_iald 4 (pc' := 102) (g_d dtbX11_goBy_1 19 rfl) hlk hsk (by omega) (by rfl) (by omega) rfl ?_
          rw [show (zr Z k (ru (ru (ru (ru f 0 (f 0 - drA f n 0)) 0 ((f 0 - drA f n 0) - sp)) 3 ((f 3) + 1)) 3 1)) k 4 = f 4 from by simp [zu, zr, ru]]
          refine nz_iconst (pc' := 103) (g_d dtbX11_goBy_1 20 rfl) rfl ?_
          refine nz_iadd (pc' := 104) (g_d dtbX11_goBy_1 21 rfl) rfl ?_
          refine nz_iast 4 (pc' := 105) (g_d dtbX11_goBy_1 22 rfl) hlk hsk (by omega) (by rfl) (by omega) rfl ?_
          rw [zr_ru]
          refine nz_rv (g_d dtbX11_goBy_1 23 rfl) rfl ?_
          obtain rfl : n = (f 6).toNat := by omega
          refine congrArg (zr Z k) (funext (fun j => ?_))
          simp only [rGo, ru]
          (repeat' split) <;> first | rfl | omega | (subst_vars; first | rfl | omega | contradiction) | contradiction
      · refine cz_aload_n (pc' := 66) (g_d dtbX11_goBy_0 46 rfl) rfl rfl ?_
        refine nz_iconst (pc' := 67) (g_d dtbX11_goBy_0 47 rfl) rfl ?_
        refine cz_dup2 (pc' := 68) (g_d dtbX11_goBy_0 48 rfl) rfl rfl rfl ?_
        refine nz_iald 0 (pc' := 69) (g_d dtbX11_goBy_0 49 rfl) hlk hsk (by omega) (by rfl) (by omega) rfl ?_
        rw [show (zr Z k (ru (ru f 0 (f 0 - drA f n 0)) 0 ((f 0 - drA f n 0) - sp))) k 0 = (f 0 - drA f n 0) - sp from by simp [zu, zr, ru]]
        refine nz_iconst (pc' := 70) (g_d dtbX11_goBy_0 50 rfl) rfl ?_
        refine nz_isub (pc' := 71) (g_d dtbX11_goBy_0 51 rfl) rfl ?_
        refine nz_iast 0 (pc' := 72) (g_d dtbX11_goBy_0 52 rfl) hlk hsk (by omega) (by rfl) (by omega) rfl ?_
        rw [zr_ru]
        refine cz_aload_n (pc' := 73) (g_d dtbX11_goBy_0 53 rfl) rfl rfl ?_
        refine nz_iconst (pc' := 74) (g_d dtbX11_goBy_0 54 rfl) rfl ?_
        refine cz_dup2 (pc' := 75) (g_d dtbX11_goBy_0 55 rfl) rfl rfl rfl ?_
        refine nz_iald 2 (pc' := 76) (g_d dtbX11_goBy_0 56 rfl) hlk hsk (by omega) (by rfl) (by omega) rfl ?_
        rw [show (zr Z k (ru (ru (ru f 0 (f 0 - drA f n 0)) 0 ((f 0 - drA f n 0) - sp)) 0 (((f 0 - drA f n 0) - sp) - 1))) k 2 = f 2 from by simp [zu, zr, ru]]
        refine nz_iconst (pc' := 77) (g_d dtbX11_goBy_0 57 rfl) rfl ?_
        refine nz_iadd (pc' := 78) (g_d dtbX11_goBy_0 58 rfl) rfl ?_
        refine nz_iast 2 (pc' := 79) (g_d dtbX11_goBy_0 59 rfl) hlk hsk (by omega) (by rfl) (by omega) rfl ?_
        rw [zr_ru]
        refine cz_aload_n (pc' := 80) (g_d dtbX11_goBy_1 0 rfl) rfl rfl ?_
        refine nz_iconst (pc' := 81) (g_d dtbX11_goBy_1 1 rfl) rfl ?_
        refine cz_dup2 (pc' := 82) (g_d dtbX11_goBy_1 2 rfl) rfl rfl rfl ?_
        refine nz_iald 3 (pc' := 83) (g_d dtbX11_goBy_1 3 rfl) hlk hsk (by omega) (by rfl) (by omega) rfl ?_
        rw [show (zr Z k (ru (ru (ru (ru f 0 (f 0 - drA f n 0)) 0 ((f 0 - drA f n 0) - sp)) 0 (((f 0 - drA f n 0) - sp) - 1)) 2 ((f 2) + 1))) k 3 = f 3 from by simp [zu, zr, ru]]
        refine nz_iconst (pc' := 84) (g_d dtbX11_goBy_1 4 rfl) rfl ?_
        refine nz_iadd (pc' := 85) (g_d dtbX11_goBy_1 5 rfl) rfl ?_
        refine nz_iast 3 (pc' := 86) (g_d dtbX11_goBy_1 6 rfl) hlk hsk (by omega) (by rfl) (by omega) rfl ?_
        rw [zr_ru]
        refine cz_aload_n (pc' := 87) (g_d dtbX11_goBy_1 7 rfl) rfl rfl ?_
        refine nz_iconst (pc' := 88) (g_d dtbX11_goBy_1 8 rfl) rfl ?_
        refine nz_iald 3 (pc' := 89) (g_d dtbX11_goBy_1 9 rfl) hlk hsk (by omega) (by rfl) (by omega) rfl ?_
        rw [show (zr Z k (ru (ru (ru (ru (ru f 0 (f 0 - drA f n 0)) 0 ((f 0 - drA f n 0) - sp)) 0 (((f 0 - drA f n 0) - sp) - 1)) 2 ((f 2) + 1)) 3 ((f 3) + 1))) k 3 = (f 3) + 1 from by simp [zu, zr, ru]]
        refine nz_bipush (pc' := 91) (g_d dtbX11_goBy_1 10 rfl) (by decide) rfl ?_
        refine nz_icmp_le (tgt := 105) (pc' := 94) (g_d dtbX11_goBy_1 11 rfl) (by omega) (by omega) rfl rfl (fun h91 => ?_) (fun h91 => ?_)
        · refine nz_rv (g_d dtbX11_goBy_1 23 rfl) rfl ?_
          obtain rfl : n = (f 6).toNat := by omega
          refine congrArg (zr Z k) (funext (fun j => ?_))
          simp only [rGo, ru]
          (repeat' split) <;> first | rfl | omega | (subst_vars; first | rfl | omega | contradiction) | contradiction
        · refine cz_aload_n (pc' := 95) (g_d dtbX11_goBy_1 12 rfl) rfl rfl ?_
          refine nz_iconst (pc' := 96) (g_d dtbX11_goBy_1 13 rfl) rfl ?_
          refine nz_iconst (pc' := 97) (g_d dtbX11_goBy_1 14 rfl) rfl ?_
          refine nz_iast 3 (pc' := 98) (g_d dtbX11_goBy_1 15 rfl) hlk hsk (by omega) (by rfl) (by omega) rfl ?_
          rw [zr_ru]
          refine cz_aload_n (pc' := 99) (g_d dtbX11_goBy_1 16 rfl) rfl rfl ?_
          refine nz_iconst (pc' := 100) (g_d dtbX11_goBy_1 17 rfl) rfl ?_
          refine cz_dup2 (pc' := 101) (g_d dtbX11_goBy_1 18 rfl) rfl rfl rfl ?_
          refine nz_iald 4 (pc' := 102) (g_d dtbX11_goBy_1 19 rfl) hlk hsk (by omega) (by rfl) (by omega) rfl ?_
          rw [show (zr Z k (ru (ru (ru (ru (ru (ru f 0 (f 0 - drA f n 0)) 0 ((f 0 - drA f n 0) - sp)) 0 (((f 0 - drA f n 0) - sp) - 1)) 2 ((f 2) + 1)) 3 ((f 3) + 1)) 3 1)) k 4 = f 4 from by simp [zu, zr, ru]]
          refine nz_iconst (pc' := 103) (g_d dtbX11_goBy_1 20 rfl) rfl ?_
          refine nz_iadd (pc' := 104) (g_d dtbX11_goBy_1 21 rfl) rfl ?_
          refine nz_iast 4 (pc' := 105) (g_d dtbX11_goBy_1 22 rfl) hlk hsk (by omega) (by rfl) (by omega) rfl ?_
          rw [zr_ru]
          refine nz_rv (g_d dtbX11_goBy_1 23 rfl) rfl ?_
          obtain rfl : n = (f 6).toNat := by omega
          refine congrArg (zr Z k) (funext (fun j => ?_))
          simp only [rGo, ru]
          (repeat' split) <;> first | rfl | omega | (subst_vars; first | rfl | omega | contradiction) | contradiction
    · have hbo := hR.2.2.2.2.2 n (by omega) (by omega)
      have hdn := drA_tr hR 0 n (by omega) (by omega)
      have hdI := dayB_in (κ := f (7 + n)) (d := f (14 + n)) (by omega)
      have hpI := pndB_in (κ := f (7 + n)) (p := f (21 + n)) (m := f 4) (by omega)
      refine cz_aload_n (pc' := 11) (g_d dtbX11_goBy_0 7 rfl) rfl rfl ?_
      refine nz_iconst (pc' := 12) (g_d dtbX11_goBy_0 8 rfl) rfl ?_
      refine cz_dup2 (pc' := 13) (g_d dtbX11_goBy_0 9 rfl) rfl rfl rfl ?_
      refine nz_iald 0 (pc' := 14) (g_d dtbX11_goBy_0 10 rfl) hlk hsk (by omega) (by rfl) (by omega) rfl ?_
      rw [show (zr Z k (ru f 0 (f 0 - drA f n 0))) k 0 = f 0 - drA f n 0 from by simp [zu, zr, ru]]
      refine cz_aload_n (pc' := 15) (g_d dtbX11_goBy_0 11 rfl) rfl rfl ?_
      refine nz_bipush (pc' := 17) (g_d dtbX11_goBy_0 12 rfl) (by decide) rfl ?_
      refine cz_iload_n (pc' := 18) (g_d dtbX11_goBy_0 13 rfl) rfl rfl ?_
      refine nz_iadd (pc' := 19) (g_d dtbX11_goBy_0 14 rfl) rfl ?_
      refine nz_iald (7 + n) (pc' := 20) (g_d dtbX11_goBy_0 15 rfl) hlk hsk (by omega) (by push_cast; omega) (by omega) rfl ?_
      rw [show (zr Z k (ru f 0 (f 0 - drA f n 0))) k (7 + n) = f (7 + n) from by rw [zr_eq, ru_ne (by omega)]]
      refine cz_aload_n (pc' := 21) (g_d dtbX11_goBy_0 16 rfl) rfl rfl ?_
      refine nz_bipush (pc' := 23) (g_d dtbX11_goBy_0 17 rfl) (by decide) rfl ?_
      refine cz_iload_n (pc' := 24) (g_d dtbX11_goBy_0 18 rfl) rfl rfl ?_
      refine nz_iadd (pc' := 25) (g_d dtbX11_goBy_0 19 rfl) rfl ?_
      refine nz_iald (14 + n) (pc' := 26) (g_d dtbX11_goBy_0 20 rfl) hlk hsk (by omega) (by push_cast; omega) (by omega) rfl ?_
      rw [show (zr Z k (ru f 0 (f 0 - drA f n 0))) k (14 + n) = f (14 + n) from by rw [zr_eq, ru_ne (by omega)]]
      refine nz_cSi (M' := mX11_dayBy) (As := [iv (f (7 + n)), iv (f (14 + n))]) (S := [iv (f 0 - drA f n 0), iv 0, .ref k]) (L := [some (.ref k), some (iv (sp)), some (iv ((n : Int)))]) (pc' := 29) (g_d dtbX11_goBy_0 21 rfl) lk_X11_121 okX11_dayBy rfl rfl (Nat.le_of_ble_eq_true rfl) (Nat.le_of_ble_eq_true rfl) (by decide) rfl (m_dayBy G (zr Z k (ru f 0 (f 0 - drA f n 0))) (f (7 + n)) (f (14 + n)) (by omega) (by omega)) ?_
      rintro _ _ ⟨rfl, rfl⟩
      refine cz_aload_n (pc' := 30) (g_d dtbX11_goBy_0 22 rfl) rfl rfl ?_
      refine nz_iconst (pc' := 31) (g_d dtbX11_goBy_0 23 rfl) rfl ?_
      refine nz_iald 3 (pc' := 32) (g_d dtbX11_goBy_0 24 rfl) hlk hsk (by omega) (by rfl) (by omega) rfl ?_
      rw [show (zr Z k (ru f 0 (f 0 - drA f n 0))) k 3 = f 3 from by simp [zu, zr, ru]]
      refine nz_icmp_ne (tgt := 43) (pc' := 35) (g_d dtbX11_goBy_0 25 rfl) (by omega) (by omega) rfl rfl (fun h32 => ?_) (fun h32 => ?_)
      · refine nz_iconst (pc' := 44) (g_d dtbX11_goBy_0 30 rfl) rfl ?_
        refine nz_isub (pc' := 45) (g_d dtbX11_goBy_0 31 rfl) rfl ?_
        refine nz_iast 0 (pc' := 46) (g_d dtbX11_goBy_0 32 rfl) hlk hsk (by omega) (by rfl) (by omega) rfl ?_
        rw [zr_ru]
        refine nz_iinc (L' := [some (.ref k), some (iv (sp)), some (iv (((n : Int)) + 1))]) (pc' := 49) (g_d dtbX11_goBy_0 33 rfl) (by decide) rfl rfl rfl ?_
        refine cz_goto (pc' := 2) (g_d dtbX11_goBy_0 34 rfl) rfl ?_
        refine nz_st (congrArg (zr Z k) (show ru f 0 (f 0 - drA f (n + 1) 0) = (ru (ru f 0 (f 0 - drA f n 0)) 0 ((f 0 - drA f n 0) - 0)) from ?_)) ?_
        · rw [ru_ru, drA, pA, dyA0 hf3, mnA0 hf3, if_neg (by omega)]
          congr 1; omega
        exact ih ((f 6).toNat - (n + 1)) (by omega) (n + 1) rfl (by omega)
      · refine cz_aload_n (pc' := 36) (g_d dtbX11_goBy_0 26 rfl) rfl rfl ?_
        refine cz_iload_n (pc' := 37) (g_d dtbX11_goBy_0 27 rfl) rfl rfl ?_
        refine nz_cSi (M' := mX11_drawn) (As := [.ref k, iv ((n : Int))]) (S := [iv (f 0 - drA f n 0), iv 0, .ref k]) (L := [some (.ref k), some (iv (sp)), some (iv ((n : Int)))]) (pc' := 40) (g_d dtbX11_goBy_0 28 rfl) lk_X11_125 okX11_drawn rfl rfl (Nat.le_of_ble_eq_true rfl) (Nat.le_of_ble_eq_true rfl) (by decide) rfl (m_drawn G (zr Z k (ru f 0 (f 0 - drA f n 0))) k hlk hsk n (by omega) (f (7 + n)) (f (21 + n)) (f 4) (by rw [zr_eq, ru_ne (by omega)]) (by rw [zr_eq, ru_ne (by omega)]) (by rw [zr_eq, ru_ne (by omega)]) (by omega) (by omega) (by omega)) ?_
        rintro _ _ ⟨rfl, rfl⟩
        refine cz_goto (pc' := 44) (g_d dtbX11_goBy_0 29 rfl) rfl ?_
        refine nz_isub (pc' := 45) (g_d dtbX11_goBy_0 31 rfl) rfl ?_
        refine nz_iast 0 (pc' := 46) (g_d dtbX11_goBy_0 32 rfl) hlk hsk (by omega) (by rfl) (by omega) rfl ?_
        rw [zr_ru]
        refine nz_iinc (L' := [some (.ref k), some (iv (sp)), some (iv (((n : Int)) + 1))]) (pc' := 49) (g_d dtbX11_goBy_0 33 rfl) (by decide) rfl rfl rfl ?_
        refine cz_goto (pc' := 2) (g_d dtbX11_goBy_0 34 rfl) rfl ?_
        refine nz_st (congrArg (zr Z k) (show ru f 0 (f 0 - drA f (n + 1) 0) = (ru (ru f 0 (f 0 - drA f n 0)) 0 ((f 0 - drA f n 0) - (pndB (f (7 + n)) (f (21 + n)) (f 4)))) from ?_)) ?_
        · rw [ru_ru, drA, pA, dyA0 hf3, mnA0 hf3, if_pos (by omega)]
          congr 1; omega
        exact ih ((f 6).toNat - (n + 1)) (by omega) (n + 1) rfl (by omega)

set_option maxRecDepth 20000 in
set_option maxHeartbeats 4000000 in
theorem m_goBy (G : Wd) (Z : ZS) (f : Row) (C sp : Int) (k : Nat) (hlk : k < 42) (hsk : g_sh k = .inl (0, 108)) (hR : TR C f) (hC : C ≤ 90000000) (hs : 0 ≤ sp ∧ sp ≤ 1000) : Cn G mX11_goBy 0 [some (.ref k), some (iv (sp)), none] [] (zr Z k f) (qv (fun W => zr Z k (rGo f sp) = W)) := by
  refine nz_iconst (pc' := 1) (g_d dtbX11_goBy_0 0 rfl) rfl ?_
  refine cz_istore_n (L' := [some (.ref k), some (iv (sp)), some (iv 0)]) (pc' := 2) (g_d dtbX11_goBy_0 1 rfl) (by decide) rfl rfl ?_
  have q := l_goBy G Z f C sp k hlk hsk hR hC hs ((f 6).toNat - 0) 0 rfl (by have := hR.2.2.2.2.1; omega)
  rw [show ru f 0 (f 0 - drA f 0 0) = f from by funext j; unfold ru drA; split <;> simp_all] at q
  exact q

theorem m_bring2 (G : Wd) (Z : ZS) (ii jj nn : Int) (ka kb i j n na nb : Nat) (hla : ka < 42) (hlb : kb < 42) (hsa : g_sh ka = .inl (0, na)) (hsb : g_sh kb = .inl (0, nb)) (hna : na ≤ 1000) (hnb : nb ≤ 1000) (hi : i + n ≤ na) (hj : j + n ≤ nb) (hov : ka ≠ kb ∨ j ≤ i ∨ i + n ≤ j) (e1 : ii = (i : Int)) (e2 : jj = (j : Int)) (e3 : nn = (n : Int)) : Cn G mX11_bring 0 [some (.ref ka), some (iv ii), some (.ref kb), some (iv jj), some (iv nn), none] [] Z (qv (fun W => zr Z kb (zcp (Z ka) (Z kb) i j n) = W)) := by
  subst e1 e2 e3
  exact m_bring G Z ka kb i j n na nb hla hlb hsa hsb hna hnb hi hj hov
theorem br_self {Z : ZS} {k : Nat} {f : Row} {i j n : Nat} : zr (zr Z k f) k (zcp ((zr Z k f) k) ((zr Z k f) k) i j n) = zr Z k (zcp f f i j n) := by rw [zr_zr, zr_eq]
theorem keep_shift {f : Row} (h : f 59 = 8) : rShift f = ru (zcp f f 66 60 42) 59 (f 59 - 1) := by
  unfold rShift
  rw [if_pos h, h]
  congr 1
  funext x
  unfold zcp
  by_cases q : 60 ≤ x ∧ x < 102
  · rw [if_pos q, if_pos (by omega)]; congr 1; omega
  · rw [if_neg q, if_neg (by omega)]
theorem keep_put {g : Row} {c : Nat} (hc : g 59 = (c : Int)) : rPut g = ru (zcp g g 0 (60 + 6 * c) 6) 59 (g 59 + 1) := by
  unfold rPut
  rw [show (g 59).toNat = c by omega]
  congr 1
  funext x
  unfold zcp
  by_cases q : 60 + 6 * c ≤ x ∧ x < 66 + 6 * c
  · rw [if_pos q, if_pos (by omega)]; congr 1; omega
  · rw [if_neg q, if_neg (by omega)]

set_option maxRecDepth 20000 in
set_option maxHeartbeats 4000000 in
theorem m_put (G : Wd) (Z : ZS) (g : Row) (c : Nat) (hc : g 59 = (c : Int)) (hc8 : c < 8) : Cn G mX11_keepBack 40 [some (.ref 34)] [] (zr Z 35 g) (qv (fun W => zr Z 35 (rPut g) = W)) := by
  refine cz_aload_n (pc' := 41) (g_d dtbX11_keepBack_0 22 rfl) rfl rfl ?_
  refine nz_getf (v := .ref 35) (pc' := 44) (g_d dtbX11_keepBack_0 23 rfl) gf_X11_7 (by decide) rfl rfl rfl ?_
  refine nz_iconst (pc' := 45) (g_d dtbX11_keepBack_0 24 rfl) rfl ?_
  refine cz_aload_n (pc' := 46) (g_d dtbX11_keepBack_0 25 rfl) rfl rfl ?_
  refine nz_getf (v := .ref 35) (pc' := 49) (g_d dtbX11_keepBack_0 26 rfl) gf_X11_7 (by decide) rfl rfl rfl ?_
  refine nz_bipush (pc' := 51) (g_d dtbX11_keepBack_0 27 rfl) (by decide) rfl ?_
  refine nz_bipush (pc' := 53) (g_d dtbX11_keepBack_0 28 rfl) (by decide) rfl ?_
  refine cz_aload_n (pc' := 54) (g_d dtbX11_keepBack_0 29 rfl) rfl rfl ?_
  refine nz_getf (v := .ref 35) (pc' := 57) (g_d dtbX11_keepBack_0 30 rfl) gf_X11_7 (by decide) rfl rfl rfl ?_
  refine nz_bipush (pc' := 59) (g_d dtbX11_keepBack_0 31 rfl) (by decide) rfl ?_
  refine nz_iald 59 (pc' := 60) (g_d dtbX11_keepBack_0 32 rfl) (by decide) rfl (by omega) (by rfl) (by omega) rfl ?_
  rw [show (zr Z 35 g) 35 59 = g 59 from by simp [zu, zr, ru]]
  refine nz_imul (pc' := 61) (g_d dtbX11_keepBack_0 33 rfl) rfl ?_
  refine nz_iadd (pc' := 62) (g_d dtbX11_keepBack_0 34 rfl) rfl ?_
  refine nz_bipush (pc' := 64) (g_d dtbX11_keepBack_0 35 rfl) (by decide) rfl ?_
  refine nz_cSv (M' := mX11_bring) (As := [.ref 35, iv 0, .ref 35, iv (60 + (6 * (g 59))), iv 6]) (S := []) (L := [some (.ref 34)]) (pc' := 67) (g_d dtbX11_keepBack_0 36 rfl) lk_X11_113 okX11_bring rfl rfl (Nat.le_of_ble_eq_true rfl) (Nat.le_of_ble_eq_true rfl) (by decide) rfl (m_bring2 G (zr Z 35 g) 0 (60 + (6 * (g 59))) 6 35 35 0 (60 + 6 * c) 6 108 108 (by decide) (by decide) rfl rfl (by decide) (by decide) (by omega) (by omega) (by omega) (by omega) (by omega) (by omega)) ?_
  rintro _ rfl
  rw [br_self]
  refine cz_aload_n (pc' := 68) (g_d dtbX11_keepBack_0 37 rfl) rfl rfl ?_
  refine nz_getf (v := .ref 35) (pc' := 71) (g_d dtbX11_keepBack_0 38 rfl) gf_X11_7 (by decide) rfl rfl rfl ?_
  refine nz_bipush (pc' := 73) (g_d dtbX11_keepBack_0 39 rfl) (by decide) rfl ?_
  refine cz_dup2 (pc' := 74) (g_d dtbX11_keepBack_0 40 rfl) rfl rfl rfl ?_
  refine nz_iald 59 (pc' := 75) (g_d dtbX11_keepBack_0 41 rfl) (by decide) rfl (by omega) (by rfl) (by omega) rfl ?_
  rw [show (zr Z 35 (zcp g g 0 (60 + 6 * c) 6)) 35 59 = g 59 from by rw [zr_eq]; simp only [zcp]; rw [if_neg (by omega)]]
  refine nz_iconst (pc' := 76) (g_d dtbX11_keepBack_0 42 rfl) rfl ?_
  refine nz_iadd (pc' := 77) (g_d dtbX11_keepBack_0 43 rfl) rfl ?_
  refine nz_iast 59 (pc' := 78) (g_d dtbX11_keepBack_0 44 rfl) (by decide) rfl (by omega) (by rfl) (by omega) rfl ?_
  rw [zr_ru]
  refine nz_rv (g_d dtbX11_keepBack_0 45 rfl) rfl ?_
  rw [keep_put hc]

set_option maxRecDepth 20000 in
set_option maxHeartbeats 4000000 in
theorem m_keepBack (G : Wd) (Z : ZS) (f : Row) (h59 : 0 ≤ f 59 ∧ f 59 ≤ 8) : Cn G mX11_keepBack 0 [some (.ref 34)] [] (zr Z 35 f) (qv (fun W => zr Z 35 (rKeep f) = W)) := by
  refine cz_aload_n (pc' := 1) (g_d dtbX11_keepBack_0 0 rfl) rfl rfl ?_
  refine nz_getf (v := .ref 35) (pc' := 4) (g_d dtbX11_keepBack_0 1 rfl) gf_X11_7 (by decide) rfl rfl rfl ?_
  refine nz_bipush (pc' := 6) (g_d dtbX11_keepBack_0 2 rfl) (by decide) rfl ?_
  refine nz_iald 59 (pc' := 7) (g_d dtbX11_keepBack_0 3 rfl) (by decide) rfl (by omega) (by rfl) (by omega) rfl ?_
  rw [show (zr Z 35 f) 35 59 = f 59 from by simp [zu, zr, ru]]
  refine nz_bipush (pc' := 9) (g_d dtbX11_keepBack_0 4 rfl) (by decide) rfl ?_
  refine nz_icmp_ne (tgt := 40) (pc' := 12) (g_d dtbX11_keepBack_0 5 rfl) (by omega) (by omega) rfl rfl (fun h9 => ?_) (fun h9 => ?_)
  · refine nz_st (congrArg (zr Z 35) (show rShift f = f from if_neg h9)) ?_
    obtain ⟨c, hc⟩ : ∃ c : Nat, rShift f 59 = (c : Int) := ⟨(rShift f 59).toNat, by rw [show rShift f = f from if_neg h9]; omega⟩
    exact m_put G Z (rShift f) c hc (by rw [show rShift f = f from if_neg h9] at hc; omega)
  · refine cz_aload_n (pc' := 13) (g_d dtbX11_keepBack_0 6 rfl) rfl rfl ?_
    refine nz_getf (v := .ref 35) (pc' := 16) (g_d dtbX11_keepBack_0 7 rfl) gf_X11_7 (by decide) rfl rfl rfl ?_
    refine nz_bipush (pc' := 18) (g_d dtbX11_keepBack_0 8 rfl) (by decide) rfl ?_
    refine cz_aload_n (pc' := 19) (g_d dtbX11_keepBack_0 9 rfl) rfl rfl ?_
    refine nz_getf (v := .ref 35) (pc' := 22) (g_d dtbX11_keepBack_0 10 rfl) gf_X11_7 (by decide) rfl rfl rfl ?_
    refine nz_bipush (pc' := 24) (g_d dtbX11_keepBack_0 11 rfl) (by decide) rfl ?_
    refine nz_bipush (pc' := 26) (g_d dtbX11_keepBack_0 12 rfl) (by decide) rfl ?_
    refine nz_cSv (M' := mX11_bring) (As := [.ref 35, iv 66, .ref 35, iv 60, iv 42]) (S := []) (L := [some (.ref 34)]) (pc' := 29) (g_d dtbX11_keepBack_0 13 rfl) lk_X11_113 okX11_bring rfl rfl (Nat.le_of_ble_eq_true rfl) (Nat.le_of_ble_eq_true rfl) (by decide) rfl (m_bring2 G (zr Z 35 f) 66 60 42 35 35 66 60 42 108 108 (by decide) (by decide) rfl rfl (by decide) (by decide) (by omega) (by omega) (by omega) (by omega) (by omega) (by omega)) ?_
    rintro _ rfl
    rw [br_self]
    refine cz_aload_n (pc' := 30) (g_d dtbX11_keepBack_0 14 rfl) rfl rfl ?_
    refine nz_getf (v := .ref 35) (pc' := 33) (g_d dtbX11_keepBack_0 15 rfl) gf_X11_7 (by decide) rfl rfl rfl ?_
    refine nz_bipush (pc' := 35) (g_d dtbX11_keepBack_0 16 rfl) (by decide) rfl ?_
    refine cz_dup2 (pc' := 36) (g_d dtbX11_keepBack_0 17 rfl) rfl rfl rfl ?_
    refine nz_iald 59 (pc' := 37) (g_d dtbX11_keepBack_0 18 rfl) (by decide) rfl (by omega) (by rfl) (by omega) rfl ?_
    rw [show (zr Z 35 (zcp f f 66 60 42)) 35 59 = f 59 from by rw [zr_eq]; simp [zcp]]
    refine nz_iconst (pc' := 38) (g_d dtbX11_keepBack_0 19 rfl) rfl ?_
    refine nz_isub (pc' := 39) (g_d dtbX11_keepBack_0 20 rfl) rfl ?_
    refine nz_iast 59 (pc' := 40) (g_d dtbX11_keepBack_0 21 rfl) (by decide) rfl (by omega) (by rfl) (by omega) rfl ?_
    rw [zr_ru]
    refine nz_st (congrArg (zr Z 35) (show rShift f = (ru (zcp f f 66 60 42) 59 ((f 59) - 1)) from keep_shift h9)) ?_
    obtain ⟨c, hc⟩ : ∃ c : Nat, rShift f 59 = (c : Int) := ⟨(rShift f 59).toNat, by rw [keep_shift h9, ru_eq]; omega⟩
    exact m_put G Z (rShift f) c hc (by rw [keep_shift h9, ru_eq] at hc; omega)

set_option maxRecDepth 20000 in
set_option maxHeartbeats 4000000 in
theorem b_account (G : Wd) (Z : ZS) (A : AS) (B : Int) (hM : MS Z A) (hA : AO B A) (n : Int) (hn : -2147483648 ≤ n ∧ n ≤ 2147483647) : Cn G mX11_account 0 [some (.ref 34), some (iv (n)), none] [] Z (qi (fun r W => (xAccount A n).1 = r ∧ MS W (xAccount A n).2 ∧ FC Z W)) := by
  have hb0 := hA.1
  have hO := hA.2.1
  have h6 : 0 ≤ A.1 6 ∧ A.1 6 ≤ 7 := hO.2.1
  have h28 : 0 ≤ A.1 28 ∧ A.1 28 ≤ 6 := hO.2.2.2.1
  have h59 : 0 ≤ A.1 59 ∧ A.1 59 ≤ 8 := hO.2.2.2.2.2.1
  have hf := hO.1
  unfold FO at hf
  have hct := hA.2.2.2.2.2.2
  refine nz_st (zr_self hM.1) ?_
  refine cz_iload_n (pc' := 1) (g_d dtbX11_account_0 0 rfl) rfl rfl ?_
  refine nz_iconst (pc' := 2) (g_d dtbX11_account_0 1 rfl) rfl ?_
  refine nz_sipush (pc' := 5) (g_d dtbX11_account_0 2 rfl) (by decide) rfl ?_
  refine nz_cSi (M' := mX11_in) (As := [iv (n), iv 0, iv 999]) (S := []) (L := [some (.ref 34), some (iv (n)), none]) (pc' := 8) (g_d dtbX11_account_0 3 rfl) lk_X11_40 okX11_in rfl rfl (Nat.le_of_ble_eq_true rfl) (Nat.le_of_ble_eq_true rfl) (by decide) rfl (m_in G (zr Z 35 A.1) n 0 999 (by omega) (by omega) (by omega)) ?_
  rintro _ _ ⟨rfl, ⟨rfl, hw5⟩ | ⟨rfl, hw5⟩⟩
  · refine nz_if_ne_t (tgt := 16) (g_d dtbX11_account_0 4 rfl) (by omega) rfl (by omega) ?_
    refine cz_aload_n (pc' := 17) (g_d dtbX11_account_0 8 rfl) rfl rfl ?_
    refine nz_getf (v := .ref 35) (pc' := 20) (g_d dtbX11_account_0 9 rfl) gf_X11_7 (by decide) rfl rfl rfl ?_
    refine nz_bipush (pc' := 22) (g_d dtbX11_account_0 10 rfl) (by decide) rfl ?_
    refine nz_iald 6 (pc' := 23) (g_d dtbX11_account_0 11 rfl) (by decide) rfl (by omega) (by rfl) (by omega) rfl ?_
    rw [show (zr Z 35 A.1) 35 6 = A.1 6 from by simp [zu, zr, ru]]
    refine cz_istore_n (L' := [some (.ref 34), some (iv (n)), some (iv (A.1 6))]) (pc' := 24) (g_d dtbX11_account_0 12 rfl) (by decide) rfl rfl ?_
    refine cz_aload_n (pc' := 25) (g_d dtbX11_account_0 13 rfl) rfl rfl ?_
    refine nz_getf (v := .ref 35) (pc' := 28) (g_d dtbX11_account_0 14 rfl) gf_X11_7 (by decide) rfl rfl rfl ?_
    refine nz_cSv (M' := mX11_begin) (As := [.ref 35]) (S := []) (L := [some (.ref 34), some (iv (n)), some (iv (A.1 6))]) (pc' := 31) (g_d dtbX11_account_0 15 rfl) lk_X11_36 okX11_begin rfl rfl (Nat.le_of_ble_eq_true rfl) (Nat.le_of_ble_eq_true rfl) (by decide) rfl (m_begin G Z A.1 35 (by decide) rfl) ?_
    rintro _ rfl
    refine cz_aload_n (pc' := 32) (g_d dtbX11_account_0 16 rfl) rfl rfl ?_
    refine nz_getf (v := .ref 35) (pc' := 35) (g_d dtbX11_account_0 17 rfl) gf_X11_7 (by decide) rfl rfl rfl ?_
    refine nz_iconst (pc' := 36) (g_d dtbX11_account_0 18 rfl) rfl ?_
    refine cz_iload_n (pc' := 37) (g_d dtbX11_account_0 19 rfl) rfl rfl ?_
    refine nz_iast 0 (pc' := 38) (g_d dtbX11_account_0 20 rfl) (by decide) rfl (by omega) (by rfl) (by omega) rfl ?_
    rw [zr_ru]
    refine cz_iload_n (pc' := 39) (g_d dtbX11_account_0 21 rfl) rfl rfl ?_
    refine nz_ri .int (g_d dtbX11_account_0 22 rfl) rfl rfl ?_
    rw [show xAccount A n = (A.1 6, sF A (r108 (ru rBegin 0 n) A.1)) from if_pos (by omega)]
    exact ⟨rfl, (show r108 (ru rBegin 0 n) A.1 = ru (r108 rBegin A.1) 0 n from by funext j; simp only [r108, ru]; (repeat' split) <;> first | rfl | omega) ▸ hM.row, (FC.r FC.rf (by decide))⟩
  · refine nz_if_ne_f (pc' := 11) (g_d dtbX11_account_0 4 rfl) (by omega) (by decide) rfl (by omega) ?_
    refine cz_aload_n (pc' := 12) (g_d dtbX11_account_0 5 rfl) rfl rfl ?_
    refine nz_cVi (M' := mX11_bad) (k := 34) (As := []) (S := []) (L := [some (.ref 34), some (iv (n)), none]) (pc' := 15) (g_d dtbX11_account_0 6 rfl) lk_X11_44 okX11_bad (by decide) rfl rfl rfl rfl (Nat.le_of_ble_eq_true rfl) (Nat.le_of_ble_eq_true rfl) (by decide) rfl (m_bad G (zr Z 35 A.1)) ?_
    rintro _ _ ⟨rfl, rfl⟩
    refine nz_ri .int (g_d dtbX11_account_0 7 rfl) rfl rfl ?_
    rw [show xAccount A n = (-2, aBad A) from by unfold xAccount; rw [if_neg (by omega)]]
    exact ⟨rfl, ms_bad hM.row, (FC.u (FC.r FC.rf (by decide)) (by decide))⟩

set_option maxRecDepth 20000 in
set_option maxHeartbeats 4000000 in
theorem b_bill (G : Wd) (Z : ZS) (A : AS) (B : Int) (hM : MS Z A) (hA : AO B A) (a d p : Int) (ha : -2147483648 ≤ a ∧ a ≤ 2147483647) (hd : -2147483648 ≤ d ∧ d ≤ 2147483647) (hp : -2147483648 ≤ p ∧ p ≤ 2147483647) : Cn G mX11_bill 0 [some (.ref 34), some (iv (a)), some (iv (d)), some (iv (p))] [] Z (qi (fun r W => (xBill A a d p).1 = r ∧ MS W (xBill A a d p).2 ∧ FC Z W)) := by
  have hb0 := hA.1
  have hO := hA.2.1
  have h6 : 0 ≤ A.1 6 ∧ A.1 6 ≤ 7 := hO.2.1
  have h28 : 0 ≤ A.1 28 ∧ A.1 28 ≤ 6 := hO.2.2.2.1
  have h59 : 0 ≤ A.1 59 ∧ A.1 59 ≤ 8 := hO.2.2.2.2.2.1
  have hf := hO.1
  unfold FO at hf
  have hct := hA.2.2.2.2.2.2
  refine nz_st (zr_self hM.1) ?_
  refine cz_iload_n (pc' := 1) (g_d dtbX11_bill_0 0 rfl) rfl rfl ?_
  refine nz_iconst (pc' := 2) (g_d dtbX11_bill_0 1 rfl) rfl ?_
  refine nz_iconst (pc' := 3) (g_d dtbX11_bill_0 2 rfl) rfl ?_
  refine nz_cSi (M' := mX11_in) (As := [iv (a), iv 0, iv 5]) (S := []) (L := [some (.ref 34), some (iv (a)), some (iv (d)), some (iv (p))]) (pc' := 6) (g_d dtbX11_bill_0 3 rfl) lk_X11_40 okX11_in rfl rfl (Nat.le_of_ble_eq_true rfl) (Nat.le_of_ble_eq_true rfl) (by decide) rfl (m_in G (zr Z 35 A.1) a 0 5 (by omega) (by omega) (by omega)) ?_
  rintro _ _ ⟨rfl, ⟨rfl, hw3⟩ | ⟨rfl, hw3⟩⟩
  · refine nz_if_eq_f (pc' := 9) (g_d dtbX11_bill_0 4 rfl) (by omega) (by decide) rfl (by omega) ?_
    refine cz_iload_n (pc' := 10) (g_d dtbX11_bill_0 5 rfl) rfl rfl ?_
    refine nz_iconst (pc' := 11) (g_d dtbX11_bill_0 6 rfl) rfl ?_
    refine nz_bipush (pc' := 13) (g_d dtbX11_bill_0 7 rfl) (by decide) rfl ?_
    refine nz_cSi (M' := mX11_in) (As := [iv (d), iv 1, iv 28]) (S := []) (L := [some (.ref 34), some (iv (a)), some (iv (d)), some (iv (p))]) (pc' := 16) (g_d dtbX11_bill_0 8 rfl) lk_X11_40 okX11_in rfl rfl (Nat.le_of_ble_eq_true rfl) (Nat.le_of_ble_eq_true rfl) (by decide) rfl (m_in G (zr Z 35 A.1) d 1 28 (by omega) (by omega) (by omega)) ?_
    rintro _ _ ⟨rfl, ⟨rfl, hw13⟩ | ⟨rfl, hw13⟩⟩
    · refine nz_if_eq_f (pc' := 19) (g_d dtbX11_bill_0 9 rfl) (by omega) (by decide) rfl (by omega) ?_
      refine cz_iload_n (pc' := 20) (g_d dtbX11_bill_0 10 rfl) rfl rfl ?_
      refine nz_iconst (pc' := 21) (g_d dtbX11_bill_0 11 rfl) rfl ?_
      refine nz_bipush (pc' := 23) (g_d dtbX11_bill_0 12 rfl) (by decide) rfl ?_
      refine nz_cSi (M' := mX11_in) (As := [iv (p), iv 1, iv 99]) (S := []) (L := [some (.ref 34), some (iv (a)), some (iv (d)), some (iv (p))]) (pc' := 26) (g_d dtbX11_bill_0 13 rfl) lk_X11_40 okX11_in rfl rfl (Nat.le_of_ble_eq_true rfl) (Nat.le_of_ble_eq_true rfl) (by decide) rfl (m_in G (zr Z 35 A.1) p 1 99 (by omega) (by omega) (by omega)) ?_
      rintro _ _ ⟨rfl, ⟨rfl, hw23⟩ | ⟨rfl, hw23⟩⟩
      · refine nz_if_ne_t (tgt := 34) (g_d dtbX11_bill_0 14 rfl) (by omega) rfl (by omega) ?_
        refine cz_aload_n (pc' := 35) (g_d dtbX11_bill_0 18 rfl) rfl rfl ?_
        refine nz_getf (v := .ref 35) (pc' := 38) (g_d dtbX11_bill_0 19 rfl) gf_X11_7 (by decide) rfl rfl rfl ?_
        refine nz_bipush (pc' := 40) (g_d dtbX11_bill_0 20 rfl) (by decide) rfl ?_
        refine nz_iald 6 (pc' := 41) (g_d dtbX11_bill_0 21 rfl) (by decide) rfl (by omega) (by rfl) (by omega) rfl ?_
        rw [show (zr Z 35 A.1) 35 6 = A.1 6 from by simp [zu, zr, ru]]
        refine nz_bipush (pc' := 43) (g_d dtbX11_bill_0 22 rfl) (by decide) rfl ?_
        refine nz_icmp_ne (tgt := 51) (pc' := 46) (g_d dtbX11_bill_0 23 rfl) (by omega) (by omega) rfl rfl (fun h43 => ?_) (fun h43 => ?_)
        · refine cz_aload_n (pc' := 52) (g_d dtbX11_bill_0 27 rfl) rfl rfl ?_
          refine nz_getf (v := .ref 35) (pc' := 55) (g_d dtbX11_bill_0 28 rfl) gf_X11_7 (by decide) rfl rfl rfl ?_
          refine nz_bipush (pc' := 57) (g_d dtbX11_bill_0 29 rfl) (by decide) rfl ?_
          refine nz_iconst (pc' := 58) (g_d dtbX11_bill_0 30 rfl) rfl ?_
          refine nz_iast 59 (pc' := 59) (g_d dtbX11_bill_0 31 rfl) (by decide) rfl (by omega) (by rfl) (by omega) rfl ?_
          rw [zr_ru]
          refine cz_aload_n (pc' := 60) (g_d dtbX11_bill_0 32 rfl) rfl rfl ?_
          refine nz_getf (v := .ref 35) (pc' := 63) (g_d dtbX11_bill_0 33 rfl) gf_X11_7 (by decide) rfl rfl rfl ?_
          refine cz_iload_n (pc' := 64) (g_d dtbX11_bill_0 34 rfl) rfl rfl ?_
          refine cz_iload_n (pc' := 65) (g_d dtbX11_bill_0 35 rfl) rfl rfl ?_
          refine cz_iload_n (pc' := 66) (g_d dtbX11_bill_0 36 rfl) rfl rfl ?_
          refine nz_cSi (M' := mX11_addBill) (As := [.ref 35, iv (a), iv (d), iv (p)]) (S := []) (L := [some (.ref 34), some (iv (a)), some (iv (d)), some (iv (p))]) (pc' := 69) (g_d dtbX11_bill_0 37 rfl) lk_X11_51 okX11_addBill rfl rfl (Nat.le_of_ble_eq_true rfl) (Nat.le_of_ble_eq_true rfl) (by decide) rfl (m_addBill G Z (ru A.1 59 0) 35 (by decide) rfl (A.1 6).toNat (show A.1 6 = _ by omega) (by omega) a d p) ?_
          rintro _ _ ⟨rfl, rfl⟩
          refine nz_ri .int (g_d dtbX11_bill_0 38 rfl) rfl rfl ?_
          rw [show xBill A a d p = (A.1 6, sF A (rBill A.1 a d p)) from by unfold xBill; rw [if_pos (by omega), if_neg (by omega)]]
          exact ⟨rfl, hM.row, (FC.r FC.rf (by decide))⟩
        · refine cz_aload_n (pc' := 47) (g_d dtbX11_bill_0 24 rfl) rfl rfl ?_
          refine nz_cVi (M' := mX11_full) (k := 34) (As := []) (S := []) (L := [some (.ref 34), some (iv (a)), some (iv (d)), some (iv (p))]) (pc' := 50) (g_d dtbX11_bill_0 25 rfl) lk_X11_48 okX11_full (by decide) rfl rfl rfl rfl (Nat.le_of_ble_eq_true rfl) (Nat.le_of_ble_eq_true rfl) (by decide) rfl (m_full G (zr Z 35 A.1)) ?_
          rintro _ _ ⟨rfl, rfl⟩
          refine nz_ri .int (g_d dtbX11_bill_0 26 rfl) rfl rfl ?_
          rw [show xBill A a d p = (-4, aFull A) from by unfold xBill; rw [if_pos (by omega), if_pos (by omega)]]
          exact ⟨rfl, ms_full hM.row, (FC.u (FC.r FC.rf (by decide)) (by decide))⟩
      · refine nz_if_ne_f (pc' := 29) (g_d dtbX11_bill_0 14 rfl) (by omega) (by decide) rfl (by omega) ?_
        refine cz_aload_n (pc' := 30) (g_d dtbX11_bill_0 15 rfl) rfl rfl ?_
        refine nz_cVi (M' := mX11_bad) (k := 34) (As := []) (S := []) (L := [some (.ref 34), some (iv (a)), some (iv (d)), some (iv (p))]) (pc' := 33) (g_d dtbX11_bill_0 16 rfl) lk_X11_44 okX11_bad (by decide) rfl rfl rfl rfl (Nat.le_of_ble_eq_true rfl) (Nat.le_of_ble_eq_true rfl) (by decide) rfl (m_bad G (zr Z 35 A.1)) ?_
        rintro _ _ ⟨rfl, rfl⟩
        refine nz_ri .int (g_d dtbX11_bill_0 17 rfl) rfl rfl ?_
        rw [show xBill A a d p = (-2, aBad A) from by unfold xBill; rw [if_neg (by omega)]]
        exact ⟨rfl, ms_bad hM.row, (FC.u (FC.r FC.rf (by decide)) (by decide))⟩
    · refine nz_if_eq_t (tgt := 29) (g_d dtbX11_bill_0 9 rfl) (by omega) rfl (by omega) ?_
      refine cz_aload_n (pc' := 30) (g_d dtbX11_bill_0 15 rfl) rfl rfl ?_
      refine nz_cVi (M' := mX11_bad) (k := 34) (As := []) (S := []) (L := [some (.ref 34), some (iv (a)), some (iv (d)), some (iv (p))]) (pc' := 33) (g_d dtbX11_bill_0 16 rfl) lk_X11_44 okX11_bad (by decide) rfl rfl rfl rfl (Nat.le_of_ble_eq_true rfl) (Nat.le_of_ble_eq_true rfl) (by decide) rfl (m_bad G (zr Z 35 A.1)) ?_
      rintro _ _ ⟨rfl, rfl⟩
      refine nz_ri .int (g_d dtbX11_bill_0 17 rfl) rfl rfl ?_
      rw [show xBill A a d p = (-2, aBad A) from by unfold xBill; rw [if_neg (by omega)]]
      exact ⟨rfl, ms_bad hM.row, (FC.u (FC.r FC.rf (by decide)) (by decide))⟩
  · refine nz_if_eq_t (tgt := 29) (g_d dtbX11_bill_0 4 rfl) (by omega) rfl (by omega) ?_
    refine cz_aload_n (pc' := 30) (g_d dtbX11_bill_0 15 rfl) rfl rfl ?_
    refine nz_cVi (M' := mX11_bad) (k := 34) (As := []) (S := []) (L := [some (.ref 34), some (iv (a)), some (iv (d)), some (iv (p))]) (pc' := 33) (g_d dtbX11_bill_0 16 rfl) lk_X11_44 okX11_bad (by decide) rfl rfl rfl rfl (Nat.le_of_ble_eq_true rfl) (Nat.le_of_ble_eq_true rfl) (by decide) rfl (m_bad G (zr Z 35 A.1)) ?_
    rintro _ _ ⟨rfl, rfl⟩
    refine nz_ri .int (g_d dtbX11_bill_0 17 rfl) rfl rfl ?_
    rw [show xBill A a d p = (-2, aBad A) from by unfold xBill; rw [if_neg (by omega)]]
    exact ⟨rfl, ms_bad hM.row, (FC.u (FC.r FC.rf (by decide)) (by decide))⟩

theorem MS.text {Z : ZS} {A : AS} {W : ZS} {n : Nat} {t : Row} (h : MS Z A) (e1 : ∀ a, 35 ≤ a → a ≠ 41 → W a = Z a) (e0 : ∀ j, j ≠ 8 → W 34 j = Z 34 j) (e2 : W 34 8 = (n : Int)) (e3 : ∀ i, i < n → W 41 i = t i) : MS W (sT A n t) := by
  obtain ⟨h1, h2, h3, h4, h5, h6⟩ := h
  unfold MS
  rw [e1 35 (by omega) (by omega), e1 39 (by omega) (by omega), e1 38 (by omega) (by omega), e1 40 (by omega) (by omega), e0 6 (by omega), e0 7 (by omega)]
  exact ⟨h1, h2, h3, ⟨e2, e3⟩, h5, h6⟩

set_option maxRecDepth 20000 in
set_option maxHeartbeats 4000000 in
theorem b_type (G : Wd) (Z : ZS) (A : AS) (B : Int) (hM : MS Z A) (hA : AO B A) (c : Int) (hc : -2147483648 ≤ c ∧ c ≤ 2147483647) : Cn G mX11_type 0 [some (.ref 34), some (iv (c))] [] Z (qi (fun r W => (xType A c).1 = r ∧ MS W (xType A c).2 ∧ FC Z W)) := by
  have hb0 := hA.1
  have hO := hA.2.1
  have h6 : 0 ≤ A.1 6 ∧ A.1 6 ≤ 7 := hO.2.1
  have h28 : 0 ≤ A.1 28 ∧ A.1 28 ≤ 6 := hO.2.2.2.1
  have h59 : 0 ≤ A.1 59 ∧ A.1 59 ≤ 8 := hO.2.2.2.2.2.1
  have hf := hO.1
  unfold FO at hf
  have hct := hA.2.2.2.2.2.2
  have ht := hM.2.2.2.1
  have hto := hA.2.2.2.2.1
  refine cz_iload_n (pc' := 1) (g_d dtbX11_type_0 0 rfl) rfl rfl ?_
  refine nz_iconst (pc' := 2) (g_d dtbX11_type_0 1 rfl) rfl ?_
  refine nz_bipush (pc' := 4) (g_d dtbX11_type_0 2 rfl) (by decide) rfl ?_
  refine nz_cSi (M' := mX11_in) (As := [iv (c), iv 0, iv 127]) (S := []) (L := [some (.ref 34), some (iv (c))]) (pc' := 7) (g_d dtbX11_type_0 3 rfl) lk_X11_40 okX11_in rfl rfl (Nat.le_of_ble_eq_true rfl) (Nat.le_of_ble_eq_true rfl) (by decide) rfl (m_in G Z c 0 127 (by omega) (by omega) (by omega)) ?_
  rintro _ _ ⟨rfl, ⟨rfl, hw4⟩ | ⟨rfl, hw4⟩⟩
  · refine nz_if_ne_t (tgt := 15) (g_d dtbX11_type_0 4 rfl) (by omega) rfl (by omega) ?_
    refine cz_aload_n (pc' := 16) (g_d dtbX11_type_0 8 rfl) rfl rfl ?_
    refine nz_getf (v := iv ((A.2.2.2.1.1 : Int))) (pc' := 19) (g_d dtbX11_type_0 9 rfl) gf_X11_55 (by decide) rfl (congrArg iv (by simp [zu, ht.1])) rfl ?_
    refine nz_sipush (pc' := 22) (g_d dtbX11_type_0 10 rfl) (by decide) rfl ?_
    refine nz_icmp_ne (tgt := 30) (pc' := 25) (g_d dtbX11_type_0 11 rfl) (by omega) (by omega) rfl rfl (fun h22 => ?_) (fun h22 => ?_)
    · refine cz_aload_n (pc' := 31) (g_d dtbX11_type_0 15 rfl) rfl rfl ?_
      refine nz_getf (v := .ref 41) (pc' := 34) (g_d dtbX11_type_0 16 rfl) gf_X11_33 (by decide) rfl rfl rfl ?_
      refine cz_aload_n (pc' := 35) (g_d dtbX11_type_0 17 rfl) rfl rfl ?_
      refine nz_getf (v := iv ((A.2.2.2.1.1 : Int))) (pc' := 38) (g_d dtbX11_type_0 18 rfl) gf_X11_55 (by decide) rfl (congrArg iv (by simp [zu, ht.1])) rfl ?_
      refine cz_iload_n (pc' := 39) (g_d dtbX11_type_0 19 rfl) rfl rfl ?_
      refine nz_iast A.2.2.2.1.1 (pc' := 40) (g_d dtbX11_type_0 20 rfl) (by decide) rfl (by omega) (by rfl) (by omega) rfl ?_
      refine cz_aload_n (pc' := 41) (g_d dtbX11_type_0 21 rfl) rfl rfl ?_
      refine cz_dup (pc' := 42) (g_d dtbX11_type_0 22 rfl) rfl rfl ?_
      refine nz_getf (v := iv ((A.2.2.2.1.1 : Int))) (pc' := 45) (g_d dtbX11_type_0 23 rfl) gf_X11_55 (by decide) rfl (congrArg iv (by simp [zu, ht.1])) rfl ?_
      refine nz_iconst (pc' := 46) (g_d dtbX11_type_0 24 rfl) rfl ?_
      refine nz_iadd (pc' := 47) (g_d dtbX11_type_0 25 rfl) rfl ?_
      refine nz_puti (pc' := 50) (g_d dtbX11_type_0 26 rfl) pf_X11_55 rfl (by decide) rfl rfl ?_
      refine cz_aload_n (pc' := 51) (g_d dtbX11_type_0 27 rfl) rfl rfl ?_
      refine nz_getf (v := iv (((A.2.2.2.1.1 : Int)) + 1)) (pc' := 54) (g_d dtbX11_type_0 28 rfl) gf_X11_55 (by decide) rfl (congrArg iv (by simp [zu, zr])) rfl ?_
      refine nz_ri .int (g_d dtbX11_type_0 29 rfl) rfl rfl ?_
      rw [show xType A c = ((A.2.2.2.1.1 : Int) + 1, sT A (A.2.2.2.1.1 + 1) (ru A.2.2.2.1.2 A.2.2.2.1.1 c)) from by unfold xType; rw [if_pos (by omega), if_neg (by omega)]]
      exact ⟨rfl, hM.text (fun a ha hb => by rw [zu_row (by omega), zu_row (by omega)]) (fun j hj => by rw [zu_ne (by omega), zu_row (by omega)]) (by rw [zu_eq]; rfl) (fun i hi => by rw [zu_row (by omega)]; exact (Decidable.em (i = A.2.2.2.1.1)).elim (fun q => by rw [q, zu_eq, ru_eq]) (fun q => by rw [zu_ne (Or.inr q), ru_ne q]; exact ht.2 i (by omega))), FC.u (FC.u FC.rf (by decide)) (by decide)⟩
    · refine cz_aload_n (pc' := 26) (g_d dtbX11_type_0 12 rfl) rfl rfl ?_
      refine nz_cVi (M' := mX11_full) (k := 34) (As := []) (S := []) (L := [some (.ref 34), some (iv (c))]) (pc' := 29) (g_d dtbX11_type_0 13 rfl) lk_X11_48 okX11_full (by decide) rfl rfl rfl rfl (Nat.le_of_ble_eq_true rfl) (Nat.le_of_ble_eq_true rfl) (by decide) rfl (m_full G Z) ?_
      rintro _ _ ⟨rfl, rfl⟩
      refine nz_ri .int (g_d dtbX11_type_0 14 rfl) rfl rfl ?_
      rw [show xType A c = (-4, aFull A) from by unfold xType; rw [if_pos (by omega), if_pos (by omega)]]
      exact ⟨rfl, ms_full hM, (FC.u FC.rf (by decide))⟩
  · refine nz_if_ne_f (pc' := 10) (g_d dtbX11_type_0 4 rfl) (by omega) (by decide) rfl (by omega) ?_
    refine cz_aload_n (pc' := 11) (g_d dtbX11_type_0 5 rfl) rfl rfl ?_
    refine nz_cVi (M' := mX11_bad) (k := 34) (As := []) (S := []) (L := [some (.ref 34), some (iv (c))]) (pc' := 14) (g_d dtbX11_type_0 6 rfl) lk_X11_44 okX11_bad (by decide) rfl rfl rfl rfl (Nat.le_of_ble_eq_true rfl) (Nat.le_of_ble_eq_true rfl) (by decide) rfl (m_bad G Z) ?_
    rintro _ _ ⟨rfl, rfl⟩
    refine nz_ri .int (g_d dtbX11_type_0 7 rfl) rfl rfl ?_
    rw [show xType A c = (-2, aBad A) from by unfold xType; rw [if_neg (by omega)]]
    exact ⟨rfl, ms_bad hM, (FC.u FC.rf (by decide))⟩

set_option maxRecDepth 20000 in
set_option maxHeartbeats 4000000 in
theorem b_clear (G : Wd) (Z : ZS) (A : AS) (B : Int) (hM : MS Z A) (hA : AO B A) : Cn G mX11_clear 0 [some (.ref 34), none] [] Z (qi (fun r W => (xClear A).1 = r ∧ MS W (xClear A).2 ∧ FC Z W)) := by
  have hb0 := hA.1
  have hO := hA.2.1
  have h6 : 0 ≤ A.1 6 ∧ A.1 6 ≤ 7 := hO.2.1
  have h28 : 0 ≤ A.1 28 ∧ A.1 28 ≤ 6 := hO.2.2.2.1
  have h59 : 0 ≤ A.1 59 ∧ A.1 59 ≤ 8 := hO.2.2.2.2.2.1
  have hf := hO.1
  unfold FO at hf
  have hct := hA.2.2.2.2.2.2
  have ht := hM.2.2.2.1
  have hto := hA.2.2.2.2.1
  refine cz_aload_n (pc' := 1) (g_d dtbX11_clear_0 0 rfl) rfl rfl ?_
  refine nz_getf (v := iv ((A.2.2.2.1.1 : Int))) (pc' := 4) (g_d dtbX11_clear_0 1 rfl) gf_X11_55 (by decide) rfl (congrArg iv (by simp [zu, ht.1])) rfl ?_
  refine cz_istore_n (L' := [some (.ref 34), some (iv ((A.2.2.2.1.1 : Int)))]) (pc' := 5) (g_d dtbX11_clear_0 2 rfl) (by decide) rfl rfl ?_
  refine cz_aload_n (pc' := 6) (g_d dtbX11_clear_0 3 rfl) rfl rfl ?_
  refine nz_iconst (pc' := 7) (g_d dtbX11_clear_0 4 rfl) rfl ?_
  refine nz_puti (pc' := 10) (g_d dtbX11_clear_0 5 rfl) pf_X11_55 rfl (by decide) rfl rfl ?_
  refine cz_iload_n (pc' := 11) (g_d dtbX11_clear_0 6 rfl) rfl rfl ?_
  refine nz_ri .int (g_d dtbX11_clear_0 7 rfl) rfl rfl ?_
  exact ⟨rfl, hM.text (fun a ha hb => zu_row (by omega)) (fun j hj => zu_ne (by omega)) zu_eq (fun i hi => absurd hi (Nat.not_lt_zero i)), FC.u FC.rf (by decide)⟩

set_option maxRecDepth 20000 in
set_option maxHeartbeats 4000000 in
theorem k_days (G : Wd) (Z : ZS) (f : Row) (B c0 : Int) (N : Nat) (hR : RO B f) (hB4 : 4000 ≤ B) (hBB : B + 700000 ≤ 60000000) (hN : N ≤ 99) : ∀ (d : Nat) (i : Nat), N - i = d → (i ≤ N) → Cn G mX11_days 28 [some (.ref 34), some (iv ((N : Int))), some (iv (c0)), some (iv ((i : Int)))] [] (zr Z 35 (rDs f i)) (qi (fun r V => rDs f N 2 - c0 = r ∧ zr Z 35 (rDs f N) = V)) := by
  intro d
  induction d using Nat.strongRecOn with
  | ind d ih =>
    intro i hd hi
    have hRi := ro_ds hR i
    refine cz_iload_n (pc' := 29) (g_d dtbX11_days_0 17 rfl) rfl rfl ?_
    refine cz_iload_n (pc' := 30) (g_d dtbX11_days_0 18 rfl) rfl rfl ?_
    refine nz_icmp_ge (tgt := 81) (pc' := 33) (g_d dtbX11_days_0 19 rfl) (by omega) (by omega) rfl rfl (fun h30 => ?_) (fun h30 => ?_)
    · refine cz_aload_n (pc' := 82) (g_d dtbX11_days_0 45 rfl) rfl rfl ?_
      refine nz_getf (v := .ref 35) (pc' := 85) (g_d dtbX11_days_0 46 rfl) gf_X11_7 (by decide) rfl rfl rfl ?_
      refine nz_iconst (pc' := 86) (g_d dtbX11_days_0 47 rfl) rfl ?_
      refine nz_iald 2 (pc' := 87) (g_d dtbX11_days_0 48 rfl) (by decide) rfl (by omega) (by rfl) (by omega) rfl ?_
      rw [show (zr Z 35 (rDs f i)) 35 2 = (rDs f i) 2 from by simp [zu, zr, ru]]
      refine cz_iload_n (pc' := 88) (g_d dtbX11_days_0 49 rfl) rfl rfl ?_
      refine nz_isub (pc' := 89) (g_d dtbX11_days_0 50 rfl) rfl ?_
      refine nz_ri .int (g_d dtbX11_days_0 51 rfl) rfl rfl ?_
      rw [show i = N by omega]; exact ⟨rfl, rfl⟩
    · refine cz_aload_n (pc' := 34) (g_d dtbX11_days_0 20 rfl) rfl rfl ?_
      refine nz_getf (v := .ref 35) (pc' := 37) (g_d dtbX11_days_0 21 rfl) gf_X11_7 (by decide) rfl rfl rfl ?_
      refine cz_aload_n (pc' := 38) (g_d dtbX11_days_0 22 rfl) rfl rfl ?_
      refine nz_getf (v := .ref 35) (pc' := 41) (g_d dtbX11_days_0 23 rfl) gf_X11_7 (by decide) rfl rfl rfl ?_
      refine nz_iconst (pc' := 42) (g_d dtbX11_days_0 24 rfl) rfl ?_
      refine nz_iald 5 (pc' := 43) (g_d dtbX11_days_0 25 rfl) (by decide) rfl (by omega) (by rfl) (by omega) rfl ?_
      rw [show (zr Z 35 (rDs f i)) 35 5 = (rDs f i) 5 from by simp [zu, zr, ru]]
      refine nz_cSv (M' := mX11_goBy) (As := [.ref 35, iv ((rDs f i) 5)]) (S := []) (L := [some (.ref 34), some (iv ((N : Int))), some (iv (c0)), some (iv ((i : Int)))]) (pc' := 46) (g_d dtbX11_days_0 26 rfl) lk_X11_132 okX11_goBy rfl rfl (Nat.le_of_ble_eq_true rfl) (Nat.le_of_ble_eq_true rfl) (by decide) rfl (m_goBy G Z (rDs f i) (B + 7000 * (i : Int)) (rDs f i 5) 35 (by decide) rfl (hRi.tr (by omega)) (by omega) (by have := hRi.1.2.2.2.2.2; omega)) ?_
      rintro _ rfl
      rw [show rGo (rDs f i) (rDs f i 5) = rDs f (i + 1) from rfl]
      have hRn := ro_ds hR (i + 1)
      have h4n := hRn.1.2.2.2.2.1
      have h3n := hRn.1.2.2.2.1
      push_cast at h4n
      refine cz_aload_n (pc' := 47) (g_d dtbX11_days_0 27 rfl) rfl rfl ?_
      refine nz_getf (v := .ref 35) (pc' := 50) (g_d dtbX11_days_0 28 rfl) gf_X11_7 (by decide) rfl rfl rfl ?_
      refine nz_iconst (pc' := 51) (g_d dtbX11_days_0 29 rfl) rfl ?_
      refine nz_iald 4 (pc' := 52) (g_d dtbX11_days_0 30 rfl) (by decide) rfl (by omega) (by rfl) (by omega) rfl ?_
      rw [show (zr Z 35 (rDs f (i + 1))) 35 4 = (rDs f (i + 1)) 4 from by simp [zu, zr, ru]]
      refine nz_sipush (pc' := 55) (g_d dtbX11_days_0 31 rfl) (by decide) rfl ?_
      refine nz_icmp_le_t (tgt := 75) (g_d dtbX11_days_0 32 rfl) (by omega) (by omega) rfl (by omega) ?_
      refine nz_iinc (L' := [some (.ref 34), some (iv ((N : Int))), some (iv (c0)), some (iv (((i : Int)) + 1))]) (pc' := 78) (g_d dtbX11_days_0 43 rfl) (by decide) rfl rfl rfl ?_
      refine cz_goto (pc' := 28) (g_d dtbX11_days_0 44 rfl) rfl ?_
      exact ih (N - (i + 1)) (by omega) (i + 1) rfl (by omega)

set_option maxRecDepth 20000 in
set_option maxHeartbeats 4000000 in
theorem b_days (G : Wd) (Z : ZS) (A : AS) (B : Int) (hM : MS Z A) (hA : AO B A) (n : Int) (hn : -2147483648 ≤ n ∧ n ≤ 2147483647) (hbb : B + 700000 ≤ 60000000) : Cn G mX11_days 0 [some (.ref 34), some (iv (n)), none, none] [] Z (qi (fun r W => (xDays A n).1 = r ∧ MS W (xDays A n).2 ∧ FC Z W)) := by
  have hb0 := hA.1
  have hO := hA.2.1
  have h6 : 0 ≤ A.1 6 ∧ A.1 6 ≤ 7 := hO.2.1
  have h28 : 0 ≤ A.1 28 ∧ A.1 28 ≤ 6 := hO.2.2.2.1
  have h59 : 0 ≤ A.1 59 ∧ A.1 59 ≤ 8 := hO.2.2.2.2.2.1
  have hf := hO.1
  unfold FO at hf
  have hct := hA.2.2.2.2.2.2
  refine nz_st (zr_self hM.1) ?_
  refine cz_iload_n (pc' := 1) (g_d dtbX11_days_0 0 rfl) rfl rfl ?_
  refine nz_iconst (pc' := 2) (g_d dtbX11_days_0 1 rfl) rfl ?_
  refine nz_bipush (pc' := 4) (g_d dtbX11_days_0 2 rfl) (by decide) rfl ?_
  refine nz_cSi (M' := mX11_in) (As := [iv (n), iv 1, iv 99]) (S := []) (L := [some (.ref 34), some (iv (n)), none, none]) (pc' := 7) (g_d dtbX11_days_0 3 rfl) lk_X11_40 okX11_in rfl rfl (Nat.le_of_ble_eq_true rfl) (Nat.le_of_ble_eq_true rfl) (by decide) rfl (m_in G (zr Z 35 A.1) n 1 99 (by omega) (by omega) (by omega)) ?_
  rintro _ _ ⟨rfl, ⟨rfl, hw4⟩ | ⟨rfl, hw4⟩⟩
  · refine nz_if_ne_t (tgt := 15) (g_d dtbX11_days_0 4 rfl) (by omega) rfl (by omega) ?_
    refine cz_aload_n (pc' := 16) (g_d dtbX11_days_0 8 rfl) rfl rfl ?_
    refine nz_cVv (M' := mX11_keepBack) (k := 34) (As := []) (S := []) (L := [some (.ref 34), some (iv (n)), none, none]) (pc' := 19) (g_d dtbX11_days_0 9 rfl) lk_X11_129 okX11_keepBack (by decide) rfl rfl rfl rfl (Nat.le_of_ble_eq_true rfl) (Nat.le_of_ble_eq_true rfl) (by decide) rfl (m_keepBack G Z A.1 h59) ?_
    rintro _ rfl
    refine cz_aload_n (pc' := 20) (g_d dtbX11_days_0 10 rfl) rfl rfl ?_
    refine nz_getf (v := .ref 35) (pc' := 23) (g_d dtbX11_days_0 11 rfl) gf_X11_7 (by decide) rfl rfl rfl ?_
    refine nz_iconst (pc' := 24) (g_d dtbX11_days_0 12 rfl) rfl ?_
    refine nz_iald 2 (pc' := 25) (g_d dtbX11_days_0 13 rfl) (by decide) rfl (by omega) (by rfl) (by omega) rfl ?_
    rw [show (zr Z 35 (rKeep A.1)) 35 2 = A.1 2 from by rw [zr_eq]; exact rKeep_lo (by decide)]
    refine cz_istore_n (L' := [some (.ref 34), some (iv (n)), some (iv (A.1 2)), none]) (pc' := 26) (g_d dtbX11_days_0 14 rfl) (by decide) rfl rfl ?_
    refine nz_iconst (pc' := 27) (g_d dtbX11_days_0 15 rfl) rfl ?_
    refine cz_istore_n (L' := [some (.ref 34), some (iv (n)), some (iv (A.1 2)), some (iv 0)]) (pc' := 28) (g_d dtbX11_days_0 16 rfl) (by decide) rfl rfl ?_
    obtain ⟨N, rfl⟩ : ∃ N : Nat, n = (N : Int) := ⟨n.toNat, by omega⟩
    rw [show xDays A (N : Int) = (rDs (rKeep A.1) N 2 - A.1 2, sF A (rDs (rKeep A.1) N)) from if_pos (by omega)]
    refine nz_wi (k_days G Z (rKeep A.1) B (A.1 2) N (ro_keep hO) (by omega) hbb (by omega) (N - 0) 0 rfl (by omega)) (fun r W h => ⟨h.1, h.2 ▸ hM.row, h.2 ▸ (FC.r FC.rf (by decide))⟩)
  · refine nz_if_ne_f (pc' := 10) (g_d dtbX11_days_0 4 rfl) (by omega) (by decide) rfl (by omega) ?_
    refine cz_aload_n (pc' := 11) (g_d dtbX11_days_0 5 rfl) rfl rfl ?_
    refine nz_cVi (M' := mX11_bad) (k := 34) (As := []) (S := []) (L := [some (.ref 34), some (iv (n)), none, none]) (pc' := 14) (g_d dtbX11_days_0 6 rfl) lk_X11_44 okX11_bad (by decide) rfl rfl rfl rfl (Nat.le_of_ble_eq_true rfl) (Nat.le_of_ble_eq_true rfl) (by decide) rfl (m_bad G (zr Z 35 A.1)) ?_
    rintro _ _ ⟨rfl, rfl⟩
    refine nz_ri .int (g_d dtbX11_days_0 7 rfl) rfl rfl ?_
    rw [show xDays A n = (-2, aBad A) from by unfold xDays; rw [if_neg (by omega)]]
    exact ⟨rfl, ms_bad hM.row, (FC.u (FC.r FC.rf (by decide)) (by decide))⟩

set_option maxRecDepth 20000 in
set_option maxHeartbeats 4000000 in
theorem b_spend (G : Wd) (Z : ZS) (A : AS) (B : Int) (hM : MS Z A) (hA : AO B A) (n : Int) (hn : -2147483648 ≤ n ∧ n ≤ 2147483647) : Cn G mX11_spend 0 [some (.ref 34), some (iv (n)), none] [] Z (qi (fun r W => (xSpend A n).1 = r ∧ MS W (xSpend A n).2 ∧ FC Z W)) := by
  have hb0 := hA.1
  have hO := hA.2.1
  have h6 : 0 ≤ A.1 6 ∧ A.1 6 ≤ 7 := hO.2.1
  have h28 : 0 ≤ A.1 28 ∧ A.1 28 ≤ 6 := hO.2.2.2.1
  have h59 : 0 ≤ A.1 59 ∧ A.1 59 ≤ 8 := hO.2.2.2.2.2.1
  have hf := hO.1
  unfold FO at hf
  have hct := hA.2.2.2.2.2.2
  refine nz_st (zr_self hM.1) ?_
  refine cz_iload_n (pc' := 1) (g_d dtbX11_spend_0 0 rfl) rfl rfl ?_
  refine nz_iconst (pc' := 2) (g_d dtbX11_spend_0 1 rfl) rfl ?_
  refine nz_bipush (pc' := 4) (g_d dtbX11_spend_0 2 rfl) (by decide) rfl ?_
  refine nz_cSi (M' := mX11_in) (As := [iv (n), iv 0, iv 30]) (S := []) (L := [some (.ref 34), some (iv (n)), none]) (pc' := 7) (g_d dtbX11_spend_0 3 rfl) lk_X11_40 okX11_in rfl rfl (Nat.le_of_ble_eq_true rfl) (Nat.le_of_ble_eq_true rfl) (by decide) rfl (m_in G (zr Z 35 A.1) n 0 30 (by omega) (by omega) (by omega)) ?_
  rintro _ _ ⟨rfl, ⟨rfl, hw4⟩ | ⟨rfl, hw4⟩⟩
  · refine nz_if_ne_t (tgt := 15) (g_d dtbX11_spend_0 4 rfl) (by omega) rfl (by omega) ?_
    refine cz_aload_n (pc' := 16) (g_d dtbX11_spend_0 8 rfl) rfl rfl ?_
    refine nz_cVv (M' := mX11_keepBack) (k := 34) (As := []) (S := []) (L := [some (.ref 34), some (iv (n)), none]) (pc' := 19) (g_d dtbX11_spend_0 9 rfl) lk_X11_129 okX11_keepBack (by decide) rfl rfl rfl rfl (Nat.le_of_ble_eq_true rfl) (Nat.le_of_ble_eq_true rfl) (by decide) rfl (m_keepBack G Z A.1 h59) ?_
    rintro _ rfl
    refine cz_aload_n (pc' := 20) (g_d dtbX11_spend_0 10 rfl) rfl rfl ?_
    refine nz_getf (v := .ref 35) (pc' := 23) (g_d dtbX11_spend_0 11 rfl) gf_X11_7 (by decide) rfl rfl rfl ?_
    refine nz_iconst (pc' := 24) (g_d dtbX11_spend_0 12 rfl) rfl ?_
    refine nz_iald 5 (pc' := 25) (g_d dtbX11_spend_0 13 rfl) (by decide) rfl (by omega) (by rfl) (by omega) rfl ?_
    rw [show (zr Z 35 (rKeep A.1)) 35 5 = A.1 5 from by rw [zr_eq]; exact rKeep_lo (by decide)]
    refine cz_istore_n (L' := [some (.ref 34), some (iv (n)), some (iv (A.1 5))]) (pc' := 26) (g_d dtbX11_spend_0 14 rfl) (by decide) rfl rfl ?_
    refine cz_aload_n (pc' := 27) (g_d dtbX11_spend_0 15 rfl) rfl rfl ?_
    refine nz_getf (v := .ref 35) (pc' := 30) (g_d dtbX11_spend_0 16 rfl) gf_X11_7 (by decide) rfl rfl rfl ?_
    refine nz_iconst (pc' := 31) (g_d dtbX11_spend_0 17 rfl) rfl ?_
    refine cz_iload_n (pc' := 32) (g_d dtbX11_spend_0 18 rfl) rfl rfl ?_
    refine nz_iast 5 (pc' := 33) (g_d dtbX11_spend_0 19 rfl) (by decide) rfl (by omega) (by rfl) (by omega) rfl ?_
    rw [zr_ru]
    refine cz_iload_n (pc' := 34) (g_d dtbX11_spend_0 20 rfl) rfl rfl ?_
    refine nz_ri .int (g_d dtbX11_spend_0 21 rfl) rfl rfl ?_
    rw [show xSpend A n = (A.1 5, sF A (ru (rKeep A.1) 5 n)) from if_pos (by omega)]
    exact ⟨rfl, hM.row, (FC.r FC.rf (by decide))⟩
  · refine nz_if_ne_f (pc' := 10) (g_d dtbX11_spend_0 4 rfl) (by omega) (by decide) rfl (by omega) ?_
    refine cz_aload_n (pc' := 11) (g_d dtbX11_spend_0 5 rfl) rfl rfl ?_
    refine nz_cVi (M' := mX11_bad) (k := 34) (As := []) (S := []) (L := [some (.ref 34), some (iv (n)), none]) (pc' := 14) (g_d dtbX11_spend_0 6 rfl) lk_X11_44 okX11_bad (by decide) rfl rfl rfl rfl (Nat.le_of_ble_eq_true rfl) (Nat.le_of_ble_eq_true rfl) (by decide) rfl (m_bad G (zr Z 35 A.1)) ?_
    rintro _ _ ⟨rfl, rfl⟩
    refine nz_ri .int (g_d dtbX11_spend_0 7 rfl) rfl rfl ?_
    rw [show xSpend A n = (-2, aBad A) from by unfold xSpend; rw [if_neg (by omega)]]
    exact ⟨rfl, ms_bad hM.row, (FC.u (FC.r FC.rf (by decide)) (by decide))⟩

set_option maxRecDepth 20000 in
set_option maxHeartbeats 4000000 in
theorem b_jar (G : Wd) (Z : ZS) (A : AS) (B : Int) (hM : MS Z A) (hA : AO B A) (n : Int) (hn : -2147483648 ≤ n ∧ n ≤ 2147483647) : Cn G mX11_jar 0 [some (.ref 34), some (iv (n))] [] Z (qi (fun r W => (xJar A n).1 = r ∧ MS W (xJar A n).2 ∧ FC Z W)) := by
  have hb0 := hA.1
  have hO := hA.2.1
  have h6 : 0 ≤ A.1 6 ∧ A.1 6 ≤ 7 := hO.2.1
  have h28 : 0 ≤ A.1 28 ∧ A.1 28 ≤ 6 := hO.2.2.2.1
  have h59 : 0 ≤ A.1 59 ∧ A.1 59 ≤ 8 := hO.2.2.2.2.2.1
  have hf := hO.1
  unfold FO at hf
  have hct := hA.2.2.2.2.2.2
  refine nz_st (zr_self hM.1) ?_
  refine cz_iload_n (pc' := 1) (g_d dtbX11_jar_0 0 rfl) rfl rfl ?_
  refine nz_bipush (pc' := 3) (g_d dtbX11_jar_0 1 rfl) (by decide) rfl ?_
  refine nz_bipush (pc' := 5) (g_d dtbX11_jar_0 2 rfl) (by decide) rfl ?_
  refine nz_cSi (M' := mX11_in) (As := [iv (n), iv (-99), iv 99]) (S := []) (L := [some (.ref 34), some (iv (n))]) (pc' := 8) (g_d dtbX11_jar_0 3 rfl) lk_X11_40 okX11_in rfl rfl (Nat.le_of_ble_eq_true rfl) (Nat.le_of_ble_eq_true rfl) (by decide) rfl (m_in G (zr Z 35 A.1) n (-99) 99 (by omega) (by omega) (by omega)) ?_
  rintro _ _ ⟨rfl, ⟨rfl, hw5⟩ | ⟨rfl, hw5⟩⟩
  · refine nz_if_ne_t (tgt := 16) (g_d dtbX11_jar_0 4 rfl) (by omega) rfl (by omega) ?_
    refine cz_aload_n (pc' := 17) (g_d dtbX11_jar_0 8 rfl) rfl rfl ?_
    refine nz_getf (v := .ref 35) (pc' := 20) (g_d dtbX11_jar_0 9 rfl) gf_X11_7 (by decide) rfl rfl rfl ?_
    refine nz_iconst (pc' := 21) (g_d dtbX11_jar_0 10 rfl) rfl ?_
    refine nz_iald 1 (pc' := 22) (g_d dtbX11_jar_0 11 rfl) (by decide) rfl (by omega) (by rfl) (by omega) rfl ?_
    rw [show (zr Z 35 A.1) 35 1 = A.1 1 from by simp [zu, zr, ru]]
    refine cz_iload_n (pc' := 23) (g_d dtbX11_jar_0 12 rfl) rfl rfl ?_
    refine nz_iadd (pc' := 24) (g_d dtbX11_jar_0 13 rfl) rfl ?_
    refine nz_if_lt (tgt := 42) (pc' := 27) (g_d dtbX11_jar_0 14 rfl) (by omega) rfl rfl (fun h24 => ?_) (fun h24 => ?_)
    · refine cz_aload_n (pc' := 43) (g_d dtbX11_jar_0 24 rfl) rfl rfl ?_
      refine nz_cVi (M' := mX11_no) (k := 34) (As := []) (S := []) (L := [some (.ref 34), some (iv (n))]) (pc' := 46) (g_d dtbX11_jar_0 25 rfl) lk_X11_136 okX11_no (by decide) rfl rfl rfl rfl (Nat.le_of_ble_eq_true rfl) (Nat.le_of_ble_eq_true rfl) (by decide) rfl (m_no G (zr Z 35 A.1)) ?_
      rintro _ _ ⟨rfl, rfl⟩
      refine nz_ri .int (g_d dtbX11_jar_0 26 rfl) rfl rfl ?_
      rw [show xJar A n = (-3, aNo A) from by unfold xJar; rw [if_pos (by omega), if_pos (by omega)]]
      exact ⟨rfl, ms_no hM.row, (FC.u (FC.r FC.rf (by decide)) (by decide))⟩
    · refine cz_iload_n (pc' := 28) (g_d dtbX11_jar_0 15 rfl) rfl rfl ?_
      refine nz_if_le (tgt := 47) (pc' := 31) (g_d dtbX11_jar_0 16 rfl) (by omega) rfl rfl (fun h28 => ?_) (fun h28 => ?_)
      · refine cz_aload_n (pc' := 48) (g_d dtbX11_jar_0 27 rfl) rfl rfl ?_
        refine nz_cVv (M' := mX11_keepBack) (k := 34) (As := []) (S := []) (L := [some (.ref 34), some (iv (n))]) (pc' := 51) (g_d dtbX11_jar_0 28 rfl) lk_X11_129 okX11_keepBack (by decide) rfl rfl rfl rfl (Nat.le_of_ble_eq_true rfl) (Nat.le_of_ble_eq_true rfl) (by decide) rfl (m_keepBack G Z A.1 h59) ?_
        rintro _ rfl
        refine cz_aload_n (pc' := 52) (g_d dtbX11_jar_0 29 rfl) rfl rfl ?_
        refine nz_getf (v := .ref 35) (pc' := 55) (g_d dtbX11_jar_0 30 rfl) gf_X11_7 (by decide) rfl rfl rfl ?_
        refine nz_iconst (pc' := 56) (g_d dtbX11_jar_0 31 rfl) rfl ?_
        refine cz_dup2 (pc' := 57) (g_d dtbX11_jar_0 32 rfl) rfl rfl rfl ?_
        refine nz_iald 1 (pc' := 58) (g_d dtbX11_jar_0 33 rfl) (by decide) rfl (by omega) (by rfl) (by omega) rfl ?_
        rw [show (zr Z 35 (rKeep A.1)) 35 1 = A.1 1 from by rw [zr_eq]; exact rKeep_lo (by decide)]
        refine cz_iload_n (pc' := 59) (g_d dtbX11_jar_0 34 rfl) rfl rfl ?_
        refine nz_iadd (pc' := 60) (g_d dtbX11_jar_0 35 rfl) rfl ?_
        refine nz_iast 1 (pc' := 61) (g_d dtbX11_jar_0 36 rfl) (by decide) rfl (by omega) (by rfl) (by omega) rfl ?_
        rw [zr_ru]
        refine cz_aload_n (pc' := 62) (g_d dtbX11_jar_0 37 rfl) rfl rfl ?_
        refine nz_getf (v := .ref 35) (pc' := 65) (g_d dtbX11_jar_0 38 rfl) gf_X11_7 (by decide) rfl rfl rfl ?_
        refine nz_iconst (pc' := 66) (g_d dtbX11_jar_0 39 rfl) rfl ?_
        refine cz_dup2 (pc' := 67) (g_d dtbX11_jar_0 40 rfl) rfl rfl rfl ?_
        refine nz_iald 0 (pc' := 68) (g_d dtbX11_jar_0 41 rfl) (by decide) rfl (by omega) (by rfl) (by omega) rfl ?_
        rw [show (zr Z 35 (ru (rKeep A.1) 1 ((A.1 1) + n))) 35 0 = A.1 0 from by rw [zr_eq, ru_ne (by decide)]; exact rKeep_lo (by decide)]
        refine cz_iload_n (pc' := 69) (g_d dtbX11_jar_0 42 rfl) rfl rfl ?_
        refine nz_isub (pc' := 70) (g_d dtbX11_jar_0 43 rfl) rfl ?_
        refine nz_iast 0 (pc' := 71) (g_d dtbX11_jar_0 44 rfl) (by decide) rfl (by omega) (by rfl) (by omega) rfl ?_
        rw [zr_ru]
        refine cz_aload_n (pc' := 72) (g_d dtbX11_jar_0 45 rfl) rfl rfl ?_
        refine nz_getf (v := .ref 35) (pc' := 75) (g_d dtbX11_jar_0 46 rfl) gf_X11_7 (by decide) rfl rfl rfl ?_
        refine nz_iconst (pc' := 76) (g_d dtbX11_jar_0 47 rfl) rfl ?_
        refine nz_iald 1 (pc' := 77) (g_d dtbX11_jar_0 48 rfl) (by decide) rfl (by omega) (by rfl) (by omega) rfl ?_
        rw [show (zr Z 35 (ru (ru (rKeep A.1) 1 ((A.1 1) + n)) 0 ((A.1 0) - n))) 35 1 = (A.1 1) + n from by simp [zu, zr, ru]]
        refine nz_ri .int (g_d dtbX11_jar_0 49 rfl) rfl rfl ?_
        rw [show xJar A n = (A.1 1 + n, sF A (ru (ru (rKeep A.1) 0 (A.1 0 - n)) 1 (A.1 1 + n))) from by unfold xJar; rw [if_pos (by omega), if_neg (by omega)]]
        exact ⟨rfl, (show ru (ru (rKeep A.1) 0 (A.1 0 - n)) 1 (A.1 1 + n) = ru (ru (rKeep A.1) 1 (A.1 1 + n)) 0 (A.1 0 - n) from by funext j; unfold ru; (repeat' split) <;> first | rfl | omega) ▸ hM.row, (FC.r FC.rf (by decide))⟩
      · refine cz_aload_n (pc' := 32) (g_d dtbX11_jar_0 17 rfl) rfl rfl ?_
        refine nz_getf (v := .ref 35) (pc' := 35) (g_d dtbX11_jar_0 18 rfl) gf_X11_7 (by decide) rfl rfl rfl ?_
        refine nz_iconst (pc' := 36) (g_d dtbX11_jar_0 19 rfl) rfl ?_
        refine nz_iald 0 (pc' := 37) (g_d dtbX11_jar_0 20 rfl) (by decide) rfl (by omega) (by rfl) (by omega) rfl ?_
        rw [show (zr Z 35 A.1) 35 0 = A.1 0 from by simp [zu, zr, ru]]
        refine cz_iload_n (pc' := 38) (g_d dtbX11_jar_0 21 rfl) rfl rfl ?_
        refine nz_isub (pc' := 39) (g_d dtbX11_jar_0 22 rfl) rfl ?_
        refine nz_if_ge (tgt := 47) (pc' := 42) (g_d dtbX11_jar_0 23 rfl) (by omega) rfl rfl (fun h39 => ?_) (fun h39 => ?_)
        · refine cz_aload_n (pc' := 48) (g_d dtbX11_jar_0 27 rfl) rfl rfl ?_
          refine nz_cVv (M' := mX11_keepBack) (k := 34) (As := []) (S := []) (L := [some (.ref 34), some (iv (n))]) (pc' := 51) (g_d dtbX11_jar_0 28 rfl) lk_X11_129 okX11_keepBack (by decide) rfl rfl rfl rfl (Nat.le_of_ble_eq_true rfl) (Nat.le_of_ble_eq_true rfl) (by decide) rfl (m_keepBack G Z A.1 h59) ?_
          rintro _ rfl
          refine cz_aload_n (pc' := 52) (g_d dtbX11_jar_0 29 rfl) rfl rfl ?_
          refine nz_getf (v := .ref 35) (pc' := 55) (g_d dtbX11_jar_0 30 rfl) gf_X11_7 (by decide) rfl rfl rfl ?_
          refine nz_iconst (pc' := 56) (g_d dtbX11_jar_0 31 rfl) rfl ?_
          refine cz_dup2 (pc' := 57) (g_d dtbX11_jar_0 32 rfl) rfl rfl rfl ?_
          refine nz_iald 1 (pc' := 58) (g_d dtbX11_jar_0 33 rfl) (by decide) rfl (by omega) (by rfl) (by omega) rfl ?_
          rw [show (zr Z 35 (rKeep A.1)) 35 1 = A.1 1 from by rw [zr_eq]; exact rKeep_lo (by decide)]
          refine cz_iload_n (pc' := 59) (g_d dtbX11_jar_0 34 rfl) rfl rfl ?_
          refine nz_iadd (pc' := 60) (g_d dtbX11_jar_0 35 rfl) rfl ?_
          refine nz_iast 1 (pc' := 61) (g_d dtbX11_jar_0 36 rfl) (by decide) rfl (by omega) (by rfl) (by omega) rfl ?_
          rw [zr_ru]
          refine cz_aload_n (pc' := 62) (g_d dtbX11_jar_0 37 rfl) rfl rfl ?_
          refine nz_getf (v := .ref 35) (pc' := 65) (g_d dtbX11_jar_0 38 rfl) gf_X11_7 (by decide) rfl rfl rfl ?_
          refine nz_iconst (pc' := 66) (g_d dtbX11_jar_0 39 rfl) rfl ?_
          refine cz_dup2 (pc' := 67) (g_d dtbX11_jar_0 40 rfl) rfl rfl rfl ?_
          refine nz_iald 0 (pc' := 68) (g_d dtbX11_jar_0 41 rfl) (by decide) rfl (by omega) (by rfl) (by omega) rfl ?_
          rw [show (zr Z 35 (ru (rKeep A.1) 1 ((A.1 1) + n))) 35 0 = A.1 0 from by rw [zr_eq, ru_ne (by decide)]; exact rKeep_lo (by decide)]
          refine cz_iload_n (pc' := 69) (g_d dtbX11_jar_0 42 rfl) rfl rfl ?_
          refine nz_isub (pc' := 70) (g_d dtbX11_jar_0 43 rfl) rfl ?_
          refine nz_iast 0 (pc' := 71) (g_d dtbX11_jar_0 44 rfl) (by decide) rfl (by omega) (by rfl) (by omega) rfl ?_
          rw [zr_ru]
          refine cz_aload_n (pc' := 72) (g_d dtbX11_jar_0 45 rfl) rfl rfl ?_
          refine nz_getf (v := .ref 35) (pc' := 75) (g_d dtbX11_jar_0 46 rfl) gf_X11_7 (by decide) rfl rfl rfl ?_
          refine nz_iconst (pc' := 76) (g_d dtbX11_jar_0 47 rfl) rfl ?_
          refine nz_iald 1 (pc' := 77) (g_d dtbX11_jar_0 48 rfl) (by decide) rfl (by omega) (by rfl) (by omega) rfl ?_
          rw [show (zr Z 35 (ru (ru (rKeep A.1) 1 ((A.1 1) + n)) 0 ((A.1 0) - n))) 35 1 = (A.1 1) + n from by simp [zu, zr, ru]]
          refine nz_ri .int (g_d dtbX11_jar_0 49 rfl) rfl rfl ?_
          rw [show xJar A n = (A.1 1 + n, sF A (ru (ru (rKeep A.1) 0 (A.1 0 - n)) 1 (A.1 1 + n))) from by unfold xJar; rw [if_pos (by omega), if_neg (by omega)]]
          exact ⟨rfl, (show ru (ru (rKeep A.1) 0 (A.1 0 - n)) 1 (A.1 1 + n) = ru (ru (rKeep A.1) 1 (A.1 1 + n)) 0 (A.1 0 - n) from by funext j; unfold ru; (repeat' split) <;> first | rfl | omega) ▸ hM.row, (FC.r FC.rf (by decide))⟩
        · refine cz_aload_n (pc' := 43) (g_d dtbX11_jar_0 24 rfl) rfl rfl ?_
          refine nz_cVi (M' := mX11_no) (k := 34) (As := []) (S := []) (L := [some (.ref 34), some (iv (n))]) (pc' := 46) (g_d dtbX11_jar_0 25 rfl) lk_X11_136 okX11_no (by decide) rfl rfl rfl rfl (Nat.le_of_ble_eq_true rfl) (Nat.le_of_ble_eq_true rfl) (by decide) rfl (m_no G (zr Z 35 A.1)) ?_
          rintro _ _ ⟨rfl, rfl⟩
          refine nz_ri .int (g_d dtbX11_jar_0 26 rfl) rfl rfl ?_
          rw [show xJar A n = (-3, aNo A) from by unfold xJar; rw [if_pos (by omega), if_pos (by omega)]]
          exact ⟨rfl, ms_no hM.row, (FC.u (FC.r FC.rf (by decide)) (by decide))⟩
  · refine nz_if_ne_f (pc' := 11) (g_d dtbX11_jar_0 4 rfl) (by omega) (by decide) rfl (by omega) ?_
    refine cz_aload_n (pc' := 12) (g_d dtbX11_jar_0 5 rfl) rfl rfl ?_
    refine nz_cVi (M' := mX11_bad) (k := 34) (As := []) (S := []) (L := [some (.ref 34), some (iv (n))]) (pc' := 15) (g_d dtbX11_jar_0 6 rfl) lk_X11_44 okX11_bad (by decide) rfl rfl rfl rfl (Nat.le_of_ble_eq_true rfl) (Nat.le_of_ble_eq_true rfl) (by decide) rfl (m_bad G (zr Z 35 A.1)) ?_
    rintro _ _ ⟨rfl, rfl⟩
    refine nz_ri .int (g_d dtbX11_jar_0 7 rfl) rfl rfl ?_
    rw [show xJar A n = (-2, aBad A) from by unfold xJar; rw [if_neg (by omega)]]
    exact ⟨rfl, ms_bad hM.row, (FC.u (FC.r FC.rf (by decide)) (by decide))⟩

theorem undo_row {f : Row} {c : Nat} (hc : f 59 - 1 = (c : Int)) (hc8 : c < 8) : rUndo f = zcp (ru f 59 (f 59 - 1)) (ru f 59 (f 59 - 1)) (60 + 6 * c) 0 6 := by
  funext x
  unfold rUndo zcp
  rw [show (f 59 - 1).toNat = c by omega]
  by_cases q : x < 6
  · rw [if_pos (by omega), ru_ne (by omega), ru_ne (by omega), if_pos q]; congr 1
  · rw [if_neg (by omega)]
    by_cases e : x = 59
    · rw [e, ru_eq, ru_eq]
    · rw [ru_ne e, ru_ne e, if_neg q]

set_option maxRecDepth 20000 in
set_option maxHeartbeats 4000000 in
theorem b_undo (G : Wd) (Z : ZS) (A : AS) (B : Int) (hM : MS Z A) (hA : AO B A) : Cn G mX11_undo 0 [some (.ref 34)] [] Z (qi (fun r W => (xUndo A).1 = r ∧ MS W (xUndo A).2 ∧ FC Z W)) := by
  have hb0 := hA.1
  have hO := hA.2.1
  have h6 : 0 ≤ A.1 6 ∧ A.1 6 ≤ 7 := hO.2.1
  have h28 : 0 ≤ A.1 28 ∧ A.1 28 ≤ 6 := hO.2.2.2.1
  have h59 : 0 ≤ A.1 59 ∧ A.1 59 ≤ 8 := hO.2.2.2.2.2.1
  have hf := hO.1
  unfold FO at hf
  have hct := hA.2.2.2.2.2.2
  refine nz_st (zr_self hM.1) ?_
  refine cz_aload_n (pc' := 1) (g_d dtbX11_undo_0 0 rfl) rfl rfl ?_
  refine nz_getf (v := .ref 35) (pc' := 4) (g_d dtbX11_undo_0 1 rfl) gf_X11_7 (by decide) rfl rfl rfl ?_
  refine nz_bipush (pc' := 6) (g_d dtbX11_undo_0 2 rfl) (by decide) rfl ?_
  refine nz_iald 59 (pc' := 7) (g_d dtbX11_undo_0 3 rfl) (by decide) rfl (by omega) (by rfl) (by omega) rfl ?_
  rw [show (zr Z 35 A.1) 35 59 = A.1 59 from by simp [zu, zr, ru]]
  refine nz_if_ne (tgt := 15) (pc' := 10) (g_d dtbX11_undo_0 4 rfl) (by omega) rfl rfl (fun h7 => ?_) (fun h7 => ?_)
  · obtain ⟨c, hc⟩ : ∃ c : Nat, A.1 59 - 1 = (c : Int) := ⟨(A.1 59 - 1).toNat, by omega⟩
    refine cz_aload_n (pc' := 16) (g_d dtbX11_undo_0 8 rfl) rfl rfl ?_
    refine nz_getf (v := .ref 35) (pc' := 19) (g_d dtbX11_undo_0 9 rfl) gf_X11_7 (by decide) rfl rfl rfl ?_
    refine nz_bipush (pc' := 21) (g_d dtbX11_undo_0 10 rfl) (by decide) rfl ?_
    refine cz_dup2 (pc' := 22) (g_d dtbX11_undo_0 11 rfl) rfl rfl rfl ?_
    refine nz_iald 59 (pc' := 23) (g_d dtbX11_undo_0 12 rfl) (by decide) rfl (by omega) (by rfl) (by omega) rfl ?_
    rw [show (zr Z 35 A.1) 35 59 = A.1 59 from by simp [zu, zr, ru]]
    refine nz_iconst (pc' := 24) (g_d dtbX11_undo_0 13 rfl) rfl ?_
    refine nz_isub (pc' := 25) (g_d dtbX11_undo_0 14 rfl) rfl ?_
    refine nz_iast 59 (pc' := 26) (g_d dtbX11_undo_0 15 rfl) (by decide) rfl (by omega) (by rfl) (by omega) rfl ?_
    rw [zr_ru]
    refine cz_aload_n (pc' := 27) (g_d dtbX11_undo_0 16 rfl) rfl rfl ?_
    refine nz_getf (v := .ref 35) (pc' := 30) (g_d dtbX11_undo_0 17 rfl) gf_X11_7 (by decide) rfl rfl rfl ?_
    refine nz_bipush (pc' := 32) (g_d dtbX11_undo_0 18 rfl) (by decide) rfl ?_
    refine nz_bipush (pc' := 34) (g_d dtbX11_undo_0 19 rfl) (by decide) rfl ?_
    refine cz_aload_n (pc' := 35) (g_d dtbX11_undo_0 20 rfl) rfl rfl ?_
    refine nz_getf (v := .ref 35) (pc' := 38) (g_d dtbX11_undo_0 21 rfl) gf_X11_7 (by decide) rfl rfl rfl ?_
    refine nz_bipush (pc' := 40) (g_d dtbX11_undo_0 22 rfl) (by decide) rfl ?_
    refine nz_iald 59 (pc' := 41) (g_d dtbX11_undo_0 23 rfl) (by decide) rfl (by omega) (by rfl) (by omega) rfl ?_
    rw [show (zr Z 35 (ru A.1 59 ((A.1 59) - 1))) 35 59 = (A.1 59) - 1 from by simp [zu, zr, ru]]
    refine nz_imul (pc' := 42) (g_d dtbX11_undo_0 24 rfl) rfl ?_
    refine nz_iadd (pc' := 43) (g_d dtbX11_undo_0 25 rfl) rfl ?_
    refine cz_aload_n (pc' := 44) (g_d dtbX11_undo_0 26 rfl) rfl rfl ?_
    refine nz_getf (v := .ref 35) (pc' := 47) (g_d dtbX11_undo_0 27 rfl) gf_X11_7 (by decide) rfl rfl rfl ?_
    refine nz_iconst (pc' := 48) (g_d dtbX11_undo_0 28 rfl) rfl ?_
    refine nz_bipush (pc' := 50) (g_d dtbX11_undo_0 29 rfl) (by decide) rfl ?_
    refine nz_cSv (M' := mX11_bring) (As := [.ref 35, iv (60 + (6 * ((A.1 59) - 1))), .ref 35, iv 0, iv 6]) (S := []) (L := [some (.ref 34)]) (pc' := 53) (g_d dtbX11_undo_0 30 rfl) lk_X11_113 okX11_bring rfl rfl (Nat.le_of_ble_eq_true rfl) (Nat.le_of_ble_eq_true rfl) (by decide) rfl (m_bring2 G (zr Z 35 (ru A.1 59 ((A.1 59) - 1))) (60 + (6 * ((A.1 59) - 1))) 0 6 35 35 (60 + 6 * c) 0 6 108 108 (by decide) (by decide) rfl rfl (by decide) (by decide) (by omega) (by omega) (by omega) (by omega) (by omega) (by omega)) ?_
    rintro _ rfl
    rw [br_self]
    rw [← undo_row hc (by omega)]
    refine cz_aload_n (pc' := 54) (g_d dtbX11_undo_0 31 rfl) rfl rfl ?_
    refine nz_getf (v := .ref 35) (pc' := 57) (g_d dtbX11_undo_0 32 rfl) gf_X11_7 (by decide) rfl rfl rfl ?_
    refine nz_iconst (pc' := 58) (g_d dtbX11_undo_0 33 rfl) rfl ?_
    refine nz_iald 3 (pc' := 59) (g_d dtbX11_undo_0 34 rfl) (by decide) rfl (by omega) (by rfl) (by omega) rfl ?_
    rw [show (zr Z 35 (rUndo A.1)) 35 3 = (rUndo A.1) 3 from by simp [zu, zr, ru]]
    refine nz_ri .int (g_d dtbX11_undo_0 35 rfl) rfl rfl ?_
    rw [show xUndo A = (rUndo A.1 3, sF A (rUndo A.1)) from if_neg (by omega)]
    exact ⟨rfl, hM.row, (FC.r FC.rf (by decide))⟩
  · refine cz_aload_n (pc' := 11) (g_d dtbX11_undo_0 5 rfl) rfl rfl ?_
    refine nz_cVi (M' := mX11_no) (k := 34) (As := []) (S := []) (L := [some (.ref 34)]) (pc' := 14) (g_d dtbX11_undo_0 6 rfl) lk_X11_136 okX11_no (by decide) rfl rfl rfl rfl (Nat.le_of_ble_eq_true rfl) (Nat.le_of_ble_eq_true rfl) (by decide) rfl (m_no G (zr Z 35 A.1)) ?_
    rintro _ _ ⟨rfl, rfl⟩
    refine nz_ri .int (g_d dtbX11_undo_0 7 rfl) rfl rfl ?_
    rw [show xUndo A = (-3, aNo A) from if_pos (by omega)]
    exact ⟨rfl, ms_no hM.row, (FC.u (FC.r FC.rf (by decide)) (by decide))⟩
