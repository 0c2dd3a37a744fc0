/-! more of numbers: quotients of negative ones, signs, Math's own -/
theorem d32n {a b : Int} (ha : -2147483647 ≤ a ∧ a < 0) (hb : 1 ≤ b ∧ b ≤ 2147483647) : Int32.ofInt a / Int32.ofInt b = Int32.ofInt (-((-a) / b)) := by
  have h1 := Int.ediv_nonneg (show 0 ≤ -a by omega) (show 0 ≤ b by omega)
  have h2 := Int.ediv_le_self b (show 0 ≤ -a by omega)
  have e : a.tdiv b = -((-a) / b) := by
    have h3 := Int.neg_tdiv (-a) b
    rw [Int.neg_neg] at h3
    rw [h3, Int.tdiv_eq_ediv_of_nonneg (show 0 ≤ -a by omega)]
  apply Int32.toInt_inj.mp
  rw [Int32.toInt_div, t32 (by omega), t32 (by omega), t32 (by omega), e, Int.bmod_eq_of_le (by omega) (by omega)]
theorem xr32 {a b : Int} (ha : -2147483648 ≤ a ∧ a ≤ 2147483647) (hb : 0 ≤ b ∧ b ≤ 2147483647) : (0 : Int32) ≤ Int32.ofInt a ^^^ Int32.ofInt b ↔ 0 ≤ a := by
  have key : ∀ v : Int32, (0 : Int32) ≤ v ↔ v.toBitVec.msb = false := fun v => by
    rw [Int32.le_iff_toInt_le, BitVec.msb_eq_toInt]
    show (0 : Int) ≤ v.toInt ↔ _
    have e : v.toInt = v.toBitVec.toInt := rfl
    rw [e]
    simp
  have hA := key (Int32.ofInt a)
  have hB := key (Int32.ofInt b)
  have zA : (0 : Int32) ≤ Int32.ofInt a ↔ 0 ≤ a := le32 (a := 0) (by omega) ha
  have zB : (0 : Int32) ≤ Int32.ofInt b ↔ 0 ≤ b := le32 (a := 0) (by omega) (by omega)
  rw [key, show (Int32.ofInt a ^^^ Int32.ofInt b).toBitVec = (Int32.ofInt a).toBitVec ^^^ (Int32.ofInt b).toBitVec from rfl, BitVec.msb_xor, hB.mp (zB.mpr hb.1), ← zA, hA]
  simp
section
variable {G : Wd} {M M' : MD} {pc pc' : Nat} {L L' : List (Option Value)} {S : List Value} {Z : ZS} {Q Q' : Option Value → ZS → Prop}
theorem nz_iremn {a b : Int} (hd : decode M.2.1 pc = .ok (.irem, 1)) (ha : -2147483647 ≤ a ∧ a < 0) (hb : 1 ≤ b ∧ b ≤ 2147483647) (hp : pc + 1 = pc') (h : Cn G M pc' L (iv (-((-a) % b)) :: S) Z Q) : Cn G M pc L (iv b :: iv a :: S) Z Q := cz_irem hd (n0_32 hb) hp (by
  rw [d32n ha hb, ← Int32.ofInt_mul, ← Int32.ofInt_sub, show a - -((-a) / b) * b = -((-a) % b) by rw [Int.emod_def, Int.neg_mul, Int.mul_comm b]; omega]; exact h)
theorem nz_idivn {a b : Int} (hd : decode M.2.1 pc = .ok (.idiv, 1)) (ha : -2147483647 ≤ a ∧ a < 0) (hb : 1 ≤ b ∧ b ≤ 2147483647) (hp : pc + 1 = pc') (h : Cn G M pc' L (iv (-((-a) / b)) :: S) Z Q) : Cn G M pc L (iv b :: iv a :: S) Z Q := cz_idiv hd (n0_32 hb) hp (by rw [d32n ha hb]; exact h)
/-- the sign of a number, by ixor with one that isn't below 0 -/
theorem nz_xge_t {a b off : Int} {tgt : Nat} (hd : decode M.2.1 pc = .ok (.ixor, 1)) (hd2 : decode M.2.1 (pc + 1) = .ok (.ifCond .ge off, 3)) (ha : 0 ≤ a ∧ a ≤ 2147483647) (hb : 0 ≤ b ∧ b ≤ 2147483647) (ht : ((pc + 1 : Nat) : Int) + off = (tgt : Int)) (h : Cn G M tgt L S Z Q) : Cn G M pc L (iv b :: iv a :: S) Z Q :=
  cz_ixor hd rfl (cz_if_ge hd2 ht rfl (fun _ => h) (fun q => absurd ((xr32 (by omega) hb).mpr ha.1) q))
theorem nz_xge_f {a b off : Int} (hd : decode M.2.1 pc = .ok (.ixor, 1)) (hd2 : decode M.2.1 (pc + 1) = .ok (.ifCond .ge off, 3)) (ha : -2147483648 ≤ a ∧ a < 0) (hb : 0 ≤ b ∧ b ≤ 2147483647) (ht : 0 ≤ ((pc + 1 : Nat) : Int) + off) (hp : pc + 4 = pc') (h : Cn G M pc' L S Z Q) : Cn G M pc L (iv b :: iv a :: S) Z Q :=
  cz_ixor hd rfl (cz_if_ge (tgt := (((pc + 1 : Nat) : Int) + off).toNat) hd2 (by omega) hp (fun q => absurd ((xr32 (by omega) hb).mp q) (by omega)) (fun _ => h))
end
theorem fdiv_neg {x y : Int} (hx : x < 0) (hy : 1 ≤ y) : x / y = if -((-x) / y) * y = x then -((-x) / y) else -((-x) / y) - 1 := by
  have h1 := Int.emod_add_mul_ediv (-x) y
  have h2 := Int.emod_nonneg (-x) (show y ≠ 0 by omega)
  have h3 := Int.emod_lt_of_pos (-x) (show 0 < y by omega)
  have hc : y * ((-x) / y) = (-x) / y * y := Int.mul_comm _ _
  split
  · rename_i e
    have : x = y * (-((-x) / y)) := by rw [Int.mul_comm]; exact e.symm
    conv => lhs; rw [this]
    exact Int.mul_ediv_cancel_left _ (by omega)
  · rename_i e
    have hq : x = y * (-((-x) / y) - 1) + (y - (-x) % y) := by rw [Int.mul_sub, Int.mul_neg]; omega
    have hr0 : (-x) % y ≠ 0 := fun z => e (by rw [Int.neg_mul]; omega)
    conv => lhs; rw [hq]
    rw [Int.mul_add_ediv_left _ _ (by omega), Int.ediv_eq_zero_of_lt (a := y - (-x) % y) (b := y) (by omega) (by omega)]
    omega
