/-! Math's own; what a book tells, by its row -/
theorem br1_fig {Z : ZS} {f : Row} (h : BR Z 1 f) {j : Nat} (hj : j < 6) : Z 2 j = f j := h.1 j hj
theorem br1_4 {Z : ZS} {f : Row} (h : BR Z 1 f) : Z 1 4 = f 6 := h.2.1
theorem br1_5 {Z : ZS} {f : Row} (h : BR Z 1 f) : Z 1 5 = f 28 := h.2.2.2.1
theorem br1_6 {Z : ZS} {f : Row} (h : BR Z 1 f) : Z 1 6 = f 59 := h.2.2.2.2.2.1
theorem bk1 : Bk 1 := Or.inl rfl
theorem c_kindR (G : Wd) (Z : ZS) (b : Nat) (f : Row) (hB : BR Z 1 f) (hb : b < 7) (hb2 : (b : Int) < f 6) : Cn G mX0_kindAt 0 [some (.ref 1), some (iv (b : Int))] [] Z (qi (fun r W => f (7 + b) = r ∧ Z = W)) := nz_wi (c_kindAt G Z 1 b bk1 hb) (fun r W h => ⟨(hB.2.2.1 b hb hb2).1.symm.trans h.1, h.2⟩)
theorem c_dayR (G : Wd) (Z : ZS) (b : Nat) (f : Row) (hB : BR Z 1 f) (hb : b < 7) (hb2 : (b : Int) < f 6) : Cn G mX0_dayAt 0 [some (.ref 1), some (iv (b : Int))] [] Z (qi (fun r W => f (14 + b) = r ∧ Z = W)) := nz_wi (c_dayAt G Z 1 b bk1 hb) (fun r W h => ⟨(hB.2.2.1 b hb hb2).2.1.symm.trans h.1, h.2⟩)
theorem c_poundsR (G : Wd) (Z : ZS) (b : Nat) (f : Row) (hB : BR Z 1 f) (hb : b < 7) (hb2 : (b : Int) < f 6) : Cn G mX0_poundsAt 0 [some (.ref 1), some (iv (b : Int))] [] Z (qi (fun r W => f (21 + b) = r ∧ Z = W)) := nz_wi (c_poundsAt G Z 1 b bk1 hb) (fun r W h => ⟨(hB.2.2.1 b hb hb2).2.2.symm.trans h.1, h.2⟩)
theorem c_noteR (G : Wd) (Z : ZS) (i p : Nat) (f : Row) (hB : BR Z 1 f) (hi : i < 6) (hi2 : (i : Int) < f 28) (hp : p < 5) : Cn G mX0_notePart 0 [some (.ref 1), some (iv (i : Int)), some (iv (p : Int))] [] Z (qi (fun r W => f (29 + 5 * i + p) = r ∧ Z = W)) := nz_wi (c_notePart G Z 1 i p bk1 hi hp) (fun r W h => ⟨(hB.2.2.2.2.1 i hi hi2 p hp).symm.trans h.1, h.2⟩)

set_option maxRecDepth 20000 in
set_option maxHeartbeats 4000000 in
theorem c_max (G : Wd) (Z : ZS) (a b : Int) (ha : -2147483648 ≤ a ∧ a ≤ 2147483647) (hb : -2147483648 ≤ b ∧ b ≤ 2147483647) : Cn G mJ9_max_7cf53 0 [some (iv (a)), some (iv (b))] [] Z (qi (fun r W => max a b = r ∧ Z = W)) := by
  refine cz_iload_n (pc' := 1) (g_d dtbJ9_max_7cf53_0 0 rfl) rfl rfl ?_
  refine cz_iload_n (pc' := 2) (g_d dtbJ9_max_7cf53_0 1 rfl) rfl rfl ?_
  refine nz_icmp_lt (tgt := 9) (pc' := 5) (g_d dtbJ9_max_7cf53_0 2 rfl) (by omega) (by omega) rfl rfl (fun h2 => ?_) (fun h2 => ?_)
  · refine cz_iload_n (pc' := 10) (g_d dtbJ9_max_7cf53_0 5 rfl) rfl rfl ?_
    refine nz_ri .int (g_d dtbJ9_max_7cf53_0 6 rfl) rfl rfl ?_
    exact ⟨by omega, rfl⟩
  · refine cz_iload_n (pc' := 6) (g_d dtbJ9_max_7cf53_0 3 rfl) rfl rfl ?_
    refine cz_goto (pc' := 10) (g_d dtbJ9_max_7cf53_0 4 rfl) rfl ?_
    refine nz_ri .int (g_d dtbJ9_max_7cf53_0 6 rfl) rfl rfl ?_
    exact ⟨by omega, rfl⟩

set_option maxRecDepth 20000 in
set_option maxHeartbeats 4000000 in
theorem c_min (G : Wd) (Z : ZS) (a b : Int) (ha : -2147483648 ≤ a ∧ a ≤ 2147483647) (hb : -2147483648 ≤ b ∧ b ≤ 2147483647) : Cn G mJ9_min_7cf53 0 [some (iv (a)), some (iv (b))] [] Z (qi (fun r W => min a b = r ∧ Z = W)) := by
  refine cz_iload_n (pc' := 1) (g_d dtbJ9_min_7cf53_0 0 rfl) rfl rfl ?_
  refine cz_iload_n (pc' := 2) (g_d dtbJ9_min_7cf53_0 1 rfl) rfl rfl ?_
  refine nz_icmp_gt (tgt := 9) (pc' := 5) (g_d dtbJ9_min_7cf53_0 2 rfl) (by omega) (by omega) rfl rfl (fun h2 => ?_) (fun h2 => ?_)
  · refine cz_iload_n (pc' := 10) (g_d dtbJ9_min_7cf53_0 5 rfl) rfl rfl ?_
    refine nz_ri .int (g_d dtbJ9_min_7cf53_0 6 rfl) rfl rfl ?_
    exact ⟨by omega, rfl⟩
  · refine cz_iload_n (pc' := 6) (g_d dtbJ9_min_7cf53_0 3 rfl) rfl rfl ?_
    refine cz_goto (pc' := 10) (g_d dtbJ9_min_7cf53_0 4 rfl) rfl ?_
    refine nz_ri .int (g_d dtbJ9_min_7cf53_0 6 rfl) rfl rfl ?_
    exact ⟨by omega, rfl⟩

set_option maxRecDepth 20000 in
set_option maxHeartbeats 4000000 in
theorem c_fmodp (G : Wd) (Z : ZS) (x : Int) (hx : 0 ≤ x ∧ x ≤ 1000000000) : Cn G mJ9_floorMod_7cf53 0 [some (iv (x)), some (iv 28), none] [] Z (qi (fun r W => x % 28 = r ∧ Z = W)) := by
  refine cz_iload_n (pc' := 1) (g_d dtbJ9_floorMod_7cf53_0 0 rfl) rfl rfl ?_
  refine cz_iload_n (pc' := 2) (g_d dtbJ9_floorMod_7cf53_0 1 rfl) rfl rfl ?_
  refine nz_irem (pc' := 3) (g_d dtbJ9_floorMod_7cf53_0 2 rfl) (by omega) (by omega) rfl ?_
  refine cz_istore_n (L' := [some (iv (x)), some (iv 28), some (iv (x % 28))]) (pc' := 4) (g_d dtbJ9_floorMod_7cf53_0 3 rfl) (by decide) rfl rfl ?_
  refine cz_iload_n (pc' := 5) (g_d dtbJ9_floorMod_7cf53_0 4 rfl) rfl rfl ?_
  refine cz_iload_n (pc' := 6) (g_d dtbJ9_floorMod_7cf53_0 5 rfl) rfl rfl ?_
  refine nz_xge_t (tgt := 18) (g_d dtbJ9_floorMod_7cf53_0 6 rfl) (g_d dtbJ9_floorMod_7cf53_0 7 rfl) (by omega) (by omega) rfl ?_
  refine cz_iload_n (pc' := 19) (g_d dtbJ9_floorMod_7cf53_0 14 rfl) rfl rfl ?_
  refine nz_ri .int (g_d dtbJ9_floorMod_7cf53_0 15 rfl) rfl rfl ?_
  exact ⟨by omega, rfl⟩

set_option maxRecDepth 20000 in
set_option maxHeartbeats 4000000 in
theorem c_fmodn (G : Wd) (Z : ZS) (x : Int) (hx : -1000000000 ≤ x ∧ x < 0) : Cn G mJ9_floorMod_7cf53 0 [some (iv (x)), some (iv 28), none] [] Z (qi (fun r W => x % 28 = r ∧ Z = W)) := by
  refine cz_iload_n (pc' := 1) (g_d dtbJ9_floorMod_7cf53_0 0 rfl) rfl rfl ?_
  refine cz_iload_n (pc' := 2) (g_d dtbJ9_floorMod_7cf53_0 1 rfl) rfl rfl ?_
  refine nz_iremn (pc' := 3) (g_d dtbJ9_floorMod_7cf53_0 2 rfl) (by omega) (by omega) rfl ?_
  refine cz_istore_n (L' := [some (iv (x)), some (iv 28), some (iv (-((-x) % 28)))]) (pc' := 4) (g_d dtbJ9_floorMod_7cf53_0 3 rfl) (by decide) rfl rfl ?_
  refine cz_iload_n (pc' := 5) (g_d dtbJ9_floorMod_7cf53_0 4 rfl) rfl rfl ?_
  refine cz_iload_n (pc' := 6) (g_d dtbJ9_floorMod_7cf53_0 5 rfl) rfl rfl ?_
  refine nz_xge_f (pc' := 10) (g_d dtbJ9_floorMod_7cf53_0 6 rfl) (g_d dtbJ9_floorMod_7cf53_0 7 rfl) (by omega) (by omega) (by decide) rfl ?_
  refine cz_iload_n (pc' := 11) (g_d dtbJ9_floorMod_7cf53_0 8 rfl) rfl rfl ?_
  refine nz_if_eq (tgt := 18) (pc' := 14) (g_d dtbJ9_floorMod_7cf53_0 9 rfl) (by omega) rfl rfl (fun h11 => ?_) (fun h11 => ?_)
  · refine cz_iload_n (pc' := 19) (g_d dtbJ9_floorMod_7cf53_0 14 rfl) rfl rfl ?_
    refine nz_ri .int (g_d dtbJ9_floorMod_7cf53_0 15 rfl) rfl rfl ?_
    exact ⟨by omega, rfl⟩
  · refine cz_iload_n (pc' := 15) (g_d dtbJ9_floorMod_7cf53_0 10 rfl) rfl rfl ?_
    refine cz_iload_n (pc' := 16) (g_d dtbJ9_floorMod_7cf53_0 11 rfl) rfl rfl ?_
    refine nz_iadd (pc' := 17) (g_d dtbJ9_floorMod_7cf53_0 12 rfl) rfl ?_
    refine nz_ri .int (g_d dtbJ9_floorMod_7cf53_0 13 rfl) rfl rfl ?_
    exact ⟨by omega, rfl⟩

theorem c_fmod (G : Wd) (Z : ZS) (x : Int) (hx : -1000000000 ≤ x ∧ x ≤ 1000000000) : Cn G mJ9_floorMod_7cf53 0 [some (iv x), some (iv 28), none] [] Z (qi (fun r W => x % 28 = r ∧ Z = W)) := by
  by_cases h : 0 ≤ x
  · exact c_fmodp G Z x (by omega)
  · exact c_fmodn G Z x (by omega)

set_option maxRecDepth 20000 in
set_option maxHeartbeats 4000000 in
theorem c_fdivp (G : Wd) (Z : ZS) (x y : Int) (hx : 0 ≤ x ∧ x ≤ 2000000000) (hy : 1 ≤ y ∧ y ≤ 1000) : Cn G mJ9_floorDiv_7cf53 0 [some (iv (x)), some (iv (y)), none] [] Z (qi (fun r W => x / y = r ∧ Z = W)) := by
  refine cz_iload_n (pc' := 1) (g_d dtbJ9_floorDiv_7cf53_0 0 rfl) rfl rfl ?_
  refine cz_iload_n (pc' := 2) (g_d dtbJ9_floorDiv_7cf53_0 1 rfl) rfl rfl ?_
  refine nz_idiv (pc' := 3) (g_d dtbJ9_floorDiv_7cf53_0 2 rfl) (by omega) (by omega) rfl ?_
  refine cz_istore_n (L' := [some (iv (x)), some (iv (y)), some (iv (x / y))]) (pc' := 4) (g_d dtbJ9_floorDiv_7cf53_0 3 rfl) (by decide) rfl rfl ?_
  refine cz_iload_n (pc' := 5) (g_d dtbJ9_floorDiv_7cf53_0 4 rfl) rfl rfl ?_
  refine cz_iload_n (pc' := 6) (g_d dtbJ9_floorDiv_7cf53_0 5 rfl) rfl rfl ?_
  refine nz_xge_t (tgt := 21) (g_d dtbJ9_floorDiv_7cf53_0 6 rfl) (g_d dtbJ9_floorDiv_7cf53_0 7 rfl) (by omega) (by omega) rfl ?_
  refine cz_iload_n (pc' := 22) (g_d dtbJ9_floorDiv_7cf53_0 17 rfl) rfl rfl ?_
  refine nz_ri .int (g_d dtbJ9_floorDiv_7cf53_0 18 rfl) rfl rfl ?_
  exact ⟨rfl, rfl⟩

set_option maxRecDepth 20000 in
set_option maxHeartbeats 4000000 in
theorem c_fdivn (G : Wd) (Z : ZS) (x y : Int) (hx : -2000000000 ≤ x ∧ x < 0) (hy : 1 ≤ y ∧ y ≤ 1000) : Cn G mJ9_floorDiv_7cf53 0 [some (iv (x)), some (iv (y)), none] [] Z (qi (fun r W => x / y = r ∧ Z = W)) := by
  have m1 := Int.emod_add_mul_ediv (-x) y
  have m2 := Int.emod_nonneg (-x) (show y ≠ 0 by omega)
  have m3 := Int.emod_lt_of_pos (-x) (show 0 < y by omega)
  have m4 : y * ((-x) / y) = (-x) / y * y := Int.mul_comm _ _
  have m5 : -((-x) / y) * y = -((-x) / y * y) := Int.neg_mul _ _
  refine cz_iload_n (pc' := 1) (g_d dtbJ9_floorDiv_7cf53_0 0 rfl) rfl rfl ?_
  refine cz_iload_n (pc' := 2) (g_d dtbJ9_floorDiv_7cf53_0 1 rfl) rfl rfl ?_
  refine nz_idivn (pc' := 3) (g_d dtbJ9_floorDiv_7cf53_0 2 rfl) (by omega) (by omega) rfl ?_
  refine cz_istore_n (L' := [some (iv (x)), some (iv (y)), some (iv (-((-x) / y)))]) (pc' := 4) (g_d dtbJ9_floorDiv_7cf53_0 3 rfl) (by decide) rfl rfl ?_
  refine cz_iload_n (pc' := 5) (g_d dtbJ9_floorDiv_7cf53_0 4 rfl) rfl rfl ?_
  refine cz_iload_n (pc' := 6) (g_d dtbJ9_floorDiv_7cf53_0 5 rfl) rfl rfl ?_
  refine nz_xge_f (pc' := 10) (g_d dtbJ9_floorDiv_7cf53_0 6 rfl) (g_d dtbJ9_floorDiv_7cf53_0 7 rfl) (by omega) (by omega) (by decide) rfl ?_
  refine cz_iload_n (pc' := 11) (g_d dtbJ9_floorDiv_7cf53_0 8 rfl) rfl rfl ?_
  refine cz_iload_n (pc' := 12) (g_d dtbJ9_floorDiv_7cf53_0 9 rfl) rfl rfl ?_
  refine nz_imul (pc' := 13) (g_d dtbJ9_floorDiv_7cf53_0 10 rfl) rfl ?_
  refine cz_iload_n (pc' := 14) (g_d dtbJ9_floorDiv_7cf53_0 11 rfl) rfl rfl ?_
  refine nz_icmp_eq (tgt := 21) (pc' := 17) (g_d dtbJ9_floorDiv_7cf53_0 12 rfl) (by omega) (by omega) rfl rfl (fun h14 => ?_) (fun h14 => ?_)
  · refine cz_iload_n (pc' := 22) (g_d dtbJ9_floorDiv_7cf53_0 17 rfl) rfl rfl ?_
    refine nz_ri .int (g_d dtbJ9_floorDiv_7cf53_0 18 rfl) rfl rfl ?_
    refine ⟨?_, rfl⟩
    rw [fdiv_neg (by omega) hy.1]
    rw [if_pos (by omega)]
  · refine cz_iload_n (pc' := 18) (g_d dtbJ9_floorDiv_7cf53_0 13 rfl) rfl rfl ?_
    refine nz_iconst (pc' := 19) (g_d dtbJ9_floorDiv_7cf53_0 14 rfl) rfl ?_
    refine nz_isub (pc' := 20) (g_d dtbJ9_floorDiv_7cf53_0 15 rfl) rfl ?_
    refine nz_ri .int (g_d dtbJ9_floorDiv_7cf53_0 16 rfl) rfl rfl ?_
    refine ⟨?_, rfl⟩
    rw [fdiv_neg (by omega) hy.1]
    rw [if_neg (by omega)]

theorem c_fdiv (G : Wd) (Z : ZS) (x y : Int) (hx : -2000000000 ≤ x ∧ x ≤ 2000000000) (hy : 1 ≤ y ∧ y ≤ 1000) : Cn G mJ9_floorDiv_7cf53 0 [some (iv x), some (iv y), none] [] Z (qi (fun r W => x / y = r ∧ Z = W)) := by
  by_cases h : 0 ≤ x
  · exact c_fdivp G Z x y (by omega) hy
  · exact c_fdivn G Z x y (by omega) hy
