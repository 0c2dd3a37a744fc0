/-- the four books -/
def Bk (k : Nat) : Prop := k = 1 ∨ k = 6 ∨ k = 11 ∨ k = 19
theorem bk_l {k : Nat} (h : Bk k) : k < 42 := by rcases h with rfl | rfl | rfl | rfl <;> decide
theorem bk_l1 {k : Nat} (h : Bk k) : k + 1 < 42 := by rcases h with rfl | rfl | rfl | rfl <;> decide
theorem bk_l2 {k : Nat} (h : Bk k) : k + 2 < 42 := by rcases h with rfl | rfl | rfl | rfl <;> decide
theorem bk_l3 {k : Nat} (h : Bk k) : k + 3 < 42 := by rcases h with rfl | rfl | rfl | rfl <;> decide
theorem bk_l4 {k : Nat} (h : Bk k) : k + 4 < 42 := by rcases h with rfl | rfl | rfl | rfl <;> decide
theorem bk_s {k : Nat} (h : Bk k) : g_sh k = .inr 0 := by rcases h with rfl | rfl | rfl | rfl <;> rfl
theorem bk_s1 {k : Nat} (h : Bk k) : g_sh (k + 1) = .inl (0, 6) := by rcases h with rfl | rfl | rfl | rfl <;> rfl
theorem bk_s2 {k : Nat} (h : Bk k) : g_sh (k + 2) = .inl (0, 21) := by rcases h with rfl | rfl | rfl | rfl <;> rfl
theorem bk_s3 {k : Nat} (h : Bk k) : g_sh (k + 3) = .inl (0, 30) := by rcases h with rfl | rfl | rfl | rfl <;> rfl
theorem bk_s4 {k : Nat} (h : Bk k) : g_sh (k + 4) = .inl (0, 48) := by rcases h with rfl | rfl | rfl | rfl <;> rfl
theorem bk_r0 {k : Nat} (h : Bk k) (Z : ZS) : g_fv (g_N Z) k (g_fty 0 0) 0 = .ref (k + 1) := by rcases h with rfl | rfl | rfl | rfl <;> rfl
theorem bk_r1 {k : Nat} (h : Bk k) (Z : ZS) : g_fv (g_N Z) k (g_fty 0 1) 1 = .ref (k + 2) := by rcases h with rfl | rfl | rfl | rfl <;> rfl
theorem bk_r2 {k : Nat} (h : Bk k) (Z : ZS) : g_fv (g_N Z) k (g_fty 0 2) 2 = .ref (k + 3) := by rcases h with rfl | rfl | rfl | rfl <;> rfl
theorem bk_r3 {k : Nat} (h : Bk k) (Z : ZS) : g_fv (g_N Z) k (g_fty 0 3) 3 = .ref (k + 4) := by rcases h with rfl | rfl | rfl | rfl <;> rfl

set_option maxRecDepth 20000 in
set_option maxHeartbeats 4000000 in
theorem c_within (G : Wd) (Z : ZS) (n a b : Int) (hn : -2147483648 ≤ n ∧ n ≤ 2147483647) (ha : -2147483648 ≤ a ∧ a ≤ 2147483647) (hb : -2147483648 ≤ b ∧ b ≤ 2147483647) : Cn G mX10_within 0 [some (iv (n)), some (iv (a)), some (iv (b))] [] Z (qi (fun r W => Z = W ∧ ((r = 1 ∧ a ≤ n ∧ n ≤ b) ∨ (r = 0 ∧ (n < a ∨ b < n))))) := by
  refine cz_iload_n (pc' := 1) (g_d dtbX10_within_0 0 rfl) rfl rfl ?_
  refine cz_iload_n (pc' := 2) (g_d dtbX10_within_0 1 rfl) rfl rfl ?_
  refine nz_icmp_lt (tgt := 14) (pc' := 5) (g_d dtbX10_within_0 2 rfl) (by omega) (by omega) rfl rfl (fun h2 => ?_) (fun h2 => ?_)
  · refine nz_iconst (pc' := 15) (g_d dtbX10_within_0 8 rfl) rfl ?_
    refine nz_ri .boolean (g_d dtbX10_within_0 9 rfl) rfl rfl ?_
    exact ⟨rfl, by omega⟩
  · refine cz_iload_n (pc' := 6) (g_d dtbX10_within_0 3 rfl) rfl rfl ?_
    refine cz_iload_n (pc' := 7) (g_d dtbX10_within_0 4 rfl) rfl rfl ?_
    refine nz_icmp_gt (tgt := 14) (pc' := 10) (g_d dtbX10_within_0 5 rfl) (by omega) (by omega) rfl rfl (fun h7 => ?_) (fun h7 => ?_)
    · refine nz_iconst (pc' := 15) (g_d dtbX10_within_0 8 rfl) rfl ?_
      refine nz_ri .boolean (g_d dtbX10_within_0 9 rfl) rfl rfl ?_
      exact ⟨rfl, by omega⟩
    · refine nz_iconst (pc' := 11) (g_d dtbX10_within_0 6 rfl) rfl ?_
      refine cz_goto (pc' := 15) (g_d dtbX10_within_0 7 rfl) rfl ?_
      refine nz_ri .boolean (g_d dtbX10_within_0 9 rfl) rfl rfl ?_
      exact ⟨rfl, by omega⟩

set_option maxRecDepth 20000 in
set_option maxHeartbeats 4000000 in
theorem c_billPart (G : Wd) (Z : ZS) (k b p : Nat) (hk : Bk k) (hb : b < 7) (hp : p < 3) : Cn G mX0_billPart 0 [some (.ref k), some (iv ((b : Int))), some (iv ((p : Int)))] [] Z (qi (fun r W => Z (k + 2) (b * 3 + p) = r ∧ Z = W)) := by
  refine cz_iload_n (pc' := 1) (g_d dtbX0_billPart_0 0 rfl) rfl rfl ?_
  refine nz_if_lt_f (pc' := 4) (g_d dtbX0_billPart_0 1 rfl) (by omega) (by decide) rfl (by omega) ?_
  refine cz_iload_n (pc' := 5) (g_d dtbX0_billPart_0 2 rfl) rfl rfl ?_
  refine nz_bipush (pc' := 7) (g_d dtbX0_billPart_0 3 rfl) (by decide) rfl ?_
  refine nz_icmp_ge_f (pc' := 10) (g_d dtbX0_billPart_0 4 rfl) (by omega) (by omega) (by decide) rfl (by omega) ?_
  refine cz_aload_n (pc' := 11) (g_d dtbX0_billPart_0 5 rfl) rfl rfl ?_
  refine nz_getf (v := .ref (k + 2)) (pc' := 14) (g_d dtbX0_billPart_0 6 rfl) gf_X0_15 (bk_l hk) (bk_s hk) (bk_r1 hk _) rfl ?_
  refine cz_iload_n (pc' := 15) (g_d dtbX0_billPart_0 7 rfl) rfl rfl ?_
  refine nz_iconst (pc' := 16) (g_d dtbX0_billPart_0 8 rfl) rfl ?_
  refine nz_imul (pc' := 17) (g_d dtbX0_billPart_0 9 rfl) rfl ?_
  refine cz_iload_n (pc' := 18) (g_d dtbX0_billPart_0 10 rfl) rfl rfl ?_
  refine nz_iadd (pc' := 19) (g_d dtbX0_billPart_0 11 rfl) rfl ?_
  refine nz_iald (((b) * 3) + (p)) (pc' := 20) (g_d dtbX0_billPart_0 12 rfl) (bk_l2 hk) (bk_s2 hk) (by omega) (by omega) (by omega) rfl ?_
  refine cz_goto (pc' := 24) (g_d dtbX0_billPart_0 13 rfl) rfl ?_
  refine nz_ri .int (g_d dtbX0_billPart_0 15 rfl) rfl rfl ?_
  exact ⟨rfl, rfl⟩

set_option maxRecDepth 20000 in
set_option maxHeartbeats 4000000 in
theorem c_kindAt (G : Wd) (Z : ZS) (k b : Nat) (hk : Bk k) (hb : b < 7) : Cn G mX0_kindAt 0 [some (.ref k), some (iv ((b : Int)))] [] Z (qi (fun r W => Z (k + 2) (b * 3 + 0) = r ∧ Z = W)) := by
  refine cz_aload_n (pc' := 1) (g_d dtbX0_kindAt_0 0 rfl) rfl rfl ?_
  refine cz_iload_n (pc' := 2) (g_d dtbX0_kindAt_0 1 rfl) rfl rfl ?_
  refine nz_iconst (pc' := 3) (g_d dtbX0_kindAt_0 2 rfl) rfl ?_
  refine nz_cVi (M' := mX0_billPart) (k := k) (As := [iv ((b : Int)), iv 0]) (S := []) (L := [some (.ref k), some (iv ((b : Int)))]) (pc' := 6) (g_d dtbX0_kindAt_0 3 rfl) lk_X0_40 okX0_billPart (bk_l hk) (bk_s hk) rfl rfl rfl (Nat.le_of_ble_eq_true rfl) (Nat.le_of_ble_eq_true rfl) (by decide) rfl (c_billPart G Z k b 0 hk hb (by decide)) ?_
  rintro _ _ ⟨rfl, rfl⟩
  refine nz_ri .int (g_d dtbX0_kindAt_0 4 rfl) rfl rfl ?_
  exact ⟨rfl, rfl⟩

set_option maxRecDepth 20000 in
set_option maxHeartbeats 4000000 in
theorem c_dayAt (G : Wd) (Z : ZS) (k b : Nat) (hk : Bk k) (hb : b < 7) : Cn G mX0_dayAt 0 [some (.ref k), some (iv ((b : Int)))] [] Z (qi (fun r W => Z (k + 2) (b * 3 + 1) = r ∧ Z = W)) := by
  refine cz_aload_n (pc' := 1) (g_d dtbX0_dayAt_0 0 rfl) rfl rfl ?_
  refine cz_iload_n (pc' := 2) (g_d dtbX0_dayAt_0 1 rfl) rfl rfl ?_
  refine nz_iconst (pc' := 3) (g_d dtbX0_dayAt_0 2 rfl) rfl ?_
  refine nz_cVi (M' := mX0_billPart) (k := k) (As := [iv ((b : Int)), iv 1]) (S := []) (L := [some (.ref k), some (iv ((b : Int)))]) (pc' := 6) (g_d dtbX0_dayAt_0 3 rfl) lk_X0_40 okX0_billPart (bk_l hk) (bk_s hk) rfl rfl rfl (Nat.le_of_ble_eq_true rfl) (Nat.le_of_ble_eq_true rfl) (by decide) rfl (c_billPart G Z k b 1 hk hb (by decide)) ?_
  rintro _ _ ⟨rfl, rfl⟩
  refine nz_ri .int (g_d dtbX0_dayAt_0 4 rfl) rfl rfl ?_
  exact ⟨rfl, rfl⟩

set_option maxRecDepth 20000 in
set_option maxHeartbeats 4000000 in
theorem c_poundsAt (G : Wd) (Z : ZS) (k b : Nat) (hk : Bk k) (hb : b < 7) : Cn G mX0_poundsAt 0 [some (.ref k), some (iv ((b : Int)))] [] Z (qi (fun r W => Z (k + 2) (b * 3 + 2) = r ∧ Z = W)) := by
  refine cz_aload_n (pc' := 1) (g_d dtbX0_poundsAt_0 0 rfl) rfl rfl ?_
  refine cz_iload_n (pc' := 2) (g_d dtbX0_poundsAt_0 1 rfl) rfl rfl ?_
  refine nz_iconst (pc' := 3) (g_d dtbX0_poundsAt_0 2 rfl) rfl ?_
  refine nz_cVi (M' := mX0_billPart) (k := k) (As := [iv ((b : Int)), iv 2]) (S := []) (L := [some (.ref k), some (iv ((b : Int)))]) (pc' := 6) (g_d dtbX0_poundsAt_0 3 rfl) lk_X0_40 okX0_billPart (bk_l hk) (bk_s hk) rfl rfl rfl (Nat.le_of_ble_eq_true rfl) (Nat.le_of_ble_eq_true rfl) (by decide) rfl (c_billPart G Z k b 2 hk hb (by decide)) ?_
  rintro _ _ ⟨rfl, rfl⟩
  refine nz_ri .int (g_d dtbX0_poundsAt_0 4 rfl) rfl rfl ?_
  exact ⟨rfl, rfl⟩

/-- a row's first places set to one number -/
def zfl (Z : ZS) (k : Nat) (v : Int) (i : Nat) : ZS := zr Z k (fun j => if j < i then v else Z k j)
theorem zfl_0 (Z : ZS) (k : Nat) (v : Int) : zfl Z k v 0 = Z := by
  funext a b
  by_cases h : a = k <;> simp [zfl, zr, h]
theorem zfl_s (Z : ZS) (k : Nat) (v : Int) (i : Nat) : zu (zfl Z k v i) k i v = zfl Z k v (i + 1) := by
  funext a b
  by_cases h : a = k
  · by_cases hb : b = i
    · simp [zu, zfl, zr, h, hb]
    · by_cases hc : b < i
      · simp [zu, zfl, zr, h, hb, hc, Nat.lt_succ_of_lt hc]
      · have : ¬ b < i + 1 := by omega
        simp [zu, zfl, zr, h, hb, hc, this]
  · simp [zu, zfl, zr, h]

set_option maxRecDepth 20000 in
set_option maxHeartbeats 4000000 in
theorem l_fill (G : Wd) (Z : ZS) (k n : Nat) (v : Int) (hl : k < 42) (hs : g_sh k = .inl (0, n)) (hn : n ≤ 1000) : ∀ (d : Nat) (i : Nat), n - i = d → i ≤ n → Cn G mJ7_fill_53178 5 [some (.ref k), some (iv (v)), some (iv ((i : Int))), some (iv ((n : Int)))] [] (zfl Z k v i) (qv (fun W => W = zfl Z k v n)) := by
  intro d
  induction d using Nat.strongRecOn with
  | ind d ih =>
    intro i hd hi
    refine cz_iload_n (pc' := 6) (g_d dtbJ7_fill_53178_0 5 rfl) rfl rfl ?_
    refine cz_iload_n (pc' := 7) (g_d dtbJ7_fill_53178_0 6 rfl) rfl rfl ?_
    refine nz_icmp_ge (tgt := 20) (pc' := 10) (g_d dtbJ7_fill_53178_0 7 rfl) (by omega) (by omega) rfl rfl (fun h7 => ?_) (fun h7 => ?_)
    · refine nz_rv (g_d dtbJ7_fill_53178_0 14 rfl) rfl ?_
      rw [show i = n by omega]
    · refine cz_aload_n (pc' := 11) (g_d dtbJ7_fill_53178_0 8 rfl) rfl rfl ?_
      refine cz_iload_n (pc' := 12) (g_d dtbJ7_fill_53178_0 9 rfl) rfl rfl ?_
      refine cz_iload_n (pc' := 13) (g_d dtbJ7_fill_53178_0 10 rfl) rfl rfl ?_
      refine nz_iast i (pc' := 14) (g_d dtbJ7_fill_53178_0 11 rfl) hl hs (by omega) (by rfl) (by omega) rfl ?_
      refine nz_iinc (L' := [some (.ref k), some (iv (v)), some (iv (((i : Int)) + 1)), some (iv ((n : Int)))]) (pc' := 17) (g_d dtbJ7_fill_53178_0 12 rfl) (by decide) rfl rfl rfl ?_
      refine cz_goto (pc' := 5) (g_d dtbJ7_fill_53178_0 13 rfl) rfl ?_
      rw [zfl_s]
      exact ih (n - (i + 1)) (by omega) (i + 1) rfl (by omega)

set_option maxRecDepth 20000 in
set_option maxHeartbeats 4000000 in
theorem c_fill (G : Wd) (Z : ZS) (k n : Nat) (v : Int) (hl : k < 42) (hs : g_sh k = .inl (0, n)) (hn : n ≤ 1000) : Cn G mJ7_fill_53178 0 [some (.ref k), some (iv (v)), none, none] [] Z (qv (fun W => W = zfl Z k v n)) := by
  refine nz_iconst (pc' := 1) (g_d dtbJ7_fill_53178_0 0 rfl) rfl ?_
  refine cz_istore_n (L' := [some (.ref k), some (iv (v)), some (iv 0), none]) (pc' := 2) (g_d dtbJ7_fill_53178_0 1 rfl) (by decide) rfl rfl ?_
  refine cz_aload_n (pc' := 3) (g_d dtbJ7_fill_53178_0 2 rfl) rfl rfl ?_
  refine nz_alen (v := (n : Int)) (pc' := 4) (g_d dtbJ7_fill_53178_0 3 rfl) hl hs (by decide) rfl rfl ?_
  refine cz_istore_n (L' := [some (.ref k), some (iv (v)), some (iv 0), some (iv ((n : Int)))]) (pc' := 5) (g_d dtbJ7_fill_53178_0 4 rfl) (by decide) rfl rfl ?_
  have q := l_fill G Z k n v hl hs hn (n - 0) 0 rfl (Nat.zero_le _)
  rw [zfl_0] at q
  exact q
