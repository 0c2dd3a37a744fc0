/-! the other one: rows -/
theorem zr_ru {Z : ZS} {k j : Nat} {g : Row} {v : Int} : zu (zr Z k g) k j v = zr Z k (ru g j v) := by
  funext a b
  by_cases ha : a = k
  · subst ha; by_cases hb : b = j <;> simp [zu, zr, ru, hb]
  · simp [zu, zr, ha]
theorem zr_zr {Z : ZS} {k : Nat} {g h : Row} : zr (zr Z k g) k h = zr Z k h := by
  funext a
  by_cases ha : a = k <;> simp [zr, ha]
theorem zr_self {Z : ZS} {k : Nat} {g : Row} (h : Z k = g) : zr Z k g = Z := by
  funext a
  by_cases ha : a = k
  · subst ha; rw [zr_eq]; exact h.symm
  · rw [zr_ne ha]
theorem nz_st {G : Wd} {M : MD} {pc : Nat} {L : List (Option Value)} {S : List Value} {Z Z' : ZS} {Q : Option Value → ZS → Prop} (e : Z' = Z) (h : Cn G M pc L S Z' Q) : Cn G M pc L S Z Q := e ▸ h
theorem MS.row {Z : ZS} {A : AS} {g : Row} (h : MS Z A) : MS (zr Z 35 g) (sF A g) := by
  obtain ⟨h1, h2, h3, h4, h5, h6⟩ := h
  unfold MS
  rw [zr_eq, zr_ne (show (39 : Nat) ≠ 35 by decide), zr_ne (show (38 : Nat) ≠ 35 by decide), zr_ne (show (34 : Nat) ≠ 35 by decide), zr_ne (show (41 : Nat) ≠ 35 by decide), zr_ne (show (40 : Nat) ≠ 35 by decide)]
  exact ⟨rfl, h2, h3, h4, h5, h6⟩
theorem ms_bad {Z : ZS} {A : AS} (h : MS Z A) : MS (zu Z 40 0 (Z 40 0 + 1)) (aBad A) := by
  obtain ⟨h1, h2, h3, h4, h5, h6⟩ := h
  unfold MS
  rw [zu_row (show (35 : Nat) ≠ 40 by decide), zu_row (show (39 : Nat) ≠ 40 by decide), zu_row (show (38 : Nat) ≠ 40 by decide), zu_row (show (34 : Nat) ≠ 40 by decide), zu_row (show (41 : Nat) ≠ 40 by decide)]
  exact ⟨h1, h2, h3, h4, h5, by rw [zu_eq, h6.1]; rfl, by rw [zu_ne (by omega)]; exact h6.2.1, by rw [zu_ne (by omega)]; exact h6.2.2⟩
theorem ms_no {Z : ZS} {A : AS} (h : MS Z A) : MS (zu Z 40 1 (Z 40 1 + 1)) (aNo A) := by
  obtain ⟨h1, h2, h3, h4, h5, h6⟩ := h
  unfold MS
  rw [zu_row (show (35 : Nat) ≠ 40 by decide), zu_row (show (39 : Nat) ≠ 40 by decide), zu_row (show (38 : Nat) ≠ 40 by decide), zu_row (show (34 : Nat) ≠ 40 by decide), zu_row (show (41 : Nat) ≠ 40 by decide)]
  exact ⟨h1, h2, h3, h4, h5, by rw [zu_ne (by omega)]; exact h6.1, by rw [zu_eq, h6.2.1]; rfl, by rw [zu_ne (by omega)]; exact h6.2.2⟩
theorem ms_full {Z : ZS} {A : AS} (h : MS Z A) : MS (zu Z 40 2 (Z 40 2 + 1)) (aFull A) := by
  obtain ⟨h1, h2, h3, h4, h5, h6⟩ := h
  unfold MS
  rw [zu_row (show (35 : Nat) ≠ 40 by decide), zu_row (show (39 : Nat) ≠ 40 by decide), zu_row (show (38 : Nat) ≠ 40 by decide), zu_row (show (34 : Nat) ≠ 40 by decide), zu_row (show (41 : Nat) ≠ 40 by decide)]
  exact ⟨h1, h2, h3, h4, h5, by rw [zu_ne (by omega)]; exact h6.1, by rw [zu_ne (by omega)]; exact h6.2.1, by rw [zu_eq, h6.2.2]; rfl⟩

set_option maxRecDepth 20000 in
set_option maxHeartbeats 4000000 in
theorem m_in (G : Wd) (Z : ZS) (n a b : Int) (hn : -2147483648 ≤ n ∧ n ≤ 2147483647) (ha : -2147483648 ≤ a ∧ a ≤ 2147483647) (hb : -2147483648 ≤ b ∧ b ≤ 2147483647) : Cn G mX11_in 0 [some (iv (n)), some (iv (a)), some (iv (b))] [] Z (qi (fun r W => Z = W ∧ ((r = 1 ∧ a ≤ n ∧ n ≤ b) ∨ (r = 0 ∧ (n < a ∨ b < n))))) := by
  refine cz_iload_n (pc' := 1) (g_d dtbX11_in_0 0 rfl) rfl rfl ?_
  refine cz_iload_n (pc' := 2) (g_d dtbX11_in_0 1 rfl) rfl rfl ?_
  refine nz_icmp_lt (tgt := 14) (pc' := 5) (g_d dtbX11_in_0 2 rfl) (by omega) (by omega) rfl rfl (fun h2 => ?_) (fun h2 => ?_)
  · refine nz_iconst (pc' := 15) (g_d dtbX11_in_0 8 rfl) rfl ?_
    refine nz_ri .boolean (g_d dtbX11_in_0 9 rfl) rfl rfl ?_
    exact ⟨rfl, by omega⟩
  · refine cz_iload_n (pc' := 6) (g_d dtbX11_in_0 3 rfl) rfl rfl ?_
    refine cz_iload_n (pc' := 7) (g_d dtbX11_in_0 4 rfl) rfl rfl ?_
    refine nz_icmp_gt (tgt := 14) (pc' := 10) (g_d dtbX11_in_0 5 rfl) (by omega) (by omega) rfl rfl (fun h7 => ?_) (fun h7 => ?_)
    · refine nz_iconst (pc' := 15) (g_d dtbX11_in_0 8 rfl) rfl ?_
      refine nz_ri .boolean (g_d dtbX11_in_0 9 rfl) rfl rfl ?_
      exact ⟨rfl, by omega⟩
    · refine nz_iconst (pc' := 11) (g_d dtbX11_in_0 6 rfl) rfl ?_
      refine cz_goto (pc' := 15) (g_d dtbX11_in_0 7 rfl) rfl ?_
      refine nz_ri .boolean (g_d dtbX11_in_0 9 rfl) rfl rfl ?_
      exact ⟨rfl, by omega⟩

set_option maxRecDepth 20000 in
set_option maxHeartbeats 4000000 in
theorem m_bad (G : Wd) (Z : ZS) : Cn G mX11_bad 0 [some (.ref 34)] [] Z (qi (fun r W => -2 = r ∧ zu Z 40 0 (Z 40 0 + 1) = W)) := by
  refine cz_aload_n (pc' := 1) (g_d dtbX11_bad_0 0 rfl) rfl rfl ?_
  refine nz_getf (v := .ref 40) (pc' := 4) (g_d dtbX11_bad_0 1 rfl) gf_X11_26 (by decide) rfl rfl rfl ?_
  refine nz_iconst (pc' := 5) (g_d dtbX11_bad_0 2 rfl) rfl ?_
  refine cz_dup2 (pc' := 6) (g_d dtbX11_bad_0 3 rfl) rfl rfl rfl ?_
  refine nz_iald 0 (pc' := 7) (g_d dtbX11_bad_0 4 rfl) (by decide) rfl (by omega) (by rfl) (by omega) rfl ?_
  refine nz_iconst (pc' := 8) (g_d dtbX11_bad_0 5 rfl) rfl ?_
  refine nz_iadd (pc' := 9) (g_d dtbX11_bad_0 6 rfl) rfl ?_
  refine nz_iast 0 (pc' := 10) (g_d dtbX11_bad_0 7 rfl) (by decide) rfl (by omega) (by rfl) (by omega) rfl ?_
  refine nz_bipush (pc' := 12) (g_d dtbX11_bad_0 8 rfl) (by decide) rfl ?_
  refine nz_ri .int (g_d dtbX11_bad_0 9 rfl) rfl rfl ?_
  exact ⟨rfl, rfl⟩

set_option maxRecDepth 20000 in
set_option maxHeartbeats 4000000 in
theorem m_no (G : Wd) (Z : ZS) : Cn G mX11_no 0 [some (.ref 34)] [] Z (qi (fun r W => -3 = r ∧ zu Z 40 1 (Z 40 1 + 1) = W)) := by
  refine cz_aload_n (pc' := 1) (g_d dtbX11_no_0 0 rfl) rfl rfl ?_
  refine nz_getf (v := .ref 40) (pc' := 4) (g_d dtbX11_no_0 1 rfl) gf_X11_26 (by decide) rfl rfl rfl ?_
  refine nz_iconst (pc' := 5) (g_d dtbX11_no_0 2 rfl) rfl ?_
  refine cz_dup2 (pc' := 6) (g_d dtbX11_no_0 3 rfl) rfl rfl rfl ?_
  refine nz_iald 1 (pc' := 7) (g_d dtbX11_no_0 4 rfl) (by decide) rfl (by omega) (by rfl) (by omega) rfl ?_
  refine nz_iconst (pc' := 8) (g_d dtbX11_no_0 5 rfl) rfl ?_
  refine nz_iadd (pc' := 9) (g_d dtbX11_no_0 6 rfl) rfl ?_
  refine nz_iast 1 (pc' := 10) (g_d dtbX11_no_0 7 rfl) (by decide) rfl (by omega) (by rfl) (by omega) rfl ?_
  refine nz_bipush (pc' := 12) (g_d dtbX11_no_0 8 rfl) (by decide) rfl ?_
  refine nz_ri .int (g_d dtbX11_no_0 9 rfl) rfl rfl ?_
  exact ⟨rfl, rfl⟩

set_option maxRecDepth 20000 in
set_option maxHeartbeats 4000000 in
theorem m_full (G : Wd) (Z : ZS) : Cn G mX11_full 0 [some (.ref 34)] [] Z (qi (fun r W => -4 = r ∧ zu Z 40 2 (Z 40 2 + 1) = W)) := by
  refine cz_aload_n (pc' := 1) (g_d dtbX11_full_0 0 rfl) rfl rfl ?_
  refine nz_getf (v := .ref 40) (pc' := 4) (g_d dtbX11_full_0 1 rfl) gf_X11_26 (by decide) rfl rfl rfl ?_
  refine nz_iconst (pc' := 5) (g_d dtbX11_full_0 2 rfl) rfl ?_
  refine cz_dup2 (pc' := 6) (g_d dtbX11_full_0 3 rfl) rfl rfl rfl ?_
  refine nz_iald 2 (pc' := 7) (g_d dtbX11_full_0 4 rfl) (by decide) rfl (by omega) (by rfl) (by omega) rfl ?_
  refine nz_iconst (pc' := 8) (g_d dtbX11_full_0 5 rfl) rfl ?_
  refine nz_iadd (pc' := 9) (g_d dtbX11_full_0 6 rfl) rfl ?_
  refine nz_iast 2 (pc' := 10) (g_d dtbX11_full_0 7 rfl) (by decide) rfl (by omega) (by rfl) (by omega) rfl ?_
  refine nz_bipush (pc' := 12) (g_d dtbX11_full_0 8 rfl) (by decide) rfl ?_
  refine nz_ri .int (g_d dtbX11_full_0 9 rfl) rfl rfl ?_
  exact ⟨rfl, rfl⟩

set_option maxRecDepth 20000 in
set_option maxHeartbeats 4000000 in
theorem m_badBy (G : Wd) (Z : ZS) (a : Int) : Cn G mX11_badBy 0 [some (.ref 34), some (iv (a))] [] Z (qi (fun r W => a = r ∧ zu Z 40 0 (Z 40 0 + 1) = W)) := by
  refine cz_aload_n (pc' := 1) (g_d dtbX11_badBy_0 0 rfl) rfl rfl ?_
  refine nz_getf (v := .ref 40) (pc' := 4) (g_d dtbX11_badBy_0 1 rfl) gf_X11_26 (by decide) rfl rfl rfl ?_
  refine nz_iconst (pc' := 5) (g_d dtbX11_badBy_0 2 rfl) rfl ?_
  refine cz_dup2 (pc' := 6) (g_d dtbX11_badBy_0 3 rfl) rfl rfl rfl ?_
  refine nz_iald 0 (pc' := 7) (g_d dtbX11_badBy_0 4 rfl) (by decide) rfl (by omega) (by rfl) (by omega) rfl ?_
  refine nz_iconst (pc' := 8) (g_d dtbX11_badBy_0 5 rfl) rfl ?_
  refine nz_iadd (pc' := 9) (g_d dtbX11_badBy_0 6 rfl) rfl ?_
  refine nz_iast 0 (pc' := 10) (g_d dtbX11_badBy_0 7 rfl) (by decide) rfl (by omega) (by rfl) (by omega) rfl ?_
  refine cz_iload_n (pc' := 11) (g_d dtbX11_badBy_0 8 rfl) rfl rfl ?_
  refine nz_ri .int (g_d dtbX11_badBy_0 9 rfl) rfl rfl ?_
  exact ⟨rfl, rfl⟩

def rZ (f : Row) (i : Nat) : Row := fun j => if j < i then 0 else f j
theorem rZ_s {f : Row} {i : Nat} : ru (rZ f i) i 0 = rZ f (i + 1) := by
  funext j
  unfold ru rZ
  by_cases h : j = i
  · simp [h]
  · by_cases q : j < i
    · have : j < i + 1 := by omega
      simp [h, q, this]
    · have : ¬ j < i + 1 := by omega
      simp [h, q, this]
theorem rZ_108 {f : Row} : ru (rZ f 108) 3 1 = r108 rBegin f := by
  funext j
  unfold ru rZ r108 rBegin
  by_cases h : j = 3
  · simp [h]
  · by_cases q : j < 108 <;> simp [h, q]

set_option maxRecDepth 20000 in
set_option maxHeartbeats 4000000 in
theorem l_begin (G : Wd) (Z : ZS) (f : Row) (k : Nat) (hlk : k < 42) (hsk : g_sh k = .inl (0, 108)) : ∀ (d : Nat) (i : Nat), 108 - i = d → (i ≤ 108) → Cn G mX11_begin 2 [some (.ref k), some (iv ((i : Int)))] [] (zr Z k (rZ f i)) (qv (fun W => zr Z k (r108 rBegin f) = W)) := by
  intro d
  induction d using Nat.strongRecOn with
  | ind d ih =>
    intro i hd hi
    refine cz_iload_n (pc' := 3) (g_d dtbX11_begin_0 2 rfl) rfl rfl ?_
    refine nz_bipush (pc' := 5) (g_d dtbX11_begin_0 3 rfl) (by decide) rfl ?_
    refine nz_icmp_ge (tgt := 18) (pc' := 8) (g_d dtbX11_begin_0 4 rfl) (by omega) (by omega) rfl rfl (fun h5 => ?_) (fun h5 => ?_)
    · refine cz_aload_n (pc' := 19) (g_d dtbX11_begin_0 11 rfl) rfl rfl ?_
      refine nz_iconst (pc' := 20) (g_d dtbX11_begin_0 12 rfl) rfl ?_
      refine nz_iconst (pc' := 21) (g_d dtbX11_begin_0 13 rfl) rfl ?_
      refine nz_iast 3 (pc' := 22) (g_d dtbX11_begin_0 14 rfl) hlk hsk (by omega) (by rfl) (by omega) rfl ?_
      rw [zr_ru]
      refine nz_rv (g_d dtbX11_begin_0 15 rfl) rfl ?_
      rw [show i = 108 by omega, rZ_108]
    · refine cz_aload_n (pc' := 9) (g_d dtbX11_begin_0 5 rfl) rfl rfl ?_
      refine cz_iload_n (pc' := 10) (g_d dtbX11_begin_0 6 rfl) rfl rfl ?_
      refine nz_iconst (pc' := 11) (g_d dtbX11_begin_0 7 rfl) rfl ?_
      refine nz_iast i (pc' := 12) (g_d dtbX11_begin_0 8 rfl) hlk hsk (by omega) (by rfl) (by omega) rfl ?_
      rw [zr_ru]
      refine nz_iinc (L' := [some (.ref k), some (iv (((i : Int)) + 1))]) (pc' := 15) (g_d dtbX11_begin_0 9 rfl) (by decide) rfl rfl rfl ?_
      refine cz_goto (pc' := 2) (g_d dtbX11_begin_0 10 rfl) rfl ?_
      rw [rZ_s]
      exact ih (108 - (i + 1)) (by omega) (i + 1) rfl (by omega)

set_option maxRecDepth 20000 in
set_option maxHeartbeats 4000000 in
theorem m_begin (G : Wd) (Z : ZS) (f : Row) (k : Nat) (hlk : k < 42) (hsk : g_sh k = .inl (0, 108)) : Cn G mX11_begin 0 [some (.ref k), none] [] (zr Z k f) (qv (fun W => zr Z k (r108 rBegin f) = W)) := by
  refine nz_iconst (pc' := 1) (g_d dtbX11_begin_0 0 rfl) rfl ?_
  refine cz_istore_n (L' := [some (.ref k), some (iv 0)]) (pc' := 2) (g_d dtbX11_begin_0 1 rfl) (by decide) rfl rfl ?_
  have q := l_begin G Z f k hlk hsk (108 - 0) 0 rfl (by omega)
  rw [show rZ f 0 = f from by funext j; simp [rZ]] at q
  exact q

theorem bring_rd {Z : ZS} {ka kb i j n t : Nat} (hov : ka ≠ kb ∨ j ≤ i ∨ i + n ≤ j) (ht : t < n) : (zr Z kb (zcp (Z ka) (Z kb) i j t)) ka (i + t) = Z ka (i + t) := by
  by_cases e : ka = kb
  · subst e
    rw [zr_eq, zcp, if_neg (by omega)]
  · rw [zr_ne e]
theorem bring_s {Z : ZS} {ka kb i j t : Nat} : zu (zr Z kb (zcp (Z ka) (Z kb) i j t)) kb (j + t) (Z ka (i + t)) = zr Z kb (zcp (Z ka) (Z kb) i j (t + 1)) := by
  rw [zr_ru]
  congr 1
  funext x
  unfold ru zcp
  by_cases h : x = j + t
  · subst h
    rw [if_pos rfl, if_pos (by omega)]
    congr 1; omega
  · rw [if_neg h]
    by_cases q : j ≤ x ∧ x < j + t
    · rw [if_pos q, if_pos (by omega)]
    · rw [if_neg q, if_neg (by omega)]

set_option maxRecDepth 20000 in
set_option maxHeartbeats 4000000 in
theorem l_bring (G : Wd) (Z : ZS) (ka kb i j n na nb : Nat) (hla : ka < 42) (hlb : kb < 42) (hsa : g_sh ka = .inl (0, na)) (hsb : g_sh kb = .inl (0, nb)) (hna : na ≤ 1000) (hnb : nb ≤ 1000) (hi : i + n ≤ na) (hj : j + n ≤ nb) (hov : ka ≠ kb ∨ j ≤ i ∨ i + n ≤ j) : ∀ (d : Nat) (t : Nat), n - t = d → (t ≤ n) → Cn G mX11_bring 3 [some (.ref ka), some (iv ((i : Int))), some (.ref kb), some (iv ((j : Int))), some (iv ((n : Int))), some (iv ((t : Int)))] [] (zr Z kb (zcp (Z ka) (Z kb) i j t)) (qv (fun W => zr Z kb (zcp (Z ka) (Z kb) i j n) = W)) := by
  intro d
  induction d using Nat.strongRecOn with
  | ind d ih =>
    intro t hd ht
    refine cz_iload (pc' := 5) (g_d dtbX11_bring_0 2 rfl) rfl rfl ?_
    refine cz_iload (pc' := 7) (g_d dtbX11_bring_0 3 rfl) rfl rfl ?_
    refine nz_icmp_ge (tgt := 28) (pc' := 10) (g_d dtbX11_bring_0 4 rfl) (by omega) (by omega) rfl rfl (fun h7 => ?_) (fun h7 => ?_)
    · refine nz_rv (g_d dtbX11_bring_0 17 rfl) rfl ?_
      rw [show t = n by omega]
    · have ht2 : t < n := by omega
      refine cz_aload_n (pc' := 11) (g_d dtbX11_bring_0 5 rfl) rfl rfl ?_
      refine cz_iload_n (pc' := 12) (g_d dtbX11_bring_0 6 rfl) rfl rfl ?_
      refine cz_iload (pc' := 14) (g_d dtbX11_bring_0 7 rfl) rfl rfl ?_
      refine nz_iadd (pc' := 15) (g_d dtbX11_bring_0 8 rfl) rfl ?_
      refine cz_aload_n (pc' := 16) (g_d dtbX11_bring_0 9 rfl) rfl rfl ?_
      refine cz_iload_n (pc' := 17) (g_d dtbX11_bring_0 10 rfl) rfl rfl ?_
      refine cz_iload (pc' := 19) (g_d dtbX11_bring_0 11 rfl) rfl rfl ?_
      refine nz_iadd (pc' := 20) (g_d dtbX11_bring_0 12 rfl) rfl ?_
      refine nz_iald (i + t) (pc' := 21) (g_d dtbX11_bring_0 13 rfl) hla hsa (by omega) (by push_cast; rfl) (by omega) rfl ?_
      rw [show (zr Z kb (zcp (Z ka) (Z kb) i j t)) ka (i + t) = Z ka (i + t) from bring_rd hov ht2]
      refine nz_iast (j + t) (pc' := 22) (g_d dtbX11_bring_0 14 rfl) hlb hsb (by omega) (by push_cast; rfl) (by omega) rfl ?_
      refine nz_iinc (L' := [some (.ref ka), some (iv ((i : Int))), some (.ref kb), some (iv ((j : Int))), some (iv ((n : Int))), some (iv (((t : Int)) + 1))]) (pc' := 25) (g_d dtbX11_bring_0 15 rfl) (by decide) rfl rfl rfl ?_
      refine cz_goto (pc' := 3) (g_d dtbX11_bring_0 16 rfl) rfl ?_
      rw [bring_s]
      exact ih (n - (t + 1)) (by omega) (t + 1) rfl (by omega)

set_option maxRecDepth 20000 in
set_option maxHeartbeats 4000000 in
theorem m_bring (G : Wd) (Z : ZS) (ka kb i j n na nb : Nat) (hla : ka < 42) (hlb : kb < 42) (hsa : g_sh ka = .inl (0, na)) (hsb : g_sh kb = .inl (0, nb)) (hna : na ≤ 1000) (hnb : nb ≤ 1000) (hi : i + n ≤ na) (hj : j + n ≤ nb) (hov : ka ≠ kb ∨ j ≤ i ∨ i + n ≤ j) : Cn G mX11_bring 0 [some (.ref ka), some (iv ((i : Int))), some (.ref kb), some (iv ((j : Int))), some (iv ((n : Int))), none] [] Z (qv (fun W => zr Z kb (zcp (Z ka) (Z kb) i j n) = W)) := by
  refine nz_iconst (pc' := 1) (g_d dtbX11_bring_0 0 rfl) rfl ?_
  refine cz_istore (L' := [some (.ref ka), some (iv ((i : Int))), some (.ref kb), some (iv ((j : Int))), some (iv ((n : Int))), some (iv 0)]) (pc' := 3) (g_d dtbX11_bring_0 1 rfl) (by decide) rfl rfl ?_
  have q := l_bring G Z ka kb i j n na nb hla hlb hsa hsb hna hnb hi hj hov (n - 0) 0 rfl (by omega)
  rw [show zr Z kb (zcp (Z ka) (Z kb) i j 0) = Z from zr_self (by funext x; simp [zcp]; omega)] at q
  exact q
