/-! what a bill is; where to look -/
theorem bw_shl : ∀ k, k < 6 → (Int32.ofInt 1 <<< (Int32.ofInt ((k : Nat) : Int) &&& 31)) = Int32.ofInt ((2 ^ k : Nat) : Int) := by decide +kernel
theorem bw_or : ∀ k, k < 6 → ∀ a, a < 2 ^ k → (Int32.ofInt ((a : Nat) : Int) ||| Int32.ofInt ((2 ^ k : Nat) : Int)) = Int32.ofInt ((a + 2 ^ k : Nat) : Int) := by decide +kernel
theorem bw_or0 (a : Int) : (Int32.ofInt a ||| Int32.ofInt 0) = Int32.ofInt a := by
  have : Int32.ofInt 0 = 0 := rfl
  rw [this]; exact Int32.or_zero
theorem bw_shr : ∀ i, i < 6 → ∀ a, a < 64 → (Int32.ofInt ((a : Nat) : Int) >>> (Int32.ofInt ((i : Nat) : Int) &&& 31)) = Int32.ofInt ((a / 2 ^ i : Nat) : Int) := by decide +kernel
theorem bw_and : ∀ a, a < 64 → (Int32.ofInt ((a : Nat) : Int) &&& Int32.ofInt 1) = Int32.ofInt ((a % 2 : Nat) : Int) := by decide +kernel
section
variable {G : Wd} {M : MD} {pc pc' : Nat} {L : List (Option Value)} {S : List Value} {Z : ZS} {Q : Option Value → ZS → Prop}
theorem nz_shl1 (hd : decode M.2.1 pc = .ok (.ishl, 1)) {k : Nat} (hk : k < 6) (hp : pc + 1 = pc') (h : Cn G M pc' L (iv ((2 ^ k : Nat) : Int) :: S) Z Q) : Cn G M pc L (iv (k : Int) :: iv 1 :: S) Z Q := cz_ishl hd hp (by rw [bw_shl k hk]; exact h)
theorem nz_orp (hd : decode M.2.1 pc = .ok (.ior, 1)) {k a : Nat} (hk : k < 6 ∧ a < 2 ^ k) (hp : pc + 1 = pc') (h : Cn G M pc' L (iv ((a + 2 ^ k : Nat) : Int) :: S) Z Q) : Cn G M pc L (iv ((2 ^ k : Nat) : Int) :: iv (a : Int) :: S) Z Q := cz_ior hd hp (by rw [bw_or k hk.1 a hk.2]; exact h)
theorem nz_or0 (hd : decode M.2.1 pc = .ok (.ior, 1)) {a : Int} (hk : True) (hp : pc + 1 = pc') (h : Cn G M pc' L (iv a :: S) Z Q) : Cn G M pc L (iv 0 :: iv a :: S) Z Q := cz_ior hd hp (by rw [bw_or0]; exact h)
theorem nz_shrb (hd : decode M.2.1 pc = .ok (.ishr, 1)) {i a : Nat} (hk : i < 6 ∧ a < 64) (hp : pc + 1 = pc') (h : Cn G M pc' L (iv ((a / 2 ^ i : Nat) : Int) :: S) Z Q) : Cn G M pc L (iv (i : Int) :: iv (a : Int) :: S) Z Q := cz_ishr hd hp (by rw [bw_shr i hk.1 a hk.2]; exact h)
theorem nz_and1 (hd : decode M.2.1 pc = .ok (.iand, 1)) {a : Nat} (ha : a < 64) (hp : pc + 1 = pc') (h : Cn G M pc' L (iv ((a % 2 : Nat) : Int) :: S) Z Q) : Cn G M pc L (iv 1 :: iv (a : Int) :: S) Z Q := cz_iand hd hp (by rw [bw_and a ha]; exact h)
end
def ntok (f : Row) (κ p : Int) (i : Nat) : Prop := dayB κ (f (29 + 5 * i + 1)) = f (29 + 5 * i + 2) ∧ pndB κ p (f (29 + 5 * i + 3)) = f (29 + 5 * i + 4)
def fts (f : Row) (κ b : Nat) : Prop := ∀ i : Nat, i < 6 → (i : Int) < f 28 → f (29 + 5 * i + 0) = (b : Int) → ntok f (κ : Int) (f (21 + b)) i
def ftsD (f : Row) (κ b : Nat) : Decidable (fts f κ b) := by unfold fts ntok; exact inferInstance
def ksD (f : Row) (b : Nat) (d : ∀ κ, Decidable (fts f κ b)) : Nat → Nat
  | 0 => 0
  | k + 1 => if fts f k b then ksD f b d k + 2 ^ k else ksD f b d k
def kset (f : Row) (b : Nat) : Nat → Nat := ksD f b (fun κ => ftsD f κ b)
theorem kset_y {f : Row} {b k : Nat} (h : fts f k b) : kset f b (k + 1) = kset f b k + 2 ^ k := by simp only [kset, ksD]; rw [if_pos h]
theorem kset_n {f : Row} {b k : Nat} (h : ¬ fts f k b) : kset f b (k + 1) = kset f b k := by simp only [kset, ksD]; rw [if_neg h]
theorem kset_lt {f : Row} {b : Nat} : ∀ k, kset f b k < 2 ^ k := by
  intro k
  induction k with
  | zero => simp [kset, ksD]
  | succ k ih =>
    by_cases h : fts f k b
    · rw [kset_y h, Nat.pow_succ]; omega
    · rw [kset_n h, Nat.pow_succ]; omega
theorem no_in {B : Int} {f : Row} (h : RO B f) {i : Nat} (hi : i < 6) (hi2 : (i : Int) < f 28) : (1 ≤ f (29 + 5 * i + 1) ∧ f (29 + 5 * i + 1) ≤ 28) ∧ (1 ≤ f (29 + 5 * i + 2) ∧ f (29 + 5 * i + 2) ≤ 28) ∧ (0 ≤ f (29 + 5 * i + 3) ∧ f (29 + 5 * i + 3) ≤ 40) ∧ (-999 ≤ f (29 + 5 * i + 4) ∧ f (29 + 5 * i + 4) ≤ 999) ∧ (0 ≤ f (29 + 5 * i + 0) ∧ f (29 + 5 * i + 0) ≤ 6) := by
  have := h.2.2.2.2.1 i hi hi2
  unfold NO1 at this
  rw [show 29 + 5 * i + 1 = 30 + 5 * i by omega, show 29 + 5 * i + 2 = 31 + 5 * i by omega, show 29 + 5 * i + 3 = 32 + 5 * i by omega, show 29 + 5 * i + 4 = 33 + 5 * i by omega, Nat.add_zero]
  exact ⟨this.2.1, this.2.2.1, this.2.2.2.1, this.2.2.2.2, this.1⟩
def alS (f : Row) (s b : Nat) (κ mo : Int) : Nat → Int
  | 0 => 0
  | i + 1 => if s / 2 ^ i % 2 = 1 ∧ dayB (i : Int) (f (14 + b)) = dayB κ (f (14 + b)) ∧ pndB (i : Int) (f (21 + b)) mo = pndB κ (f (21 + b)) mo then alS f s b κ mo i + 1 else alS f s b κ mo i
theorem alS_in {f : Row} {s b : Nat} {κ mo : Int} : ∀ i : Nat, 0 ≤ alS f s b κ mo i ∧ alS f s b κ mo i ≤ (i : Int) := by
  intro i
  induction i with
  | zero => simp [alS]
  | succ i ih => simp only [alS]; split <;> omega
def moS (f : Row) (s b : Nat) (mo : Int) : Nat → Int
  | 0 => 0
  | k + 1 => if s / 2 ^ k % 2 = 1 then max (moS f s b mo k) (alS f s b (k : Int) mo 6) else moS f s b mo k
theorem moS_in {f : Row} {s b : Nat} {mo : Int} : ∀ k : Nat, 0 ≤ moS f s b mo k ∧ moS f s b mo k ≤ 6 := by
  intro k
  induction k with
  | zero => simp [moS]
  | succ k ih =>
    have := alS_in (f := f) (s := s) (b := b) (κ := (k : Int)) (mo := mo) 6
    simp only [moS]
    split <;> omega
def lkS (f : Row) (s b : Nat) : Nat → Int × Int
  | 0 => (0, 7)
  | i + 1 => if moS f s b (i : Int) 6 < (lkS f s b i).2 then ((i : Int), moS f s b (i : Int) 6) else lkS f s b i
theorem lkS_in {f : Row} {s b : Nat} : ∀ i : Nat, 0 ≤ (lkS f s b i).2 ∧ (lkS f s b i).2 ≤ 7 := by
  intro i
  induction i with
  | zero => simp [lkS]
  | succ i ih =>
    have := moS_in (f := f) (s := s) (b := b) (mo := (i : Int)) 6
    simp only [lkS]
    split
    · dsimp only; omega
    · exact ih
def xIs (A : AS) (b : Int) : Int × AS := if 0 ≤ b ∧ b < A.1 6 then ((kset A.1 b.toNat 6 : Int), A) else (-2, aBad A)
def xLook (A : AS) (b : Int) : Int × AS := if 0 ≤ b ∧ b < A.1 6 then (if kset A.1 b.toNat 6 = 0 then -1 else (lkS A.1 (kset A.1 b.toNat 6) b.toNat 13).1, A) else (-2, aBad A)

set_option maxRecDepth 20000 in
set_option maxHeartbeats 4000000 in
theorem c_fitsNote (G : Wd) (Z : ZS) (f : Row) (B : Int) (hB : BR Z 1 f) (hR : RO B f) (hBB : B ≤ 60000000) (κ : Nat) (hκ6 : κ < 6) (i : Nat) (p : Int) (hp : 0 ≤ p ∧ p ≤ 99) (hi6 : i < 6) (hi2 : (i : Int) < f 28) : Cn G mX10_fitsNote 0 [some (.ref 0), some (.ref (26 + κ)), some (iv ((i : Int))), some (iv (p))] [] Z (qi (fun r W => Z = W ∧ ((r = 1 ∧ ntok f (κ : Int) p i) ∨ (r = 0 ∧ ¬ ntok f (κ : Int) p i)))) := by
  have h6 := hR.2.1
  have hf3 : 1 ≤ f 3 ∧ f 3 ≤ 28 := hR.1.2.2.2.1
  have hf4 : 0 ≤ f 4 ∧ f 4 ≤ B := by have := hR.1.2.2.2.2.1; omega
  have hf0 := hR.1.1
  have hno := no_in hR hi6 hi2
  have hdI := dayB_in (κ := (κ : Int)) (d := f (29 + 5 * i + 1)) (by omega)
  have hpI := pndB_in (κ := (κ : Int)) (p := p) (m := f (29 + 5 * i + 3)) hp
  refine cz_aload_n (pc' := 1) (g_d dtbX10_fitsNote_0 0 rfl) rfl rfl ?_
  refine cz_aload_n (pc' := 2) (g_d dtbX10_fitsNote_0 1 rfl) rfl rfl ?_
  refine nz_getf (v := .ref 1) (pc' := 5) (g_d dtbX10_fitsNote_0 2 rfl) gf_X10_10 (by decide) rfl rfl rfl ?_
  refine cz_iload_n (pc' := 6) (g_d dtbX10_fitsNote_0 3 rfl) rfl rfl ?_
  refine nz_iconst (pc' := 7) (g_d dtbX10_fitsNote_0 4 rfl) rfl ?_
  refine nz_cVi (M' := mX0_notePart) (k := 1) (As := [iv ((i : Int)), iv 1]) (S := [.ref (26 + κ)]) (L := [some (.ref 0), some (.ref (26 + κ)), some (iv ((i : Int))), some (iv (p))]) (pc' := 10) (g_d dtbX10_fitsNote_0 5 rfl) lk_X10_255 okX0_notePart (by decide) rfl rfl rfl rfl (Nat.le_of_ble_eq_true rfl) (Nat.le_of_ble_eq_true rfl) (by decide) rfl (c_noteR G Z i 1 f hB hi6 hi2 (by decide)) ?_
  rintro _ _ ⟨rfl, rfl⟩
  refine nz_cD (κ := κ) (S := []) (L := [some (.ref 0), some (.ref (26 + κ)), some (iv ((i : Int))), some (iv (p))]) (pc' := 13) (g_d dtbX10_fitsNote_0 6 rfl) kd_X10 hκ6 (by omega) (Nat.le_of_ble_eq_true rfl) (by decide) (by decide) rfl ?_
  refine cz_aload_n (pc' := 14) (g_d dtbX10_fitsNote_0 7 rfl) rfl rfl ?_
  refine nz_getf (v := .ref 1) (pc' := 17) (g_d dtbX10_fitsNote_0 8 rfl) gf_X10_10 (by decide) rfl rfl rfl ?_
  refine cz_iload_n (pc' := 18) (g_d dtbX10_fitsNote_0 9 rfl) rfl rfl ?_
  refine nz_iconst (pc' := 19) (g_d dtbX10_fitsNote_0 10 rfl) rfl ?_
  refine nz_cVi (M' := mX0_notePart) (k := 1) (As := [iv ((i : Int)), iv 2]) (S := [iv (dayB (κ : Int) (f (29 + 5 * i + 1)))]) (L := [some (.ref 0), some (.ref (26 + κ)), some (iv ((i : Int))), some (iv (p))]) (pc' := 22) (g_d dtbX10_fitsNote_0 11 rfl) lk_X10_255 okX0_notePart (by decide) rfl rfl rfl rfl (Nat.le_of_ble_eq_true rfl) (Nat.le_of_ble_eq_true rfl) (by decide) rfl (c_noteR G Z i 2 f hB hi6 hi2 (by decide)) ?_
  rintro _ _ ⟨rfl, rfl⟩
  refine nz_icmp_ne (tgt := 55) (pc' := 25) (g_d dtbX10_fitsNote_0 12 rfl) (by omega) (by omega) rfl rfl (fun h22 => ?_) (fun h22 => ?_)
  · refine nz_iconst (pc' := 56) (g_d dtbX10_fitsNote_0 29 rfl) rfl ?_
    refine nz_ri .boolean (g_d dtbX10_fitsNote_0 30 rfl) rfl rfl ?_
    exact ⟨rfl, Or.inr ⟨rfl, fun q => by first | exact h48 q.2 | exact h22 q.1⟩⟩
  · refine cz_aload_n (pc' := 26) (g_d dtbX10_fitsNote_0 13 rfl) rfl rfl ?_
    refine cz_aload_n (pc' := 27) (g_d dtbX10_fitsNote_0 14 rfl) rfl rfl ?_
    refine nz_getf (v := .ref 1) (pc' := 30) (g_d dtbX10_fitsNote_0 15 rfl) gf_X10_10 (by decide) rfl rfl rfl ?_
    refine cz_iload_n (pc' := 31) (g_d dtbX10_fitsNote_0 16 rfl) rfl rfl ?_
    refine nz_iconst (pc' := 32) (g_d dtbX10_fitsNote_0 17 rfl) rfl ?_
    refine nz_cVi (M' := mX0_notePart) (k := 1) (As := [iv ((i : Int)), iv 3]) (S := [.ref (26 + κ)]) (L := [some (.ref 0), some (.ref (26 + κ)), some (iv ((i : Int))), some (iv (p))]) (pc' := 35) (g_d dtbX10_fitsNote_0 18 rfl) lk_X10_255 okX0_notePart (by decide) rfl rfl rfl rfl (Nat.le_of_ble_eq_true rfl) (Nat.le_of_ble_eq_true rfl) (by decide) rfl (c_noteR G Z i 3 f hB hi6 hi2 (by decide)) ?_
    rintro _ _ ⟨rfl, rfl⟩
    refine cz_iload_n (pc' := 36) (g_d dtbX10_fitsNote_0 19 rfl) rfl rfl ?_
    refine nz_cP (κ := κ) (S := []) (L := [some (.ref 0), some (.ref (26 + κ)), some (iv ((i : Int))), some (iv (p))]) (pc' := 39) (g_d dtbX10_fitsNote_0 20 rfl) kp_X10 hκ6 (by omega) (by omega) (Nat.le_of_ble_eq_true rfl) (by decide) (by decide) rfl ?_
    refine cz_aload_n (pc' := 40) (g_d dtbX10_fitsNote_0 21 rfl) rfl rfl ?_
    refine nz_getf (v := .ref 1) (pc' := 43) (g_d dtbX10_fitsNote_0 22 rfl) gf_X10_10 (by decide) rfl rfl rfl ?_
    refine cz_iload_n (pc' := 44) (g_d dtbX10_fitsNote_0 23 rfl) rfl rfl ?_
    refine nz_iconst (pc' := 45) (g_d dtbX10_fitsNote_0 24 rfl) rfl ?_
    refine nz_cVi (M' := mX0_notePart) (k := 1) (As := [iv ((i : Int)), iv 4]) (S := [iv (pndB (κ : Int) p (f (29 + 5 * i + 3)))]) (L := [some (.ref 0), some (.ref (26 + κ)), some (iv ((i : Int))), some (iv (p))]) (pc' := 48) (g_d dtbX10_fitsNote_0 25 rfl) lk_X10_255 okX0_notePart (by decide) rfl rfl rfl rfl (Nat.le_of_ble_eq_true rfl) (Nat.le_of_ble_eq_true rfl) (by decide) rfl (c_noteR G Z i 4 f hB hi6 hi2 (by decide)) ?_
    rintro _ _ ⟨rfl, rfl⟩
    refine nz_icmp_ne (tgt := 55) (pc' := 51) (g_d dtbX10_fitsNote_0 26 rfl) (by omega) (by omega) rfl rfl (fun h48 => ?_) (fun h48 => ?_)
    · refine nz_iconst (pc' := 56) (g_d dtbX10_fitsNote_0 29 rfl) rfl ?_
      refine nz_ri .boolean (g_d dtbX10_fitsNote_0 30 rfl) rfl rfl ?_
      exact ⟨rfl, Or.inr ⟨rfl, fun q => by first | exact h48 q.2 | exact h22 q.1⟩⟩
    · refine nz_iconst (pc' := 52) (g_d dtbX10_fitsNote_0 27 rfl) rfl ?_
      refine cz_goto (pc' := 56) (g_d dtbX10_fitsNote_0 28 rfl) rfl ?_
      refine nz_ri .boolean (g_d dtbX10_fitsNote_0 30 rfl) rfl rfl ?_
      exact ⟨rfl, Or.inl ⟨rfl, h22, h48⟩⟩

set_option maxRecDepth 20000 in
set_option maxHeartbeats 4000000 in
theorem l_fitsNotes (G : Wd) (Z : ZS) (f : Row) (B : Int) (hB : BR Z 1 f) (hR : RO B f) (hBB : B ≤ 60000000) (κ : Nat) (hκ6 : κ < 6) (b : Nat) (hb7 : b < 7) (hb2 : (b : Int) < f 6) (hpo : 1 ≤ f (21 + b) ∧ f (21 + b) ≤ 99) : ∀ (d : Nat) (i : Nat), 6 - i = d → (i ≤ 6) → (∀ x : Nat, x < i → x < 6 → (x : Int) < f 28 → f (29 + 5 * x + 0) = (b : Int) → ntok f (κ : Int) (f (21 + b)) x) → Cn G mX10_fitsNotes 2 [some (.ref 0), some (.ref (26 + κ)), some (iv ((b : Int))), some (iv ((i : Int)))] [] Z (qi (fun r W => Z = W ∧ ((r = 1 ∧ fts f κ b) ∨ (r = 0 ∧ ¬ fts f κ b)))) := by
  intro d
  induction d using Nat.strongRecOn with
  | ind d ih =>
    intro i hd hi hall
    have h6 := hR.2.1
    have hf3 : 1 ≤ f 3 ∧ f 3 ≤ 28 := hR.1.2.2.2.1
    have hf4 : 0 ≤ f 4 ∧ f 4 ≤ B := by have := hR.1.2.2.2.2.1; omega
    have hf0 := hR.1.1
    have h28 := hR.2.2.2.1
    refine cz_iload_n (pc' := 3) (g_d dtbX10_fitsNotes_0 2 rfl) rfl rfl ?_
    refine cz_aload_n (pc' := 4) (g_d dtbX10_fitsNotes_0 3 rfl) rfl rfl ?_
    refine nz_getf (v := .ref 1) (pc' := 7) (g_d dtbX10_fitsNotes_0 4 rfl) gf_X10_10 (by decide) rfl rfl rfl ?_
    refine nz_getf (v := iv (f 28)) (pc' := 10) (g_d dtbX10_fitsNotes_0 5 rfl) gf_X10_178 (by decide) rfl (congrArg iv (br1_5 (hB))) rfl ?_
    refine nz_icmp_ge (tgt := 51) (pc' := 13) (g_d dtbX10_fitsNotes_0 6 rfl) (by omega) (by omega) rfl rfl (fun h10 => ?_) (fun h10 => ?_)
    · refine nz_iconst (pc' := 52) (g_d dtbX10_fitsNotes_0 27 rfl) rfl ?_
      refine nz_ri .boolean (g_d dtbX10_fitsNotes_0 28 rfl) rfl rfl ?_
      exact ⟨rfl, Or.inl ⟨rfl, fun x hx6 hx2 hxb => hall x (by omega) hx6 hx2 hxb⟩⟩
    · have hi6 : i < 6 := by omega
      have hi2 : (i : Int) < f 28 := by omega
      have hno := no_in hR hi6 hi2
      refine cz_aload_n (pc' := 14) (g_d dtbX10_fitsNotes_0 7 rfl) rfl rfl ?_
      refine nz_getf (v := .ref 1) (pc' := 17) (g_d dtbX10_fitsNotes_0 8 rfl) gf_X10_10 (by decide) rfl rfl rfl ?_
      refine cz_iload_n (pc' := 18) (g_d dtbX10_fitsNotes_0 9 rfl) rfl rfl ?_
      refine nz_iconst (pc' := 19) (g_d dtbX10_fitsNotes_0 10 rfl) rfl ?_
      refine nz_cVi (M' := mX0_notePart) (k := 1) (As := [iv ((i : Int)), iv 0]) (S := []) (L := [some (.ref 0), some (.ref (26 + κ)), some (iv ((b : Int))), some (iv ((i : Int)))]) (pc' := 22) (g_d dtbX10_fitsNotes_0 11 rfl) lk_X10_255 okX0_notePart (by decide) rfl rfl rfl rfl (Nat.le_of_ble_eq_true rfl) (Nat.le_of_ble_eq_true rfl) (by decide) rfl (c_noteR G Z i 0 f hB hi6 hi2 (by decide)) ?_
      rintro _ _ ⟨rfl, rfl⟩
      refine cz_iload_n (pc' := 23) (g_d dtbX10_fitsNotes_0 12 rfl) rfl rfl ?_
      refine nz_icmp_ne (tgt := 45) (pc' := 26) (g_d dtbX10_fitsNotes_0 13 rfl) (by omega) (by omega) rfl rfl (fun h23 => ?_) (fun h23 => ?_)
      · refine nz_iinc (L' := [some (.ref 0), some (.ref (26 + κ)), some (iv ((b : Int))), some (iv (((i : Int)) + 1))]) (pc' := 48) (g_d dtbX10_fitsNotes_0 25 rfl) (by decide) rfl rfl rfl ?_
        refine cz_goto (pc' := 2) (g_d dtbX10_fitsNotes_0 26 rfl) rfl ?_
        refine ih (6 - (i + 1)) (by omega) (i + 1) rfl (by omega) (fun x hx hx6 hx2 hxb => ?_)
        rcases (show x < i ∨ x = i by omega) with q | rfl
        · exact hall x q hx6 hx2 hxb
        · first | exact hw37 | exact absurd hxb h23
      · refine cz_aload_n (pc' := 27) (g_d dtbX10_fitsNotes_0 14 rfl) rfl rfl ?_
        refine cz_aload_n (pc' := 28) (g_d dtbX10_fitsNotes_0 15 rfl) rfl rfl ?_
        refine cz_iload_n (pc' := 29) (g_d dtbX10_fitsNotes_0 16 rfl) rfl rfl ?_
        refine cz_aload_n (pc' := 30) (g_d dtbX10_fitsNotes_0 17 rfl) rfl rfl ?_
        refine nz_getf (v := .ref 1) (pc' := 33) (g_d dtbX10_fitsNotes_0 18 rfl) gf_X10_10 (by decide) rfl rfl rfl ?_
        refine cz_iload_n (pc' := 34) (g_d dtbX10_fitsNotes_0 19 rfl) rfl rfl ?_
        refine nz_cVi (M' := mX0_poundsAt) (k := 1) (As := [iv ((b : Int))]) (S := [iv ((i : Int)), .ref (26 + κ), .ref 0]) (L := [some (.ref 0), some (.ref (26 + κ)), some (iv ((b : Int))), some (iv ((i : Int)))]) (pc' := 37) (g_d dtbX10_fitsNotes_0 20 rfl) lk_X10_130 okX0_poundsAt (by decide) rfl rfl rfl rfl (Nat.le_of_ble_eq_true rfl) (Nat.le_of_ble_eq_true rfl) (by decide) rfl (c_poundsR G Z b f (hB) hb7 hb2) ?_
        rintro _ _ ⟨rfl, rfl⟩
        refine nz_cVi (M' := mX10_fitsNote) (k := 0) (As := [.ref (26 + κ), iv ((i : Int)), iv (f (21 + b))]) (S := []) (L := [some (.ref 0), some (.ref (26 + κ)), some (iv ((b : Int))), some (iv ((i : Int)))]) (pc' := 40) (g_d dtbX10_fitsNotes_0 21 rfl) lk_X10_258 okX10_fitsNote (by decide) rfl rfl rfl rfl (Nat.le_of_ble_eq_true rfl) (Nat.le_of_ble_eq_true rfl) (by decide) rfl (c_fitsNote G Z f B hB hR hBB κ hκ6 i (f (21 + b)) (by omega) hi6 hi2) ?_
        rintro _ _ ⟨rfl, ⟨rfl, hw37⟩ | ⟨rfl, hw37⟩⟩
        · refine nz_if_ne_t (tgt := 45) (g_d dtbX10_fitsNotes_0 22 rfl) (by omega) rfl (by omega) ?_
          refine nz_iinc (L' := [some (.ref 0), some (.ref (26 + κ)), some (iv ((b : Int))), some (iv (((i : Int)) + 1))]) (pc' := 48) (g_d dtbX10_fitsNotes_0 25 rfl) (by decide) rfl rfl rfl ?_
          refine cz_goto (pc' := 2) (g_d dtbX10_fitsNotes_0 26 rfl) rfl ?_
          refine ih (6 - (i + 1)) (by omega) (i + 1) rfl (by omega) (fun x hx hx6 hx2 hxb => ?_)
          rcases (show x < i ∨ x = i by omega) with q | rfl
          · exact hall x q hx6 hx2 hxb
          · first | exact hw37 | exact absurd hxb h23
        · refine nz_if_ne_f (pc' := 43) (g_d dtbX10_fitsNotes_0 22 rfl) (by omega) (by decide) rfl (by omega) ?_
          refine nz_iconst (pc' := 44) (g_d dtbX10_fitsNotes_0 23 rfl) rfl ?_
          refine nz_ri .boolean (g_d dtbX10_fitsNotes_0 24 rfl) rfl rfl ?_
          exact ⟨rfl, Or.inr ⟨rfl, fun q => hw37 (q i hi6 hi2 (by omega))⟩⟩

set_option maxRecDepth 20000 in
set_option maxHeartbeats 4000000 in
theorem c_fitsNotes (G : Wd) (Z : ZS) (f : Row) (B : Int) (hB : BR Z 1 f) (hR : RO B f) (hBB : B ≤ 60000000) (κ : Nat) (hκ6 : κ < 6) (b : Nat) (hb7 : b < 7) (hb2 : (b : Int) < f 6) (hpo : 1 ≤ f (21 + b) ∧ f (21 + b) ≤ 99) : Cn G mX10_fitsNotes 0 [some (.ref 0), some (.ref (26 + κ)), some (iv ((b : Int))), none] [] Z (qi (fun r W => Z = W ∧ ((r = 1 ∧ fts f κ b) ∨ (r = 0 ∧ ¬ fts f κ b)))) := by
  refine nz_iconst (pc' := 1) (g_d dtbX10_fitsNotes_0 0 rfl) rfl ?_
  refine cz_istore_n (L' := [some (.ref 0), some (.ref (26 + κ)), some (iv ((b : Int))), some (iv 0)]) (pc' := 2) (g_d dtbX10_fitsNotes_0 1 rfl) (by decide) rfl rfl ?_
  exact l_fitsNotes G Z f B hB hR hBB κ hκ6 b hb7 hb2 hpo (6 - 0) 0 rfl (by omega) (fun x hx => absurd hx (Nat.not_lt_zero x))

set_option maxRecDepth 20000 in
set_option maxHeartbeats 4000000 in
theorem l_kinds (G : Wd) (Z : ZS) (f : Row) (B : Int) (hB : BR Z 1 f) (hR : RO B f) (hBB : B ≤ 60000000) (b : Nat) (hb7 : b < 7) (hb2 : (b : Int) < f 6) (hpo : 1 ≤ f (21 + b) ∧ f (21 + b) ≤ 99) : ∀ (d : Nat) (κ : Nat), 6 - κ = d → (κ ≤ 6) → Cn G mX10_kindsThatFit 4 [some (.ref 0), some (iv ((b : Int))), some (iv (((kset f b κ : Nat) : Int))), some (iv ((κ : Int)))] [] Z (qi (fun r W => (kset f b 6 : Int) = r ∧ Z = W)) := by
  intro d
  induction d using Nat.strongRecOn with
  | ind d ih =>
    intro κ hd hκ
    refine cz_iload_n (pc' := 5) (g_d dtbX10_kindsThatFit_0 4 rfl) rfl rfl ?_
    refine nz_bipush (pc' := 7) (g_d dtbX10_kindsThatFit_0 5 rfl) (by decide) rfl ?_
    refine nz_icmp_ge (tgt := 38) (pc' := 10) (g_d dtbX10_kindsThatFit_0 6 rfl) (by omega) (by omega) rfl rfl (fun h7 => ?_) (fun h7 => ?_)
    · refine cz_iload_n (pc' := 39) (g_d dtbX10_kindsThatFit_0 23 rfl) rfl rfl ?_
      refine nz_ri .int (g_d dtbX10_kindsThatFit_0 24 rfl) rfl rfl ?_
      rw [show κ = 6 by omega]
      exact ⟨rfl, rfl⟩
    · refine cz_aload_n (pc' := 11) (g_d dtbX10_kindsThatFit_0 7 rfl) rfl rfl ?_
      refine cz_aload_n (pc' := 12) (g_d dtbX10_kindsThatFit_0 8 rfl) rfl rfl ?_
      refine nz_getf (v := .ref 25) (pc' := 15) (g_d dtbX10_kindsThatFit_0 9 rfl) gf_X10_44 (by decide) rfl rfl rfl ?_
      refine cz_iload_n (pc' := 16) (g_d dtbX10_kindsThatFit_0 10 rfl) rfl rfl ?_
      refine nz_cVr (M' := mX2_numbered) (k := 25) (As := [iv ((κ : Int))]) (S := [.ref 0]) (L := [some (.ref 0), some (iv ((b : Int))), some (iv (((kset f b κ : Nat) : Int))), some (iv ((κ : Int)))]) (pc' := 19) (g_d dtbX10_kindsThatFit_0 11 rfl) lk_X10_121 okX2_numbered (by decide) rfl rfl rfl rfl (Nat.le_of_ble_eq_true rfl) (Nat.le_of_ble_eq_true rfl) (by decide) rfl (c_numbered G Z κ (by omega)) ?_
      rintro _ _ ⟨rfl, rfl⟩
      refine cz_iload_n (pc' := 20) (g_d dtbX10_kindsThatFit_0 12 rfl) rfl rfl ?_
      refine nz_cVi (M' := mX10_fitsNotes) (k := 0) (As := [.ref (26 + κ), iv ((b : Int))]) (S := []) (L := [some (.ref 0), some (iv ((b : Int))), some (iv (((kset f b κ : Nat) : Int))), some (iv ((κ : Int)))]) (pc' := 23) (g_d dtbX10_kindsThatFit_0 13 rfl) lk_X10_251 okX10_fitsNotes (by decide) rfl rfl rfl rfl (Nat.le_of_ble_eq_true rfl) (Nat.le_of_ble_eq_true rfl) (by decide) rfl (c_fitsNotes G Z f B hB hR hBB κ (by omega) b hb7 hb2 hpo) ?_
      rintro _ _ ⟨rfl, ⟨rfl, hw20⟩ | ⟨rfl, hw20⟩⟩
      · refine nz_if_eq_f (pc' := 26) (g_d dtbX10_kindsThatFit_0 14 rfl) (by omega) (by decide) rfl (by omega) ?_
        refine cz_iload_n (pc' := 27) (g_d dtbX10_kindsThatFit_0 15 rfl) rfl rfl ?_
        refine nz_iconst (pc' := 28) (g_d dtbX10_kindsThatFit_0 16 rfl) rfl ?_
        refine cz_iload_n (pc' := 29) (g_d dtbX10_kindsThatFit_0 17 rfl) rfl rfl ?_
        refine nz_shl1 (pc' := 30) (g_d dtbX10_kindsThatFit_0 18 rfl) (by omega) rfl ?_
        refine nz_orp (pc' := 31) (g_d dtbX10_kindsThatFit_0 19 rfl) ⟨by omega, kset_lt κ⟩ rfl ?_
        refine cz_istore_n (L' := [some (.ref 0), some (iv ((b : Int))), some (iv (((kset f b κ + 2 ^ κ : Nat) : Int))), some (iv ((κ : Int)))]) (pc' := 32) (g_d dtbX10_kindsThatFit_0 20 rfl) (by decide) rfl rfl ?_
        refine nz_iinc (L' := [some (.ref 0), some (iv ((b : Int))), some (iv (((kset f b κ + 2 ^ κ : Nat) : Int))), some (iv (((κ : Int)) + 1))]) (pc' := 35) (g_d dtbX10_kindsThatFit_0 21 rfl) (by decide) rfl rfl rfl ?_
        refine cz_goto (pc' := 4) (g_d dtbX10_kindsThatFit_0 22 rfl) rfl ?_
        have em := kset_y (b := b) hw20
        have q := ih (6 - (κ + 1)) (by omega) (κ + 1) rfl (by omega)
        rw [em] at q
        exact q
      · refine nz_if_eq_t (tgt := 32) (g_d dtbX10_kindsThatFit_0 14 rfl) (by omega) rfl (by omega) ?_
        refine nz_iinc (L' := [some (.ref 0), some (iv ((b : Int))), some (iv (((kset f b κ : Nat) : Int))), some (iv (((κ : Int)) + 1))]) (pc' := 35) (g_d dtbX10_kindsThatFit_0 21 rfl) (by decide) rfl rfl rfl ?_
        refine cz_goto (pc' := 4) (g_d dtbX10_kindsThatFit_0 22 rfl) rfl ?_
        have em := kset_n (b := b) hw20
        have q := ih (6 - (κ + 1)) (by omega) (κ + 1) rfl (by omega)
        rw [em] at q
        exact q

set_option maxRecDepth 20000 in
set_option maxHeartbeats 4000000 in
theorem c_kindsF (G : Wd) (Z : ZS) (f : Row) (B : Int) (hB : BR Z 1 f) (hR : RO B f) (hBB : B ≤ 60000000) (b : Nat) (hb7 : b < 7) (hb2 : (b : Int) < f 6) (hpo : 1 ≤ f (21 + b) ∧ f (21 + b) ≤ 99) : Cn G mX10_kindsThatFit 0 [some (.ref 0), some (iv ((b : Int))), none, none] [] Z (qi (fun r W => (kset f b 6 : Int) = r ∧ Z = W)) := by
  refine nz_iconst (pc' := 1) (g_d dtbX10_kindsThatFit_0 0 rfl) rfl ?_
  refine cz_istore_n (L' := [some (.ref 0), some (iv ((b : Int))), some (iv 0), none]) (pc' := 2) (g_d dtbX10_kindsThatFit_0 1 rfl) (by decide) rfl rfl ?_
  refine nz_iconst (pc' := 3) (g_d dtbX10_kindsThatFit_0 2 rfl) rfl ?_
  refine cz_istore_n (L' := [some (.ref 0), some (iv ((b : Int))), some (iv 0), some (iv 0)]) (pc' := 4) (g_d dtbX10_kindsThatFit_0 3 rfl) (by decide) rfl rfl ?_
  exact l_kinds G Z f B hB hR hBB b hb7 hb2 hpo (6 - 0) 0 rfl (by omega)
