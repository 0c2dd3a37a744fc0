/-! bills moved, bills left out -/
theorem LD.ext {W : ZS} {m : Nat} {g h : Row} (a : LD W m g) (e : ∀ i, i < m → h i = g i) : LD W m h := ⟨a.1, fun i hi => (a.2 i hi).trans (e i hi).symm⟩
theorem zad_ld {Z : ZS} {c g : Row} {m : Nat} (h : LD Z m g) : LD (zad Z c m m) m (fun i => g i + c i) := ⟨by rw [zad, zr_ne (by omega)]; exact h.1, fun i hi => by simp [zad, zr, hi, h.2 i hi]⟩
theorem zad_sc {Z : ZS} {c : Row} {j m : Nat} : Sc Z (zad Z c j m) := ⟨fun a ha => by rw [zad, zr_ne (by omega)], by rw [zad, zr_ne (by omega)]⟩
theorem zad_fm {Z : ZS} {c : Row} {j m : Nat} : FM Z (zad Z c j m) := fun a ha => by rw [zad, zr_ne (by omega)]
def pB (A : AS) (b : Nat) (d : Int) (i : Nat) : Int := pA A.1 (A.1 (7 + b)) d (A.1 (21 + b)) i
def gMv (A : AS) (b : Nat) (d : Int) : Row := fun i => gA A i + -1 * pB A b (A.1 (14 + b)) i + 1 * pB A b d i
def gLs (A : AS) (b : Nat) : Row := fun i => gA A i + -1 * pB A b (A.1 (14 + b)) i
def mvS (A : AS) (b : Nat) (s : Int × Int) : Nat → Int × Int
  | 0 => s
  | d + 1 => if rC (gMv A b ((d : Int) + 1)) (A.1 5) (A.1 0) 28 < (mvS A b s d).1 then (rC (gMv A b ((d : Int) + 1)) (A.1 5) (A.1 0) 28, 100 * (b : Int) + ((d : Int) + 1)) else mvS A b s d
def mvB (A : AS) : Nat → Int × Int
  | 0 => (rC (gA A) (A.1 5) (A.1 0) 28, -1)
  | b + 1 => mvS A b (mvB A b) 28
def xMove (A : AS) : Int × AS := ((mvB A (A.1 6).toNat).2, A)
def drS (A : AS) : Nat → Int × Int
  | 0 => (-1, 0)
  | b + 1 => if (drS A b).1 = -1 ∨ rC (gLs A b) (A.1 5) (A.1 0) 28 < (drS A b).2 then ((b : Int), rC (gLs A b) (A.1 5) (A.1 0) 28) else drS A b
def xDear (A : AS) : Int × AS := ((drS A (A.1 6).toNat).1, A)
theorem mvS_in {A : AS} {b : Nat} {s : Int × Int} (hs : 0 ≤ s.1 ∧ s.1 ≤ 28) : ∀ d, 0 ≤ (mvS A b s d).1 ∧ (mvS A b s d).1 ≤ 28 := by
  intro d
  induction d with
  | zero => exact hs
  | succ d ih =>
    simp only [mvS]
    split
    · have := rC_in (g := gMv A b ((d : Int) + 1)) (sp := A.1 5) (a := A.1 0) 28
      dsimp only
      omega
    · exact ih
theorem mvB_in {A : AS} : ∀ b, 0 ≤ (mvB A b).1 ∧ (mvB A b).1 ≤ 28 := by
  intro b
  induction b with
  | zero =>
    have := rC_in (g := gA A) (sp := A.1 5) (a := A.1 0) 28
    simp only [mvB]
    omega
  | succ b ih => exact mvS_in ih 28
theorem drS_in {A : AS} : ∀ b : Nat, b ≤ 7 → (-1 ≤ (drS A b).1 ∧ (drS A b).1 ≤ 7) ∧ 0 ≤ (drS A b).2 ∧ (drS A b).2 ≤ 28 := by
  intro b
  induction b with
  | zero => intro _; simp [drS]
  | succ b ih =>
    intro hb
    have h1 := ih (by omega)
    simp only [drS]
    split
    · have := rC_in (g := gLs A b) (sp := A.1 5) (a := A.1 0) 28
      simp only
      omega
    · exact h1
theorem pB_in {B : Int} {A : AS} (h : AO B A) {b : Nat} (hb : b < 7) (hb2 : (b : Int) < A.1 6) (d : Int) (i : Nat) : -99 ≤ pB A b d i ∧ pB A b d i ≤ 990 := by
  have := (h.2.1.2.2.1 b hb hb2).2.2
  exact pA_in (by omega)

set_option maxRecDepth 20000 in
set_option maxHeartbeats 4000000 in
theorem c_chAsLaid (G : Wd) (W : ZS) (A : AS) (B : Int) (m : Nat) (g : Row) (hBW : BR W 1 A.1) (hA : AO B A) (hl : LD W m g) (hm : m ≤ 99) (hg : ∀ i, i < m → -1000000 ≤ g i ∧ g i ≤ 1000000) : Cn G mX10_chargesAsLaid 0 [some (.ref 0)] [] W (qi (fun r V => rC g (A.1 5) (A.1 0) m = r ∧ Sc W V ∧ FM W V ∧ LD V m g)) := by
  have hb0 := hA.1
  have hO := hA.2.1
  have hf := hO.1
  unfold FO at hf
  refine cz_aload_n (pc' := 1) (g_d dtbX10_chargesAsLaid_0 0 rfl) rfl rfl ?_
  refine nz_getf (v := .ref 24) (pc' := 4) (g_d dtbX10_chargesAsLaid_0 1 rfl) gf_X10_36 (by decide) rfl rfl rfl ?_
  refine cz_aload_n (pc' := 5) (g_d dtbX10_chargesAsLaid_0 2 rfl) rfl rfl ?_
  refine nz_getf (v := .ref 1) (pc' := 8) (g_d dtbX10_chargesAsLaid_0 3 rfl) gf_X10_10 (by decide) rfl rfl rfl ?_
  refine nz_getf (v := .ref 2) (pc' := 11) (g_d dtbX10_chargesAsLaid_0 4 rfl) gf_X10_99 (by decide) rfl rfl rfl ?_
  refine nz_iconst (pc' := 12) (g_d dtbX10_chargesAsLaid_0 5 rfl) rfl ?_
  refine nz_iald 0 (pc' := 13) (g_d dtbX10_chargesAsLaid_0 6 rfl) (by decide) rfl (by omega) (by rfl) (by omega) rfl ?_
  rw [show W 2 0 = A.1 0 from br1_fig hBW (by decide)]
  refine cz_aload_n (pc' := 14) (g_d dtbX10_chargesAsLaid_0 7 rfl) rfl rfl ?_
  refine nz_getf (v := .ref 1) (pc' := 17) (g_d dtbX10_chargesAsLaid_0 8 rfl) gf_X10_10 (by decide) rfl rfl rfl ?_
  refine nz_getf (v := .ref 2) (pc' := 20) (g_d dtbX10_chargesAsLaid_0 9 rfl) gf_X10_99 (by decide) rfl rfl rfl ?_
  refine nz_iconst (pc' := 21) (g_d dtbX10_chargesAsLaid_0 10 rfl) rfl ?_
  refine nz_iald 5 (pc' := 22) (g_d dtbX10_chargesAsLaid_0 11 rfl) (by decide) rfl (by omega) (by rfl) (by omega) rfl ?_
  rw [show W 2 5 = A.1 5 from br1_fig hBW (by decide)]
  refine nz_cVv (M' := mX4_run) (k := 24) (As := [iv (A.1 0), iv (A.1 5)]) (S := []) (L := [some (.ref 0)]) (pc' := 25) (g_d dtbX10_chargesAsLaid_0 12 rfl) lk_X10_199 okX4_run (by decide) rfl rfl rfl rfl (Nat.le_of_ble_eq_true rfl) (Nat.le_of_ble_eq_true rfl) (by decide) rfl (c_run G W m (A.1 5) (A.1 0) hl.1 hm (fun i hi => by rw [hl.2 i hi]; exact hg i hi) (by omega) (by omega)) ?_
  rintro V eV
  have q := run_sh (sp := A.1 5) (a := A.1 0) hl
  rw [eV] at q
  refine cz_aload_n (pc' := 26) (g_d dtbX10_chargesAsLaid_0 13 rfl) rfl rfl ?_
  refine nz_getf (v := .ref 24) (pc' := 29) (g_d dtbX10_chargesAsLaid_0 14 rfl) gf_X10_36 (by decide) rfl rfl rfl ?_
  refine nz_getf (v := iv (rC g (A.1 5) (A.1 0) m)) (pc' := 32) (g_d dtbX10_chargesAsLaid_0 15 rfl) gf_X10_149 (by decide) rfl (congrArg iv (q.2.1)) rfl ?_
  refine nz_ri .int (g_d dtbX10_chargesAsLaid_0 16 rfl) rfl rfl ?_
  exact ⟨rfl, eV ▸ zrun_sc, eV ▸ zrun_fm, eV ▸ zrun_ld hl⟩

set_option maxRecDepth 20000 in
set_option maxHeartbeats 4000000 in
theorem l_move1 (G : Wd) (Z : ZS) (A : AS) (B : Int) (hC : CS Z A) (hA : AO B A) (n κ : Nat) (s0 : Int × Int) (hs0 : 0 ≤ s0.1 ∧ s0.1 ≤ 28) (hn7 : n < 7) (hn2 : (n : Int) < A.1 6) (hκ : A.1 (7 + n) = (κ : Int)) (hκ6 : κ < 6) (hk : ∀ W, Sc Z W → FM Z W → LD W 28 (gLs A n) → Cn G mX10_move 123 [some (.ref 0), some (iv (mvS A n s0 28).1), some (iv (mvS A n s0 28).2), some (iv (n : Int)), some (iv (((28 : Nat) : Int) + 1)), none] [] W (qi (fun r V => (xMove A).1 = r ∧ CS V (xMove A).2 ∧ FM Z V))) : ∀ (d : Nat) (e : Nat) (W : ZS), 28 - e = d → e ≤ 28 → Sc Z W → FM Z W → LD W 28 (gLs A n) → Cn G mX10_move 57 [some (.ref 0), some (iv ((mvS A n s0 e).1)), some (iv ((mvS A n s0 e).2)), some (iv ((n : Int))), some (iv ((e : Int) + 1)), none] [] W (qi (fun r V => (xMove A).1 = r ∧ CS V (xMove A).2 ∧ FM Z V)) := by
  intro d
  induction d using Nat.strongRecOn with
  | ind d ih =>
    intro e W hd he hs_W hm_W hl_W
    have hB := hC.1
    have hb0 := hA.1
    have hO := hA.2.1
    have h6 : 0 ≤ A.1 6 ∧ A.1 6 ≤ 7 := hO.2.1
    have h28 : 0 ≤ A.1 28 ∧ A.1 28 ≤ 6 := hO.2.2.2.1
    have h59 : 0 ≤ A.1 59 ∧ A.1 59 ≤ 8 := hO.2.2.2.2.2.1
    have hf := hO.1
    unfold FO at hf
    have hct := hA.2.2.2.2.2.2
    have hmv := mvS_in (A := A) (b := n) hs0 e
    have hch := rC_in (g := gMv A n ((e : Int) + 1)) (sp := A.1 5) (a := A.1 0) 28
    refine cz_iload (pc' := 59) (g_d dtbX10_move_0 31 rfl) rfl rfl ?_
    refine nz_bipush (pc' := 61) (g_d dtbX10_move_0 32 rfl) (by decide) rfl ?_
    refine nz_icmp_gt (tgt := 123) (pc' := 64) (g_d dtbX10_move_0 33 rfl) (by omega) (by omega) rfl rfl (fun h61 => ?_) (fun h61 => ?_)
    · have he : e = 28 := by omega
      subst he
      exact hk W hs_W hm_W hl_W
    · refine cz_aload_n (pc' := 65) (g_d dtbX10_move_0 34 rfl) rfl rfl ?_
      refine nz_getf (v := .ref 24) (pc' := 68) (g_d dtbX10_move_0 35 rfl) gf_X10_36 (by decide) rfl rfl rfl ?_
      refine cz_aload_n (pc' := 69) (g_d dtbX10_move_0 36 rfl) rfl rfl ?_
      refine nz_getf (v := .ref 1) (pc' := 72) (g_d dtbX10_move_0 37 rfl) gf_X10_10 (by decide) rfl rfl rfl ?_
      refine cz_iload_n (pc' := 73) (g_d dtbX10_move_0 38 rfl) rfl rfl ?_
      refine cz_iload (pc' := 75) (g_d dtbX10_move_0 39 rfl) rfl rfl ?_
      refine nz_iconst (pc' := 76) (g_d dtbX10_move_0 40 rfl) rfl ?_
      refine nz_cVv (M' := mX4_put) (k := 24) (As := [.ref 1, iv ((n : Int)), iv ((e : Int) + 1), iv 1]) (S := []) (L := [some (.ref 0), some (iv ((mvS A n s0 e).1)), some (iv ((mvS A n s0 e).2)), some (iv ((n : Int))), some (iv ((e : Int) + 1)), none]) (pc' := 79) (g_d dtbX10_move_0 41 rfl) lk_X10_174 okX4_put (by decide) rfl rfl rfl rfl (Nat.le_of_ble_eq_true rfl) (Nat.le_of_ble_eq_true rfl) (by decide) rfl (c_put G W n κ 28 A.1 B ((e : Int) + 1) 1 (hC.br hs_W) hO (by omega) hl_W.1 (by decide) hn7 hn2 hκ hκ6 (by omega)) ?_
      rintro W1 eW1
      rw [← hκ] at eW1
      have hs_W1 : Sc Z W1 := Sc.tr hs_W (eW1 ▸ zad_sc)
      have hm_W1 : FM Z W1 := FM.tr hm_W (eW1 ▸ zad_fm)
      have hl_W1 : LD W1 28 (gMv A n ((e : Int) + 1)) := LD.ext (eW1 ▸ zad_ld hl_W) (fun i hi => by simp only [gMv, gLs, pB])
      refine cz_aload_n (pc' := 80) (g_d dtbX10_move_0 42 rfl) rfl rfl ?_
      refine nz_cVi (M' := mX10_chargesAsLaid) (k := 0) (As := []) (S := []) (L := [some (.ref 0), some (iv ((mvS A n s0 e).1)), some (iv ((mvS A n s0 e).2)), some (iv ((n : Int))), some (iv ((e : Int) + 1)), none]) (pc' := 83) (g_d dtbX10_move_0 43 rfl) lk_X10_171 okX10_chargesAsLaid (by decide) rfl rfl rfl rfl (Nat.le_of_ble_eq_true rfl) (Nat.le_of_ble_eq_true rfl) (by decide) rfl (c_chAsLaid G W1 A B 28 (gMv A n ((e : Int) + 1)) (hC.br hs_W1) hA hl_W1 (by decide) (fun i hi => by have h1 := gA_in hA i; have p0 := pB_in hA hn7 hn2 (A.1 (14 + n)) i; have p1 := pB_in hA hn7 hn2 ((e : Int) + 1) i; (try simp only [gMv, gLs]); omega)) ?_
      rintro _ W2 ⟨rfl, c1, c2, hl_W2⟩
      have hs_W2 : Sc Z W2 := Sc.tr hs_W1 c1
      have hm_W2 : FM Z W2 := FM.tr hm_W1 c2
      refine cz_istore (L' := [some (.ref 0), some (iv ((mvS A n s0 e).1)), some (iv ((mvS A n s0 e).2)), some (iv ((n : Int))), some (iv ((e : Int) + 1)), some (iv (rC (gMv A n ((e : Int) + 1)) (A.1 5) (A.1 0) 28))]) (pc' := 85) (g_d dtbX10_move_0 44 rfl) (by decide) rfl rfl ?_
      refine cz_iload (pc' := 87) (g_d dtbX10_move_0 45 rfl) rfl rfl ?_
      refine cz_iload_n (pc' := 88) (g_d dtbX10_move_0 46 rfl) rfl rfl ?_
      refine nz_icmp_ge (tgt := 102) (pc' := 91) (g_d dtbX10_move_0 47 rfl) (by omega) (by omega) rfl rfl (fun h88 => ?_) (fun h88 => ?_)
      · refine cz_aload_n (pc' := 103) (g_d dtbX10_move_0 56 rfl) rfl rfl ?_
        refine nz_getf (v := .ref 24) (pc' := 106) (g_d dtbX10_move_0 57 rfl) gf_X10_36 (by decide) rfl rfl rfl ?_
        refine cz_aload_n (pc' := 107) (g_d dtbX10_move_0 58 rfl) rfl rfl ?_
        refine nz_getf (v := .ref 1) (pc' := 110) (g_d dtbX10_move_0 59 rfl) gf_X10_10 (by decide) rfl rfl rfl ?_
        refine cz_iload_n (pc' := 111) (g_d dtbX10_move_1 0 rfl) rfl rfl ?_
        refine cz_iload (pc' := 113) (g_d dtbX10_move_1 1 rfl) rfl rfl ?_
        refine nz_iconst (pc' := 114) (g_d dtbX10_move_1 2 rfl) rfl ?_
        refine nz_cVv (M' := mX4_put) (k := 24) (As := [.ref 1, iv ((n : Int)), iv ((e : Int) + 1), iv (-1)]) (S := []) (L := [some (.ref 0), some (iv ((mvS A n s0 e).1)), some (iv ((mvS A n s0 e).2)), some (iv ((n : Int))), some (iv ((e : Int) + 1)), some (iv (rC (gMv A n ((e : Int) + 1)) (A.1 5) (A.1 0) 28))]) (pc' := 117) (g_d dtbX10_move_1 3 rfl) lk_X10_174 okX4_put (by decide) rfl rfl rfl rfl (Nat.le_of_ble_eq_true rfl) (Nat.le_of_ble_eq_true rfl) (by decide) rfl (c_put G W2 n κ 28 A.1 B ((e : Int) + 1) (-1) (hC.br hs_W2) hO (by omega) hl_W2.1 (by decide) hn7 hn2 hκ hκ6 (by omega)) ?_
        rintro W3 eW3
        rw [← hκ] at eW3
        have hs_W3 : Sc Z W3 := Sc.tr hs_W2 (eW3 ▸ zad_sc)
        have hm_W3 : FM Z W3 := FM.tr hm_W2 (eW3 ▸ zad_fm)
        have hl_W3 : LD W3 28 (gLs A n) := LD.ext (eW3 ▸ zad_ld hl_W2) (fun i hi => by simp only [gMv, gLs, pB]; omega)
        refine nz_iinc (L' := [some (.ref 0), some (iv ((mvS A n s0 e).1)), some (iv ((mvS A n s0 e).2)), some (iv ((n : Int))), some (iv (((e : Int) + 1) + 1)), some (iv (rC (gMv A n ((e : Int) + 1)) (A.1 5) (A.1 0) 28))]) (pc' := 120) (g_d dtbX10_move_1 4 rfl) (by decide) rfl rfl rfl ?_
        refine cz_goto (pc' := 57) (g_d dtbX10_move_1 5 rfl) rfl ?_
        refine cz_le [some (.ref 0), some (iv ((mvS A n s0 e).1)), some (iv ((mvS A n s0 e).2)), some (iv ((n : Int))), some (iv (((e : Int) + 1) + 1)), none] ⟨rfl, rfl, rfl, rfl, rfl, trivial⟩ ?_
        have em : mvS A n s0 (e + 1) = mvS A n s0 e := by simp only [mvS]; rw [if_neg (by omega)]
        have q := ih (28 - (e + 1)) (by omega) (e + 1) W3 rfl (by omega) hs_W3 hm_W3 hl_W3
        rw [em] at q
        exact q
      · refine cz_iload (pc' := 93) (g_d dtbX10_move_0 48 rfl) rfl rfl ?_
        refine cz_istore_n (L' := [some (.ref 0), some (iv (rC (gMv A n ((e : Int) + 1)) (A.1 5) (A.1 0) 28)), some (iv ((mvS A n s0 e).2)), some (iv ((n : Int))), some (iv ((e : Int) + 1)), some (iv (rC (gMv A n ((e : Int) + 1)) (A.1 5) (A.1 0) 28))]) (pc' := 94) (g_d dtbX10_move_0 49 rfl) (by decide) rfl rfl ?_
        refine nz_bipush (pc' := 96) (g_d dtbX10_move_0 50 rfl) (by decide) rfl ?_
        refine cz_iload_n (pc' := 97) (g_d dtbX10_move_0 51 rfl) rfl rfl ?_
        refine nz_imul (pc' := 98) (g_d dtbX10_move_0 52 rfl) rfl ?_
        refine cz_iload (pc' := 100) (g_d dtbX10_move_0 53 rfl) rfl rfl ?_
        refine nz_iadd (pc' := 101) (g_d dtbX10_move_0 54 rfl) rfl ?_
        refine cz_istore_n (L' := [some (.ref 0), some (iv (rC (gMv A n ((e : Int) + 1)) (A.1 5) (A.1 0) 28)), some (iv ((100 * ((n : Int))) + ((e : Int) + 1))), some (iv ((n : Int))), some (iv ((e : Int) + 1)), some (iv (rC (gMv A n ((e : Int) + 1)) (A.1 5) (A.1 0) 28))]) (pc' := 102) (g_d dtbX10_move_0 55 rfl) (by decide) rfl rfl ?_
        refine cz_aload_n (pc' := 103) (g_d dtbX10_move_0 56 rfl) rfl rfl ?_
        refine nz_getf (v := .ref 24) (pc' := 106) (g_d dtbX10_move_0 57 rfl) gf_X10_36 (by decide) rfl rfl rfl ?_
        refine cz_aload_n (pc' := 107) (g_d dtbX10_move_0 58 rfl) rfl rfl ?_
        refine nz_getf (v := .ref 1) (pc' := 110) (g_d dtbX10_move_0 59 rfl) gf_X10_10 (by decide) rfl rfl rfl ?_
        refine cz_iload_n (pc' := 111) (g_d dtbX10_move_1 0 rfl) rfl rfl ?_
        refine cz_iload (pc' := 113) (g_d dtbX10_move_1 1 rfl) rfl rfl ?_
        refine nz_iconst (pc' := 114) (g_d dtbX10_move_1 2 rfl) rfl ?_
        refine nz_cVv (M' := mX4_put) (k := 24) (As := [.ref 1, iv ((n : Int)), iv ((e : Int) + 1), iv (-1)]) (S := []) (L := [some (.ref 0), some (iv (rC (gMv A n ((e : Int) + 1)) (A.1 5) (A.1 0) 28)), some (iv ((100 * ((n : Int))) + ((e : Int) + 1))), some (iv ((n : Int))), some (iv ((e : Int) + 1)), some (iv (rC (gMv A n ((e : Int) + 1)) (A.1 5) (A.1 0) 28))]) (pc' := 117) (g_d dtbX10_move_1 3 rfl) lk_X10_174 okX4_put (by decide) rfl rfl rfl rfl (Nat.le_of_ble_eq_true rfl) (Nat.le_of_ble_eq_true rfl) (by decide) rfl (c_put G W2 n κ 28 A.1 B ((e : Int) + 1) (-1) (hC.br hs_W2) hO (by omega) hl_W2.1 (by decide) hn7 hn2 hκ hκ6 (by omega)) ?_
        rintro W3 eW3
        rw [← hκ] at eW3
        have hs_W3 : Sc Z W3 := Sc.tr hs_W2 (eW3 ▸ zad_sc)
        have hm_W3 : FM Z W3 := FM.tr hm_W2 (eW3 ▸ zad_fm)
        have hl_W3 : LD W3 28 (gLs A n) := LD.ext (eW3 ▸ zad_ld hl_W2) (fun i hi => by simp only [gMv, gLs, pB]; omega)
        refine nz_iinc (L' := [some (.ref 0), some (iv (rC (gMv A n ((e : Int) + 1)) (A.1 5) (A.1 0) 28)), some (iv ((100 * ((n : Int))) + ((e : Int) + 1))), some (iv ((n : Int))), some (iv (((e : Int) + 1) + 1)), some (iv (rC (gMv A n ((e : Int) + 1)) (A.1 5) (A.1 0) 28))]) (pc' := 120) (g_d dtbX10_move_1 4 rfl) (by decide) rfl rfl rfl ?_
        refine cz_goto (pc' := 57) (g_d dtbX10_move_1 5 rfl) rfl ?_
        refine cz_le [some (.ref 0), some (iv (rC (gMv A n ((e : Int) + 1)) (A.1 5) (A.1 0) 28)), some (iv ((100 * ((n : Int))) + ((e : Int) + 1))), some (iv ((n : Int))), some (iv (((e : Int) + 1) + 1)), none] ⟨rfl, rfl, rfl, rfl, rfl, trivial⟩ ?_
        have em : mvS A n s0 (e + 1) = (rC (gMv A n ((e : Int) + 1)) (A.1 5) (A.1 0) 28, 100 * (n : Int) + ((e : Int) + 1)) := by simp only [mvS]; rw [if_pos (by omega)]
        have q := ih (28 - (e + 1)) (by omega) (e + 1) W3 rfl (by omega) hs_W3 hm_W3 hl_W3
        rw [em] at q
        exact q

set_option maxRecDepth 20000 in
set_option maxHeartbeats 4000000 in
theorem l_move (G : Wd) (Z : ZS) (A : AS) (B : Int) (hC : CS Z A) (hA : AO B A) : ∀ (d : Nat) (n : Nat) (W : ZS), (A.1 6).toNat - n = d → (n : Int) ≤ A.1 6 → Sc Z W → FM Z W → LD W 28 (gA A) → Cn G mX10_move 22 [some (.ref 0), some (iv ((mvB A n).1)), some (iv ((mvB A n).2)), some (iv ((n : Int))), none, none] [] W (qi (fun r V => (xMove A).1 = r ∧ CS V (xMove A).2 ∧ FM Z V)) := by
  intro d
  induction d using Nat.strongRecOn with
  | ind d ih =>
    intro n W hd hn hs_W hm_W hl_W
    have hB := hC.1
    have hb0 := hA.1
    have hO := hA.2.1
    have h6 : 0 ≤ A.1 6 ∧ A.1 6 ≤ 7 := hO.2.1
    have h28 : 0 ≤ A.1 28 ∧ A.1 28 ≤ 6 := hO.2.2.2.1
    have h59 : 0 ≤ A.1 59 ∧ A.1 59 ≤ 8 := hO.2.2.2.2.2.1
    have hf := hO.1
    unfold FO at hf
    have hct := hA.2.2.2.2.2.2
    refine cz_iload_n (pc' := 23) (g_d dtbX10_move_0 13 rfl) rfl rfl ?_
    refine cz_aload_n (pc' := 24) (g_d dtbX10_move_0 14 rfl) rfl rfl ?_
    refine nz_getf (v := .ref 1) (pc' := 27) (g_d dtbX10_move_0 15 rfl) gf_X10_10 (by decide) rfl rfl rfl ?_
    refine nz_getf (v := iv (A.1 6)) (pc' := 30) (g_d dtbX10_move_0 16 rfl) gf_X10_61 (by decide) rfl (congrArg iv (br1_4 (hC.br hs_W))) rfl ?_
    refine nz_icmp_ge (tgt := 150) (pc' := 33) (g_d dtbX10_move_0 17 rfl) (by omega) (by omega) rfl rfl (fun h30 => ?_) (fun h30 => ?_)
    · refine cz_iload_n (pc' := 151) (g_d dtbX10_move_1 19 rfl) rfl rfl ?_
      refine nz_ri .int (g_d dtbX10_move_1 20 rfl) rfl rfl ?_
      rw [show n = (A.1 6).toNat by omega]
      exact ⟨rfl, hC.sc hs_W, hm_W⟩
    · have hn7 : n < 7 := by omega
      have hn2 : (n : Int) < A.1 6 := by omega
      have hbo := hO.2.2.1 n hn7 hn2
      have hto : 1 ≤ A.1 (14 + n) ∧ A.1 (14 + n) ≤ 28 := hbo.2.1
      have hpo : 1 ≤ A.1 (21 + n) ∧ A.1 (21 + n) ≤ 99 := hbo.2.2
      obtain ⟨κ, hκ, hκ6⟩ : ∃ κ : Nat, A.1 (7 + n) = (κ : Int) ∧ κ < 6 := ⟨(A.1 (7 + n)).toNat, by have := hbo.1; omega, by have := hbo.1; omega⟩
      have hdI := dayB_in (κ := (κ : Int)) hto
      have hpI := pndB_in (κ := (κ : Int)) (p := A.1 (21 + n)) (m := A.1 4) (by omega)
      refine cz_aload_n (pc' := 34) (g_d dtbX10_move_0 18 rfl) rfl rfl ?_
      refine nz_getf (v := .ref 24) (pc' := 37) (g_d dtbX10_move_0 19 rfl) gf_X10_36 (by decide) rfl rfl rfl ?_
      refine cz_aload_n (pc' := 38) (g_d dtbX10_move_0 20 rfl) rfl rfl ?_
      refine nz_getf (v := .ref 1) (pc' := 41) (g_d dtbX10_move_0 21 rfl) gf_X10_10 (by decide) rfl rfl rfl ?_
      refine cz_iload_n (pc' := 42) (g_d dtbX10_move_0 22 rfl) rfl rfl ?_
      refine cz_aload_n (pc' := 43) (g_d dtbX10_move_0 23 rfl) rfl rfl ?_
      refine nz_getf (v := .ref 1) (pc' := 46) (g_d dtbX10_move_0 24 rfl) gf_X10_10 (by decide) rfl rfl rfl ?_
      refine cz_iload_n (pc' := 47) (g_d dtbX10_move_0 25 rfl) rfl rfl ?_
      refine nz_cVi (M' := mX0_dayAt) (k := 1) (As := [iv ((n : Int))]) (S := [iv ((n : Int)), .ref 1, .ref 24]) (L := [some (.ref 0), some (iv ((mvB A n).1)), some (iv ((mvB A n).2)), some (iv ((n : Int))), none, none]) (pc' := 50) (g_d dtbX10_move_0 26 rfl) lk_X10_127 okX0_dayAt (by decide) rfl rfl rfl rfl (Nat.le_of_ble_eq_true rfl) (Nat.le_of_ble_eq_true rfl) (by decide) rfl (c_dayR G W n A.1 (hC.br hs_W) hn7 hn2) ?_
      rintro _ _ ⟨rfl, rfl⟩
      refine nz_iconst (pc' := 51) (g_d dtbX10_move_0 27 rfl) rfl ?_
      refine nz_cVv (M' := mX4_put) (k := 24) (As := [.ref 1, iv ((n : Int)), iv (A.1 (14 + n)), iv (-1)]) (S := []) (L := [some (.ref 0), some (iv ((mvB A n).1)), some (iv ((mvB A n).2)), some (iv ((n : Int))), none, none]) (pc' := 54) (g_d dtbX10_move_0 28 rfl) lk_X10_174 okX4_put (by decide) rfl rfl rfl rfl (Nat.le_of_ble_eq_true rfl) (Nat.le_of_ble_eq_true rfl) (by decide) rfl (c_put G W n κ 28 A.1 B (A.1 (14 + n)) (-1) (hC.br hs_W) hO (by omega) hl_W.1 (by decide) hn7 hn2 hκ hκ6 (by omega)) ?_
      rintro W1 eW1
      rw [← hκ] at eW1
      have hs_W1 : Sc Z W1 := Sc.tr hs_W (eW1 ▸ zad_sc)
      have hm_W1 : FM Z W1 := FM.tr hm_W (eW1 ▸ zad_fm)
      have hl_W1 : LD W1 28 (gLs A n) := LD.ext (eW1 ▸ zad_ld hl_W) (fun i hi => by simp only [gLs, pB])
      refine nz_iconst (pc' := 55) (g_d dtbX10_move_0 29 rfl) rfl ?_
      refine cz_istore (L' := [some (.ref 0), some (iv ((mvB A n).1)), some (iv ((mvB A n).2)), some (iv ((n : Int))), some (iv 1), none]) (pc' := 57) (g_d dtbX10_move_0 30 rfl) (by decide) rfl rfl ?_
      refine l_move1 G Z A B hC hA n κ (mvB A n) (mvB_in n) hn7 hn2 hκ hκ6 ?_ (28 - 0) 0 W1 rfl (by omega) hs_W1 hm_W1 hl_W1
      intro V hs_V hm_V hl_V
      refine cz_aload_n (pc' := 124) (g_d dtbX10_move_1 6 rfl) rfl rfl ?_
      refine nz_getf (v := .ref 24) (pc' := 127) (g_d dtbX10_move_1 7 rfl) gf_X10_36 (by decide) rfl rfl rfl ?_
      refine cz_aload_n (pc' := 128) (g_d dtbX10_move_1 8 rfl) rfl rfl ?_
      refine nz_getf (v := .ref 1) (pc' := 131) (g_d dtbX10_move_1 9 rfl) gf_X10_10 (by decide) rfl rfl rfl ?_
      refine cz_iload_n (pc' := 132) (g_d dtbX10_move_1 10 rfl) rfl rfl ?_
      refine cz_aload_n (pc' := 133) (g_d dtbX10_move_1 11 rfl) rfl rfl ?_
      refine nz_getf (v := .ref 1) (pc' := 136) (g_d dtbX10_move_1 12 rfl) gf_X10_10 (by decide) rfl rfl rfl ?_
      refine cz_iload_n (pc' := 137) (g_d dtbX10_move_1 13 rfl) rfl rfl ?_
      refine nz_cVi (M' := mX0_dayAt) (k := 1) (As := [iv ((n : Int))]) (S := [iv ((n : Int)), .ref 1, .ref 24]) (L := [some (.ref 0), some (iv ((mvS A n (mvB A n) 28).1)), some (iv ((mvS A n (mvB A n) 28).2)), some (iv ((n : Int))), some (iv (((28 : Nat) : Int) + 1)), none]) (pc' := 140) (g_d dtbX10_move_1 14 rfl) lk_X10_127 okX0_dayAt (by decide) rfl rfl rfl rfl (Nat.le_of_ble_eq_true rfl) (Nat.le_of_ble_eq_true rfl) (by decide) rfl (c_dayR G V n A.1 (hC.br hs_V) hn7 hn2) ?_
      rintro _ _ ⟨rfl, rfl⟩
      refine nz_iconst (pc' := 141) (g_d dtbX10_move_1 15 rfl) rfl ?_
      refine nz_cVv (M' := mX4_put) (k := 24) (As := [.ref 1, iv ((n : Int)), iv (A.1 (14 + n)), iv 1]) (S := []) (L := [some (.ref 0), some (iv ((mvS A n (mvB A n) 28).1)), some (iv ((mvS A n (mvB A n) 28).2)), some (iv ((n : Int))), some (iv (((28 : Nat) : Int) + 1)), none]) (pc' := 144) (g_d dtbX10_move_1 16 rfl) lk_X10_174 okX4_put (by decide) rfl rfl rfl rfl (Nat.le_of_ble_eq_true rfl) (Nat.le_of_ble_eq_true rfl) (by decide) rfl (c_put G V n κ 28 A.1 B (A.1 (14 + n)) 1 (hC.br hs_V) hO (by omega) hl_V.1 (by decide) hn7 hn2 hκ hκ6 (by omega)) ?_
      rintro V1 eV1
      rw [← hκ] at eV1
      have hs_V1 : Sc Z V1 := Sc.tr hs_V (eV1 ▸ zad_sc)
      have hm_V1 : FM Z V1 := FM.tr hm_V (eV1 ▸ zad_fm)
      have hl_V1 : LD V1 28 (gA A) := LD.ext (eV1 ▸ zad_ld hl_V) (fun i hi => by simp only [gLs, pB]; omega)
      refine nz_iinc (L' := [some (.ref 0), some (iv ((mvS A n (mvB A n) 28).1)), some (iv ((mvS A n (mvB A n) 28).2)), some (iv (((n : Int)) + 1)), some (iv (((28 : Nat) : Int) + 1)), none]) (pc' := 147) (g_d dtbX10_move_1 17 rfl) (by decide) rfl rfl rfl ?_
      refine cz_goto (pc' := 22) (g_d dtbX10_move_1 18 rfl) rfl ?_
      refine cz_le [some (.ref 0), some (iv ((mvS A n (mvB A n) 28).1)), some (iv ((mvS A n (mvB A n) 28).2)), some (iv (((n : Int)) + 1)), none, none] ⟨rfl, rfl, rfl, rfl, trivial⟩ ?_
      exact ih ((A.1 6).toNat - (n + 1)) (by omega) (n + 1) V1 rfl (by omega) hs_V1 hm_V1 hl_V1

set_option maxRecDepth 20000 in
set_option maxHeartbeats 4000000 in
theorem a_move (G : Wd) (Z : ZS) (A : AS) (B : Int) (hC : CS Z A) (hA : AO B A) : Cn G mX10_move 0 [some (.ref 0), none, none, none, none, none] [] Z (qi (fun r V => (xMove A).1 = r ∧ CS V (xMove A).2 ∧ FM Z V)) := by
  have hB := hC.1
  have hb0 := hA.1
  have hO := hA.2.1
  have h6 : 0 ≤ A.1 6 ∧ A.1 6 ≤ 7 := hO.2.1
  have h28 : 0 ≤ A.1 28 ∧ A.1 28 ≤ 6 := hO.2.2.2.1
  have h59 : 0 ≤ A.1 59 ∧ A.1 59 ≤ 8 := hO.2.2.2.2.2.1
  have hf := hO.1
  unfold FO at hf
  have hct := hA.2.2.2.2.2.2
  refine cz_aload_n (pc' := 1) (g_d dtbX10_move_0 0 rfl) rfl rfl ?_
  refine nz_getf (v := .ref 24) (pc' := 4) (g_d dtbX10_move_0 1 rfl) gf_X10_36 (by decide) rfl rfl rfl ?_
  refine cz_aload_n (pc' := 5) (g_d dtbX10_move_0 2 rfl) rfl rfl ?_
  refine nz_getf (v := .ref 1) (pc' := 8) (g_d dtbX10_move_0 3 rfl) gf_X10_10 (by decide) rfl rfl rfl ?_
  refine nz_bipush (pc' := 10) (g_d dtbX10_move_0 4 rfl) (by decide) rfl ?_
  refine nz_cVv (M' := mX4_lay) (k := 24) (As := [.ref 1, iv 28]) (S := []) (L := [some (.ref 0), none, none, none, none, none]) (pc' := 13) (g_d dtbX10_move_0 5 rfl) lk_X10_161 okX4_lay (by decide) rfl rfl rfl rfl (Nat.le_of_ble_eq_true rfl) (Nat.le_of_ble_eq_true rfl) (by decide) rfl (c_lay G Z 28 A.1 B hB hO (by omega) (by omega)) ?_
  rintro V1 e1
  have hs_V1 : Sc Z V1 := e1 ▸ zly_sc
  have hm_V1 : FM Z V1 := e1 ▸ zly_fm
  have hl_V1 : LD V1 28 (gA A) := e1 ▸ zly_ld
  refine cz_aload_n (pc' := 14) (g_d dtbX10_move_0 6 rfl) rfl rfl ?_
  refine nz_cVi (M' := mX10_chargesAsLaid) (k := 0) (As := []) (S := []) (L := [some (.ref 0), none, none, none, none, none]) (pc' := 17) (g_d dtbX10_move_0 7 rfl) lk_X10_171 okX10_chargesAsLaid (by decide) rfl rfl rfl rfl (Nat.le_of_ble_eq_true rfl) (Nat.le_of_ble_eq_true rfl) (by decide) rfl (c_chAsLaid G V1 A B 28 (gA A) (hC.br hs_V1) hA hl_V1 (by decide) (fun i hi => by have h1 := gA_in hA i; omega)) ?_
  rintro _ V2 ⟨rfl, c1, c2, hl_V2⟩
  have hs_V2 : Sc Z V2 := Sc.tr hs_V1 c1
  have hm_V2 : FM Z V2 := FM.tr hm_V1 c2
  refine cz_istore_n (L' := [some (.ref 0), some (iv (rC (gA A) (A.1 5) (A.1 0) 28)), none, none, none, none]) (pc' := 18) (g_d dtbX10_move_0 8 rfl) (by decide) rfl rfl ?_
  refine nz_iconst (pc' := 19) (g_d dtbX10_move_0 9 rfl) rfl ?_
  refine cz_istore_n (L' := [some (.ref 0), some (iv (rC (gA A) (A.1 5) (A.1 0) 28)), some (iv (-1)), none, none, none]) (pc' := 20) (g_d dtbX10_move_0 10 rfl) (by decide) rfl rfl ?_
  refine nz_iconst (pc' := 21) (g_d dtbX10_move_0 11 rfl) rfl ?_
  refine cz_istore_n (L' := [some (.ref 0), some (iv (rC (gA A) (A.1 5) (A.1 0) 28)), some (iv (-1)), some (iv 0), none, none]) (pc' := 22) (g_d dtbX10_move_0 12 rfl) (by decide) rfl rfl ?_
  exact l_move G Z A B hC hA ((A.1 6).toNat - 0) 0 V2 rfl (by omega) hs_V2 hm_V2 hl_V2

set_option maxRecDepth 20000 in
set_option maxHeartbeats 4000000 in
theorem l_dear (G : Wd) (Z : ZS) (A : AS) (B : Int) (hC : CS Z A) (hA : AO B A) : ∀ (d : Nat) (n : Nat) (W : ZS), (A.1 6).toNat - n = d → (n : Int) ≤ A.1 6 → Sc Z W → FM Z W → LD W 28 (gA A) → Cn G mX10_dear 19 [some (.ref 0), some (iv ((drS A n).1)), some (iv ((drS A n).2)), some (iv ((n : Int))), none] [] W (qi (fun r V => (xDear A).1 = r ∧ CS V (xDear A).2 ∧ FM Z V)) := by
  intro d
  induction d using Nat.strongRecOn with
  | ind d ih =>
    intro n W hd hn hs_W hm_W hl_W
    have hB := hC.1
    have hb0 := hA.1
    have hO := hA.2.1
    have h6 : 0 ≤ A.1 6 ∧ A.1 6 ≤ 7 := hO.2.1
    have h28 : 0 ≤ A.1 28 ∧ A.1 28 ≤ 6 := hO.2.2.2.1
    have h59 : 0 ≤ A.1 59 ∧ A.1 59 ≤ 8 := hO.2.2.2.2.2.1
    have hf := hO.1
    unfold FO at hf
    have hct := hA.2.2.2.2.2.2
    have hds := drS_in (A := A) n (by omega)
    refine cz_iload_n (pc' := 20) (g_d dtbX10_dear_0 12 rfl) rfl rfl ?_
    refine cz_aload_n (pc' := 21) (g_d dtbX10_dear_0 13 rfl) rfl rfl ?_
    refine nz_getf (v := .ref 1) (pc' := 24) (g_d dtbX10_dear_0 14 rfl) gf_X10_10 (by decide) rfl rfl rfl ?_
    refine nz_getf (v := iv (A.1 6)) (pc' := 27) (g_d dtbX10_dear_0 15 rfl) gf_X10_61 (by decide) rfl (congrArg iv (br1_4 (hC.br hs_W))) rfl ?_
    refine nz_icmp_ge (tgt := 100) (pc' := 30) (g_d dtbX10_dear_0 16 rfl) (by omega) (by omega) rfl rfl (fun h27 => ?_) (fun h27 => ?_)
    · refine cz_iload_n (pc' := 101) (g_d dtbX10_dear_0 54 rfl) rfl rfl ?_
      refine nz_ri .int (g_d dtbX10_dear_0 55 rfl) rfl rfl ?_
      rw [show n = (A.1 6).toNat by omega]
      exact ⟨rfl, hC.sc hs_W, hm_W⟩
    · have hn7 : n < 7 := by omega
      have hn2 : (n : Int) < A.1 6 := by omega
      have hbo := hO.2.2.1 n hn7 hn2
      have hto : 1 ≤ A.1 (14 + n) ∧ A.1 (14 + n) ≤ 28 := hbo.2.1
      have hpo : 1 ≤ A.1 (21 + n) ∧ A.1 (21 + n) ≤ 99 := hbo.2.2
      obtain ⟨κ, hκ, hκ6⟩ : ∃ κ : Nat, A.1 (7 + n) = (κ : Int) ∧ κ < 6 := ⟨(A.1 (7 + n)).toNat, by have := hbo.1; omega, by have := hbo.1; omega⟩
      have hdI := dayB_in (κ := (κ : Int)) hto
      have hpI := pndB_in (κ := (κ : Int)) (p := A.1 (21 + n)) (m := A.1 4) (by omega)
      have hch := rC_in (g := gLs A n) (sp := A.1 5) (a := A.1 0) 28
      refine cz_aload_n (pc' := 31) (g_d dtbX10_dear_0 17 rfl) rfl rfl ?_
      refine nz_getf (v := .ref 24) (pc' := 34) (g_d dtbX10_dear_0 18 rfl) gf_X10_36 (by decide) rfl rfl rfl ?_
      refine cz_aload_n (pc' := 35) (g_d dtbX10_dear_0 19 rfl) rfl rfl ?_
      refine nz_getf (v := .ref 1) (pc' := 38) (g_d dtbX10_dear_0 20 rfl) gf_X10_10 (by decide) rfl rfl rfl ?_
      refine cz_iload_n (pc' := 39) (g_d dtbX10_dear_0 21 rfl) rfl rfl ?_
      refine cz_aload_n (pc' := 40) (g_d dtbX10_dear_0 22 rfl) rfl rfl ?_
      refine nz_getf (v := .ref 1) (pc' := 43) (g_d dtbX10_dear_0 23 rfl) gf_X10_10 (by decide) rfl rfl rfl ?_
      refine cz_iload_n (pc' := 44) (g_d dtbX10_dear_0 24 rfl) rfl rfl ?_
      refine nz_cVi (M' := mX0_dayAt) (k := 1) (As := [iv ((n : Int))]) (S := [iv ((n : Int)), .ref 1, .ref 24]) (L := [some (.ref 0), some (iv ((drS A n).1)), some (iv ((drS A n).2)), some (iv ((n : Int))), none]) (pc' := 47) (g_d dtbX10_dear_0 25 rfl) lk_X10_127 okX0_dayAt (by decide) rfl rfl rfl rfl (Nat.le_of_ble_eq_true rfl) (Nat.le_of_ble_eq_true rfl) (by decide) rfl (c_dayR G W n A.1 (hC.br hs_W) hn7 hn2) ?_
      rintro _ _ ⟨rfl, rfl⟩
      refine nz_iconst (pc' := 48) (g_d dtbX10_dear_0 26 rfl) rfl ?_
      refine nz_cVv (M' := mX4_put) (k := 24) (As := [.ref 1, iv ((n : Int)), iv (A.1 (14 + n)), iv (-1)]) (S := []) (L := [some (.ref 0), some (iv ((drS A n).1)), some (iv ((drS A n).2)), some (iv ((n : Int))), none]) (pc' := 51) (g_d dtbX10_dear_0 27 rfl) lk_X10_174 okX4_put (by decide) rfl rfl rfl rfl (Nat.le_of_ble_eq_true rfl) (Nat.le_of_ble_eq_true rfl) (by decide) rfl (c_put G W n κ 28 A.1 B (A.1 (14 + n)) (-1) (hC.br hs_W) hO (by omega) hl_W.1 (by decide) hn7 hn2 hκ hκ6 (by omega)) ?_
      rintro W1 eW1
      rw [← hκ] at eW1
      have hs_W1 : Sc Z W1 := Sc.tr hs_W (eW1 ▸ zad_sc)
      have hm_W1 : FM Z W1 := FM.tr hm_W (eW1 ▸ zad_fm)
      have hl_W1 : LD W1 28 (gLs A n) := LD.ext (eW1 ▸ zad_ld hl_W) (fun i hi => by simp only [gLs, pB])
      refine cz_aload_n (pc' := 52) (g_d dtbX10_dear_0 28 rfl) rfl rfl ?_
      refine nz_cVi (M' := mX10_chargesAsLaid) (k := 0) (As := []) (S := []) (L := [some (.ref 0), some (iv ((drS A n).1)), some (iv ((drS A n).2)), some (iv ((n : Int))), none]) (pc' := 55) (g_d dtbX10_dear_0 29 rfl) lk_X10_171 okX10_chargesAsLaid (by decide) rfl rfl rfl rfl (Nat.le_of_ble_eq_true rfl) (Nat.le_of_ble_eq_true rfl) (by decide) rfl (c_chAsLaid G W1 A B 28 (gLs A n) (hC.br hs_W1) hA hl_W1 (by decide) (fun i hi => by have h1 := gA_in hA i; have p0 := pB_in hA hn7 hn2 (A.1 (14 + n)) i; (try simp only [gMv, gLs]); omega)) ?_
      rintro _ W2 ⟨rfl, c1, c2, hl_W2⟩
      have hs_W2 : Sc Z W2 := Sc.tr hs_W1 c1
      have hm_W2 : FM Z W2 := FM.tr hm_W1 c2
      refine cz_istore (L' := [some (.ref 0), some (iv ((drS A n).1)), some (iv ((drS A n).2)), some (iv ((n : Int))), some (iv (rC (gLs A n) (A.1 5) (A.1 0) 28))]) (pc' := 57) (g_d dtbX10_dear_0 30 rfl) (by decide) rfl rfl ?_
      refine cz_iload_n (pc' := 58) (g_d dtbX10_dear_0 31 rfl) rfl rfl ?_
      refine nz_iconst (pc' := 59) (g_d dtbX10_dear_0 32 rfl) rfl ?_
      refine nz_icmp_eq (tgt := 68) (pc' := 62) (g_d dtbX10_dear_0 33 rfl) (by omega) (by omega) rfl rfl (fun h59 => ?_) (fun h59 => ?_)
      · refine cz_iload (pc' := 70) (g_d dtbX10_dear_0 37 rfl) rfl rfl ?_
        refine cz_istore_n (L' := [some (.ref 0), some (iv ((drS A n).1)), some (iv (rC (gLs A n) (A.1 5) (A.1 0) 28)), some (iv ((n : Int))), some (iv (rC (gLs A n) (A.1 5) (A.1 0) 28))]) (pc' := 71) (g_d dtbX10_dear_0 38 rfl) (by decide) rfl rfl ?_
        refine cz_iload_n (pc' := 72) (g_d dtbX10_dear_0 39 rfl) rfl rfl ?_
        refine cz_istore_n (L' := [some (.ref 0), some (iv ((n : Int))), some (iv (rC (gLs A n) (A.1 5) (A.1 0) 28)), some (iv ((n : Int))), some (iv (rC (gLs A n) (A.1 5) (A.1 0) 28))]) (pc' := 73) (g_d dtbX10_dear_0 40 rfl) (by decide) rfl rfl ?_
        refine cz_aload_n (pc' := 74) (g_d dtbX10_dear_0 41 rfl) rfl rfl ?_
        refine nz_getf (v := .ref 24) (pc' := 77) (g_d dtbX10_dear_0 42 rfl) gf_X10_36 (by decide) rfl rfl rfl ?_
        refine cz_aload_n (pc' := 78) (g_d dtbX10_dear_0 43 rfl) rfl rfl ?_
        refine nz_getf (v := .ref 1) (pc' := 81) (g_d dtbX10_dear_0 44 rfl) gf_X10_10 (by decide) rfl rfl rfl ?_
        refine cz_iload_n (pc' := 82) (g_d dtbX10_dear_0 45 rfl) rfl rfl ?_
        refine cz_aload_n (pc' := 83) (g_d dtbX10_dear_0 46 rfl) rfl rfl ?_
        refine nz_getf (v := .ref 1) (pc' := 86) (g_d dtbX10_dear_0 47 rfl) gf_X10_10 (by decide) rfl rfl rfl ?_
        refine cz_iload_n (pc' := 87) (g_d dtbX10_dear_0 48 rfl) rfl rfl ?_
        refine nz_cVi (M' := mX0_dayAt) (k := 1) (As := [iv ((n : Int))]) (S := [iv ((n : Int)), .ref 1, .ref 24]) (L := [some (.ref 0), some (iv ((n : Int))), some (iv (rC (gLs A n) (A.1 5) (A.1 0) 28)), some (iv ((n : Int))), some (iv (rC (gLs A n) (A.1 5) (A.1 0) 28))]) (pc' := 90) (g_d dtbX10_dear_0 49 rfl) lk_X10_127 okX0_dayAt (by decide) rfl rfl rfl rfl (Nat.le_of_ble_eq_true rfl) (Nat.le_of_ble_eq_true rfl) (by decide) rfl (c_dayR G W2 n A.1 (hC.br hs_W2) hn7 hn2) ?_
        rintro _ _ ⟨rfl, rfl⟩
        refine nz_iconst (pc' := 91) (g_d dtbX10_dear_0 50 rfl) rfl ?_
        refine nz_cVv (M' := mX4_put) (k := 24) (As := [.ref 1, iv ((n : Int)), iv (A.1 (14 + n)), iv 1]) (S := []) (L := [some (.ref 0), some (iv ((n : Int))), some (iv (rC (gLs A n) (A.1 5) (A.1 0) 28)), some (iv ((n : Int))), some (iv (rC (gLs A n) (A.1 5) (A.1 0) 28))]) (pc' := 94) (g_d dtbX10_dear_0 51 rfl) lk_X10_174 okX4_put (by decide) rfl rfl rfl rfl (Nat.le_of_ble_eq_true rfl) (Nat.le_of_ble_eq_true rfl) (by decide) rfl (c_put G W2 n κ 28 A.1 B (A.1 (14 + n)) 1 (hC.br hs_W2) hO (by omega) hl_W2.1 (by decide) hn7 hn2 hκ hκ6 (by omega)) ?_
        rintro W3 eW3
        rw [← hκ] at eW3
        have hs_W3 : Sc Z W3 := Sc.tr hs_W2 (eW3 ▸ zad_sc)
        have hm_W3 : FM Z W3 := FM.tr hm_W2 (eW3 ▸ zad_fm)
        have hl_W3 : LD W3 28 (gA A) := LD.ext (eW3 ▸ zad_ld hl_W2) (fun i hi => by simp only [gLs, pB]; omega)
        refine nz_iinc (L' := [some (.ref 0), some (iv ((n : Int))), some (iv (rC (gLs A n) (A.1 5) (A.1 0) 28)), some (iv (((n : Int)) + 1)), some (iv (rC (gLs A n) (A.1 5) (A.1 0) 28))]) (pc' := 97) (g_d dtbX10_dear_0 52 rfl) (by decide) rfl rfl rfl ?_
        refine cz_goto (pc' := 19) (g_d dtbX10_dear_0 53 rfl) rfl ?_
        refine cz_le [some (.ref 0), some (iv ((n : Int))), some (iv (rC (gLs A n) (A.1 5) (A.1 0) 28)), some (iv (((n : Int)) + 1)), none] ⟨rfl, rfl, rfl, rfl, trivial⟩ ?_
        have em : drS A (n + 1) = ((n : Int), rC (gLs A n) (A.1 5) (A.1 0) 28) := by simp only [drS]; rw [if_pos (by omega)]
        have q := ih ((A.1 6).toNat - (n + 1)) (by omega) (n + 1) W3 rfl (by omega) hs_W3 hm_W3 hl_W3
        rw [em] at q
        exact q
      · refine cz_iload (pc' := 64) (g_d dtbX10_dear_0 34 rfl) rfl rfl ?_
        refine cz_iload_n (pc' := 65) (g_d dtbX10_dear_0 35 rfl) rfl rfl ?_
        refine nz_icmp_ge (tgt := 73) (pc' := 68) (g_d dtbX10_dear_0 36 rfl) (by omega) (by omega) rfl rfl (fun h65 => ?_) (fun h65 => ?_)
        · refine cz_aload_n (pc' := 74) (g_d dtbX10_dear_0 41 rfl) rfl rfl ?_
          refine nz_getf (v := .ref 24) (pc' := 77) (g_d dtbX10_dear_0 42 rfl) gf_X10_36 (by decide) rfl rfl rfl ?_
          refine cz_aload_n (pc' := 78) (g_d dtbX10_dear_0 43 rfl) rfl rfl ?_
          refine nz_getf (v := .ref 1) (pc' := 81) (g_d dtbX10_dear_0 44 rfl) gf_X10_10 (by decide) rfl rfl rfl ?_
          refine cz_iload_n (pc' := 82) (g_d dtbX10_dear_0 45 rfl) rfl rfl ?_
          refine cz_aload_n (pc' := 83) (g_d dtbX10_dear_0 46 rfl) rfl rfl ?_
          refine nz_getf (v := .ref 1) (pc' := 86) (g_d dtbX10_dear_0 47 rfl) gf_X10_10 (by decide) rfl rfl rfl ?_
          refine cz_iload_n (pc' := 87) (g_d dtbX10_dear_0 48 rfl) rfl rfl ?_
          refine nz_cVi (M' := mX0_dayAt) (k := 1) (As := [iv ((n : Int))]) (S := [iv ((n : Int)), .ref 1, .ref 24]) (L := [some (.ref 0), some (iv ((drS A n).1)), some (iv ((drS A n).2)), some (iv ((n : Int))), some (iv (rC (gLs A n) (A.1 5) (A.1 0) 28))]) (pc' := 90) (g_d dtbX10_dear_0 49 rfl) lk_X10_127 okX0_dayAt (by decide) rfl rfl rfl rfl (Nat.le_of_ble_eq_true rfl) (Nat.le_of_ble_eq_true rfl) (by decide) rfl (c_dayR G W2 n A.1 (hC.br hs_W2) hn7 hn2) ?_
          rintro _ _ ⟨rfl, rfl⟩
          refine nz_iconst (pc' := 91) (g_d dtbX10_dear_0 50 rfl) rfl ?_
          refine nz_cVv (M' := mX4_put) (k := 24) (As := [.ref 1, iv ((n : Int)), iv (A.1 (14 + n)), iv 1]) (S := []) (L := [some (.ref 0), some (iv ((drS A n).1)), some (iv ((drS A n).2)), some (iv ((n : Int))), some (iv (rC (gLs A n) (A.1 5) (A.1 0) 28))]) (pc' := 94) (g_d dtbX10_dear_0 51 rfl) lk_X10_174 okX4_put (by decide) rfl rfl rfl rfl (Nat.le_of_ble_eq_true rfl) (Nat.le_of_ble_eq_true rfl) (by decide) rfl (c_put G W2 n κ 28 A.1 B (A.1 (14 + n)) 1 (hC.br hs_W2) hO (by omega) hl_W2.1 (by decide) hn7 hn2 hκ hκ6 (by omega)) ?_
          rintro W3 eW3
          rw [← hκ] at eW3
          have hs_W3 : Sc Z W3 := Sc.tr hs_W2 (eW3 ▸ zad_sc)
          have hm_W3 : FM Z W3 := FM.tr hm_W2 (eW3 ▸ zad_fm)
          have hl_W3 : LD W3 28 (gA A) := LD.ext (eW3 ▸ zad_ld hl_W2) (fun i hi => by simp only [gLs, pB]; omega)
          refine nz_iinc (L' := [some (.ref 0), some (iv ((drS A n).1)), some (iv ((drS A n).2)), some (iv (((n : Int)) + 1)), some (iv (rC (gLs A n) (A.1 5) (A.1 0) 28))]) (pc' := 97) (g_d dtbX10_dear_0 52 rfl) (by decide) rfl rfl rfl ?_
          refine cz_goto (pc' := 19) (g_d dtbX10_dear_0 53 rfl) rfl ?_
          refine cz_le [some (.ref 0), some (iv ((drS A n).1)), some (iv ((drS A n).2)), some (iv (((n : Int)) + 1)), none] ⟨rfl, rfl, rfl, rfl, trivial⟩ ?_
          have em : drS A (n + 1) = drS A n := by simp only [drS]; rw [if_neg (by omega)]
          have q := ih ((A.1 6).toNat - (n + 1)) (by omega) (n + 1) W3 rfl (by omega) hs_W3 hm_W3 hl_W3
          rw [em] at q
          exact q
        · refine cz_iload (pc' := 70) (g_d dtbX10_dear_0 37 rfl) rfl rfl ?_
          refine cz_istore_n (L' := [some (.ref 0), some (iv ((drS A n).1)), some (iv (rC (gLs A n) (A.1 5) (A.1 0) 28)), some (iv ((n : Int))), some (iv (rC (gLs A n) (A.1 5) (A.1 0) 28))]) (pc' := 71) (g_d dtbX10_dear_0 38 rfl) (by decide) rfl rfl ?_
          refine cz_iload_n (pc' := 72) (g_d dtbX10_dear_0 39 rfl) rfl rfl ?_
          refine cz_istore_n (L' := [some (.ref 0), some (iv ((n : Int))), some (iv (rC (gLs A n) (A.1 5) (A.1 0) 28)), some (iv ((n : Int))), some (iv (rC (gLs A n) (A.1 5) (A.1 0) 28))]) (pc' := 73) (g_d dtbX10_dear_0 40 rfl) (by decide) rfl rfl ?_
          refine cz_aload_n (pc' := 74) (g_d dtbX10_dear_0 41 rfl) rfl rfl ?_
          refine nz_getf (v := .ref 24) (pc' := 77) (g_d dtbX10_dear_0 42 rfl) gf_X10_36 (by decide) rfl rfl rfl ?_
          refine cz_aload_n (pc' := 78) (g_d dtbX10_dear_0 43 rfl) rfl rfl ?_
          refine nz_getf (v := .ref 1) (pc' := 81) (g_d dtbX10_dear_0 44 rfl) gf_X10_10 (by decide) rfl rfl rfl ?_
          refine cz_iload_n (pc' := 82) (g_d dtbX10_dear_0 45 rfl) rfl rfl ?_
          refine cz_aload_n (pc' := 83) (g_d dtbX10_dear_0 46 rfl) rfl rfl ?_
          refine nz_getf (v := .ref 1) (pc' := 86) (g_d dtbX10_dear_0 47 rfl) gf_X10_10 (by decide) rfl rfl rfl ?_
          refine cz_iload_n (pc' := 87) (g_d dtbX10_dear_0 48 rfl) rfl rfl ?_
          refine nz_cVi (M' := mX0_dayAt) (k := 1) (As := [iv ((n : Int))]) (S := [iv ((n : Int)), .ref 1, .ref 24]) (L := [some (.ref 0), some (iv ((n : Int))), some (iv (rC (gLs A n) (A.1 5) (A.1 0) 28)), some (iv ((n : Int))), some (iv (rC (gLs A n) (A.1 5) (A.1 0) 28))]) (pc' := 90) (g_d dtbX10_dear_0 49 rfl) lk_X10_127 okX0_dayAt (by decide) rfl rfl rfl rfl (Nat.le_of_ble_eq_true rfl) (Nat.le_of_ble_eq_true rfl) (by decide) rfl (c_dayR G W2 n A.1 (hC.br hs_W2) hn7 hn2) ?_
          rintro _ _ ⟨rfl, rfl⟩
          refine nz_iconst (pc' := 91) (g_d dtbX10_dear_0 50 rfl) rfl ?_
          refine nz_cVv (M' := mX4_put) (k := 24) (As := [.ref 1, iv ((n : Int)), iv (A.1 (14 + n)), iv 1]) (S := []) (L := [some (.ref 0), some (iv ((n : Int))), some (iv (rC (gLs A n) (A.1 5) (A.1 0) 28)), some (iv ((n : Int))), some (iv (rC (gLs A n) (A.1 5) (A.1 0) 28))]) (pc' := 94) (g_d dtbX10_dear_0 51 rfl) lk_X10_174 okX4_put (by decide) rfl rfl rfl rfl (Nat.le_of_ble_eq_true rfl) (Nat.le_of_ble_eq_true rfl) (by decide) rfl (c_put G W2 n κ 28 A.1 B (A.1 (14 + n)) 1 (hC.br hs_W2) hO (by omega) hl_W2.1 (by decide) hn7 hn2 hκ hκ6 (by omega)) ?_
          rintro W3 eW3
          rw [← hκ] at eW3
          have hs_W3 : Sc Z W3 := Sc.tr hs_W2 (eW3 ▸ zad_sc)
          have hm_W3 : FM Z W3 := FM.tr hm_W2 (eW3 ▸ zad_fm)
          have hl_W3 : LD W3 28 (gA A) := LD.ext (eW3 ▸ zad_ld hl_W2) (fun i hi => by simp only [gLs, pB]; omega)
          refine nz_iinc (L' := [some (.ref 0), some (iv ((n : Int))), some (iv (rC (gLs A n) (A.1 5) (A.1 0) 28)), some (iv (((n : Int)) + 1)), some (iv (rC (gLs A n) (A.1 5) (A.1 0) 28))]) (pc' := 97) (g_d dtbX10_dear_0 52 rfl) (by decide) rfl rfl rfl ?_
          refine cz_goto (pc' := 19) (g_d dtbX10_dear_0 53 rfl) rfl ?_
          refine cz_le [some (.ref 0), some (iv ((n : Int))), some (iv (rC (gLs A n) (A.1 5) (A.1 0) 28)), some (iv (((n : Int)) + 1)), none] ⟨rfl, rfl, rfl, rfl, trivial⟩ ?_
          have em : drS A (n + 1) = ((n : Int), rC (gLs A n) (A.1 5) (A.1 0) 28) := by simp only [drS]; rw [if_pos (by omega)]
          have q := ih ((A.1 6).toNat - (n + 1)) (by omega) (n + 1) W3 rfl (by omega) hs_W3 hm_W3 hl_W3
          rw [em] at q
          exact q

set_option maxRecDepth 20000 in
set_option maxHeartbeats 4000000 in
theorem a_dear (G : Wd) (Z : ZS) (A : AS) (B : Int) (hC : CS Z A) (hA : AO B A) : Cn G mX10_dear 0 [some (.ref 0), none, none, none, none] [] Z (qi (fun r V => (xDear A).1 = r ∧ CS V (xDear A).2 ∧ FM Z V)) := by
  have hB := hC.1
  have hb0 := hA.1
  have hO := hA.2.1
  have h6 : 0 ≤ A.1 6 ∧ A.1 6 ≤ 7 := hO.2.1
  have h28 : 0 ≤ A.1 28 ∧ A.1 28 ≤ 6 := hO.2.2.2.1
  have h59 : 0 ≤ A.1 59 ∧ A.1 59 ≤ 8 := hO.2.2.2.2.2.1
  have hf := hO.1
  unfold FO at hf
  have hct := hA.2.2.2.2.2.2
  refine cz_aload_n (pc' := 1) (g_d dtbX10_dear_0 0 rfl) rfl rfl ?_
  refine nz_getf (v := .ref 24) (pc' := 4) (g_d dtbX10_dear_0 1 rfl) gf_X10_36 (by decide) rfl rfl rfl ?_
  refine cz_aload_n (pc' := 5) (g_d dtbX10_dear_0 2 rfl) rfl rfl ?_
  refine nz_getf (v := .ref 1) (pc' := 8) (g_d dtbX10_dear_0 3 rfl) gf_X10_10 (by decide) rfl rfl rfl ?_
  refine nz_bipush (pc' := 10) (g_d dtbX10_dear_0 4 rfl) (by decide) rfl ?_
  refine nz_cVv (M' := mX4_lay) (k := 24) (As := [.ref 1, iv 28]) (S := []) (L := [some (.ref 0), none, none, none, none]) (pc' := 13) (g_d dtbX10_dear_0 5 rfl) lk_X10_161 okX4_lay (by decide) rfl rfl rfl rfl (Nat.le_of_ble_eq_true rfl) (Nat.le_of_ble_eq_true rfl) (by decide) rfl (c_lay G Z 28 A.1 B hB hO (by omega) (by omega)) ?_
  rintro V1 e1
  have hs_V1 : Sc Z V1 := e1 ▸ zly_sc
  have hm_V1 : FM Z V1 := e1 ▸ zly_fm
  have hl_V1 : LD V1 28 (gA A) := e1 ▸ zly_ld
  refine nz_iconst (pc' := 14) (g_d dtbX10_dear_0 6 rfl) rfl ?_
  refine cz_istore_n (L' := [some (.ref 0), some (iv (-1)), none, none, none]) (pc' := 15) (g_d dtbX10_dear_0 7 rfl) (by decide) rfl rfl ?_
  refine nz_iconst (pc' := 16) (g_d dtbX10_dear_0 8 rfl) rfl ?_
  refine cz_istore_n (L' := [some (.ref 0), some (iv (-1)), some (iv 0), none, none]) (pc' := 17) (g_d dtbX10_dear_0 9 rfl) (by decide) rfl rfl ?_
  refine nz_iconst (pc' := 18) (g_d dtbX10_dear_0 10 rfl) rfl ?_
  refine cz_istore_n (L' := [some (.ref 0), some (iv (-1)), some (iv 0), some (iv 0), none]) (pc' := 19) (g_d dtbX10_dear_0 11 rfl) (by decide) rfl rfl ?_
  exact l_dear G Z A B hC hA ((A.1 6).toNat - 0) 0 V1 rfl (by omega) hs_V1 hm_V1 hl_V1
