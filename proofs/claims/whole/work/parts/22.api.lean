set_option maxRecDepth 20000 in
set_option maxHeartbeats 4000000 in
theorem c_refuseBad (G : Wd) (Z : ZS) (a : Int) : Cn G mX10_refuseBad 0 [some (.ref 0), some (iv (a))] [] Z (qi (fun r W => a = r ∧ zu Z 0 10 (Z 0 10 + 1) = W)) := by
  refine cz_aload_n (pc' := 1) (g_d dtbX10_refuseBad_0 0 rfl) rfl rfl ?_
  refine cz_dup (pc' := 2) (g_d dtbX10_refuseBad_0 1 rfl) rfl rfl ?_
  refine nz_getf (v := iv (Z 0 10)) (pc' := 5) (g_d dtbX10_refuseBad_0 2 rfl) gf_X10_227 (by decide) rfl rfl rfl ?_
  refine nz_iconst (pc' := 6) (g_d dtbX10_refuseBad_0 3 rfl) rfl ?_
  refine nz_iadd (pc' := 7) (g_d dtbX10_refuseBad_0 4 rfl) rfl ?_
  refine nz_puti (pc' := 10) (g_d dtbX10_refuseBad_0 5 rfl) pf_X10_227 rfl (by decide) rfl rfl ?_
  refine cz_iload_n (pc' := 11) (g_d dtbX10_refuseBad_0 6 rfl) rfl rfl ?_
  refine nz_ri .int (g_d dtbX10_refuseBad_0 7 rfl) rfl rfl ?_
  exact ⟨rfl, rfl⟩

set_option maxRecDepth 20000 in
set_option maxHeartbeats 4000000 in
theorem c_refuseNo (G : Wd) (Z : ZS) : Cn G mX10_refuseNo 0 [some (.ref 0)] [] Z (qi (fun r W => -3 = r ∧ zu Z 0 11 (Z 0 11 + 1) = W)) := by
  refine cz_aload_n (pc' := 1) (g_d dtbX10_refuseNo_0 0 rfl) rfl rfl ?_
  refine cz_dup (pc' := 2) (g_d dtbX10_refuseNo_0 1 rfl) rfl rfl ?_
  refine nz_getf (v := iv (Z 0 11)) (pc' := 5) (g_d dtbX10_refuseNo_0 2 rfl) gf_X10_230 (by decide) rfl rfl rfl ?_
  refine nz_iconst (pc' := 6) (g_d dtbX10_refuseNo_0 3 rfl) rfl ?_
  refine nz_iadd (pc' := 7) (g_d dtbX10_refuseNo_0 4 rfl) rfl ?_
  refine nz_puti (pc' := 10) (g_d dtbX10_refuseNo_0 5 rfl) pf_X10_230 rfl (by decide) rfl rfl ?_
  refine nz_bipush (pc' := 12) (g_d dtbX10_refuseNo_0 6 rfl) (by decide) rfl ?_
  refine nz_ri .int (g_d dtbX10_refuseNo_0 7 rfl) rfl rfl ?_
  exact ⟨rfl, rfl⟩

set_option maxRecDepth 20000 in
set_option maxHeartbeats 4000000 in
theorem c_refuseFull (G : Wd) (Z : ZS) : Cn G mX10_refuseFull 0 [some (.ref 0)] [] Z (qi (fun r W => -4 = r ∧ zu Z 0 12 (Z 0 12 + 1) = W)) := by
  refine cz_aload_n (pc' := 1) (g_d dtbX10_refuseFull_0 0 rfl) rfl rfl ?_
  refine cz_dup (pc' := 2) (g_d dtbX10_refuseFull_0 1 rfl) rfl rfl ?_
  refine nz_getf (v := iv (Z 0 12)) (pc' := 5) (g_d dtbX10_refuseFull_0 2 rfl) gf_X10_233 (by decide) rfl rfl rfl ?_
  refine nz_iconst (pc' := 6) (g_d dtbX10_refuseFull_0 3 rfl) rfl ?_
  refine nz_iadd (pc' := 7) (g_d dtbX10_refuseFull_0 4 rfl) rfl ?_
  refine nz_puti (pc' := 10) (g_d dtbX10_refuseFull_0 5 rfl) pf_X10_233 rfl (by decide) rfl rfl ?_
  refine nz_bipush (pc' := 12) (g_d dtbX10_refuseFull_0 6 rfl) (by decide) rfl ?_
  refine nz_ri .int (g_d dtbX10_refuseFull_0 7 rfl) rfl rfl ?_
  exact ⟨rfl, rfl⟩

set_option maxRecDepth 20000 in
set_option maxHeartbeats 4000000 in
theorem c_isBill (G : Wd) (Z : ZS) (a d p : Int) (ha : -2147483648 ≤ a ∧ a ≤ 2147483647) (hd : -2147483648 ≤ d ∧ d ≤ 2147483647) (hp : -2147483648 ≤ p ∧ p ≤ 2147483647) : Cn G mX10_isBill 0 [some (iv (a)), some (iv (d)), some (iv (p))] [] Z (qi (fun r W => Z = W ∧ ((r = 1 ∧ (0 ≤ a ∧ a ≤ 5) ∧ (1 ≤ d ∧ d ≤ 28) ∧ (1 ≤ p ∧ p ≤ 99)) ∨ (r = 0 ∧ ¬ ((0 ≤ a ∧ a ≤ 5) ∧ (1 ≤ d ∧ d ≤ 28) ∧ (1 ≤ p ∧ p ≤ 99)))))) := by
  refine cz_iload_n (pc' := 1) (g_d dtbX10_isBill_0 0 rfl) rfl rfl ?_
  refine nz_iconst (pc' := 2) (g_d dtbX10_isBill_0 1 rfl) rfl ?_
  refine nz_iconst (pc' := 3) (g_d dtbX10_isBill_0 2 rfl) rfl ?_
  refine nz_cSi (M' := mX10_within) (As := [iv (a), iv 0, iv 5]) (S := []) (L := [some (iv (a)), some (iv (d)), some (iv (p))]) (pc' := 6) (g_d dtbX10_isBill_0 3 rfl) lk_X10_53 okX10_within rfl rfl (Nat.le_of_ble_eq_true rfl) (Nat.le_of_ble_eq_true rfl) (by decide) rfl (c_within G Z a 0 5 (by omega) (by omega) (by omega)) ?_
  rintro _ _ ⟨rfl, ⟨rfl, hw3⟩ | ⟨rfl, hw3⟩⟩
  · refine nz_if_eq_f (pc' := 9) (g_d dtbX10_isBill_0 4 rfl) (by omega) (by decide) rfl (by omega) ?_
    refine cz_iload_n (pc' := 10) (g_d dtbX10_isBill_0 5 rfl) rfl rfl ?_
    refine nz_iconst (pc' := 11) (g_d dtbX10_isBill_0 6 rfl) rfl ?_
    refine nz_bipush (pc' := 13) (g_d dtbX10_isBill_0 7 rfl) (by decide) rfl ?_
    refine nz_cSi (M' := mX10_within) (As := [iv (d), iv 1, iv 28]) (S := []) (L := [some (iv (a)), some (iv (d)), some (iv (p))]) (pc' := 16) (g_d dtbX10_isBill_0 8 rfl) lk_X10_53 okX10_within rfl rfl (Nat.le_of_ble_eq_true rfl) (Nat.le_of_ble_eq_true rfl) (by decide) rfl (c_within G Z d 1 28 (by omega) (by omega) (by omega)) ?_
    rintro _ _ ⟨rfl, ⟨rfl, hw13⟩ | ⟨rfl, hw13⟩⟩
    · refine nz_if_eq_f (pc' := 19) (g_d dtbX10_isBill_0 9 rfl) (by omega) (by decide) rfl (by omega) ?_
      refine cz_iload_n (pc' := 20) (g_d dtbX10_isBill_0 10 rfl) rfl rfl ?_
      refine nz_iconst (pc' := 21) (g_d dtbX10_isBill_0 11 rfl) rfl ?_
      refine nz_bipush (pc' := 23) (g_d dtbX10_isBill_0 12 rfl) (by decide) rfl ?_
      refine nz_cSi (M' := mX10_within) (As := [iv (p), iv 1, iv 99]) (S := []) (L := [some (iv (a)), some (iv (d)), some (iv (p))]) (pc' := 26) (g_d dtbX10_isBill_0 13 rfl) lk_X10_53 okX10_within rfl rfl (Nat.le_of_ble_eq_true rfl) (Nat.le_of_ble_eq_true rfl) (by decide) rfl (c_within G Z p 1 99 (by omega) (by omega) (by omega)) ?_
      rintro _ _ ⟨rfl, ⟨rfl, hw23⟩ | ⟨rfl, hw23⟩⟩
      · refine nz_if_eq_f (pc' := 29) (g_d dtbX10_isBill_0 14 rfl) (by omega) (by decide) rfl (by omega) ?_
        refine nz_iconst (pc' := 30) (g_d dtbX10_isBill_0 15 rfl) rfl ?_
        refine cz_goto (pc' := 34) (g_d dtbX10_isBill_0 16 rfl) rfl ?_
        refine nz_ri .boolean (g_d dtbX10_isBill_0 18 rfl) rfl rfl ?_
        exact ⟨rfl, by omega⟩
      · refine nz_if_eq_t (tgt := 33) (g_d dtbX10_isBill_0 14 rfl) (by omega) rfl (by omega) ?_
        refine nz_iconst (pc' := 34) (g_d dtbX10_isBill_0 17 rfl) rfl ?_
        refine nz_ri .boolean (g_d dtbX10_isBill_0 18 rfl) rfl rfl ?_
        exact ⟨rfl, by omega⟩
    · refine nz_if_eq_t (tgt := 33) (g_d dtbX10_isBill_0 9 rfl) (by omega) rfl (by omega) ?_
      refine nz_iconst (pc' := 34) (g_d dtbX10_isBill_0 17 rfl) rfl ?_
      refine nz_ri .boolean (g_d dtbX10_isBill_0 18 rfl) rfl rfl ?_
      exact ⟨rfl, by omega⟩
  · refine nz_if_eq_t (tgt := 33) (g_d dtbX10_isBill_0 4 rfl) (by omega) rfl (by omega) ?_
    refine nz_iconst (pc' := 34) (g_d dtbX10_isBill_0 17 rfl) rfl ?_
    refine nz_ri .boolean (g_d dtbX10_isBill_0 18 rfl) rfl rfl ?_
    exact ⟨rfl, by omega⟩

set_option maxRecDepth 20000 in
set_option maxHeartbeats 4000000 in
theorem c_isBN (G : Wd) (Z : ZS) (A : AS) (B : Int) (hC : CS Z A) (hA : AO B A) (b : Int) (hb : -2147483648 ≤ b ∧ b ≤ 2147483647) : Cn G mX10_isBillNumber 0 [some (.ref 0), some (iv (b))] [] Z (qi (fun r W => Z = W ∧ ((r = 1 ∧ 0 ≤ b ∧ b < A.1 6) ∨ (r = 0 ∧ ¬ (0 ≤ b ∧ b < A.1 6))))) := by
  have hB := hC.1
  have hb0 := hA.1
  have hO := hA.2.1
  have h6 : 0 ≤ A.1 6 ∧ A.1 6 ≤ 7 := hO.2.1
  have h28 : 0 ≤ A.1 28 ∧ A.1 28 ≤ 6 := hO.2.2.2.1
  have h59 : 0 ≤ A.1 59 ∧ A.1 59 ≤ 8 := hO.2.2.2.2.2.1
  have hf := hO.1
  unfold FO at hf
  have hct := hA.2.2.2.2.2.2
  refine cz_iload_n (pc' := 1) (g_d dtbX10_isBillNumber_0 0 rfl) rfl rfl ?_
  refine nz_if_lt (tgt := 19) (pc' := 4) (g_d dtbX10_isBillNumber_0 1 rfl) (by omega) rfl rfl (fun h1 => ?_) (fun h1 => ?_)
  · refine nz_iconst (pc' := 20) (g_d dtbX10_isBillNumber_0 9 rfl) rfl ?_
    refine nz_ri .boolean (g_d dtbX10_isBillNumber_0 10 rfl) rfl rfl ?_
    exact ⟨rfl, by omega⟩
  · refine cz_iload_n (pc' := 5) (g_d dtbX10_isBillNumber_0 2 rfl) rfl rfl ?_
    refine cz_aload_n (pc' := 6) (g_d dtbX10_isBillNumber_0 3 rfl) rfl rfl ?_
    refine nz_getf (v := .ref 1) (pc' := 9) (g_d dtbX10_isBillNumber_0 4 rfl) gf_X10_10 (by decide) rfl rfl rfl ?_
    refine nz_getf (v := iv (A.1 6)) (pc' := 12) (g_d dtbX10_isBillNumber_0 5 rfl) gf_X10_61 (by decide) rfl (congrArg iv (br1_4 (hB))) rfl ?_
    refine nz_icmp_ge (tgt := 19) (pc' := 15) (g_d dtbX10_isBillNumber_0 6 rfl) (by omega) (by omega) rfl rfl (fun h12 => ?_) (fun h12 => ?_)
    · refine nz_iconst (pc' := 20) (g_d dtbX10_isBillNumber_0 9 rfl) rfl ?_
      refine nz_ri .boolean (g_d dtbX10_isBillNumber_0 10 rfl) rfl rfl ?_
      exact ⟨rfl, by omega⟩
    · refine nz_iconst (pc' := 16) (g_d dtbX10_isBillNumber_0 7 rfl) rfl ?_
      refine cz_goto (pc' := 20) (g_d dtbX10_isBillNumber_0 8 rfl) rfl ?_
      refine nz_ri .boolean (g_d dtbX10_isBillNumber_0 10 rfl) rfl rfl ?_
      exact ⟨rfl, by omega⟩

set_option maxRecDepth 20000 in
set_option maxHeartbeats 4000000 in
theorem c_imageAt0 (G : Wd) (Z : ZS) : Cn G mX10_imageAt 0 [some (.ref 0), some (iv 0)] [] Z (qr (fun r W => 6 = r ∧ Z = W)) := by
  refine cz_iload_n (pc' := 1) (g_d dtbX10_imageAt_0 0 rfl) rfl rfl ?_
  refine nz_if_ne_f (pc' := 4) (g_d dtbX10_imageAt_0 1 rfl) (by omega) (by decide) rfl (by omega) ?_
  refine cz_aload_n (pc' := 5) (g_d dtbX10_imageAt_0 2 rfl) rfl rfl ?_
  refine nz_getf (v := .ref 6) (pc' := 8) (g_d dtbX10_imageAt_0 3 rfl) gf_X10_16 (by decide) rfl rfl rfl ?_
  refine cz_goto (pc' := 15) (g_d dtbX10_imageAt_0 4 rfl) rfl ?_
  refine nz_rr (g_d dtbX10_imageAt_0 7 rfl) rfl ?_
  exact ⟨rfl, rfl⟩

set_option maxRecDepth 20000 in
set_option maxHeartbeats 4000000 in
theorem c_imageAt1 (G : Wd) (Z : ZS) : Cn G mX10_imageAt 0 [some (.ref 0), some (iv 1)] [] Z (qr (fun r W => 11 = r ∧ Z = W)) := by
  refine cz_iload_n (pc' := 1) (g_d dtbX10_imageAt_0 0 rfl) rfl rfl ?_
  refine nz_if_ne_t (tgt := 11) (g_d dtbX10_imageAt_0 1 rfl) (by omega) rfl (by omega) ?_
  refine cz_aload_n (pc' := 12) (g_d dtbX10_imageAt_0 5 rfl) rfl rfl ?_
  refine nz_getf (v := .ref 11) (pc' := 15) (g_d dtbX10_imageAt_0 6 rfl) gf_X10_19 (by decide) rfl rfl rfl ?_
  refine nz_rr (g_d dtbX10_imageAt_0 7 rfl) rfl ?_
  exact ⟨rfl, rfl⟩

def xAccount (A : AS) (n : Int) : Int × AS := if 0 ≤ n ∧ n ≤ 999 then (A.1 6, sF A (r108 (ru rBegin 0 n) A.1)) else (-2, aBad A)
def xBill (A : AS) (a d p : Int) : Int × AS := if (0 ≤ a ∧ a ≤ 5) ∧ (1 ≤ d ∧ d ≤ 28) ∧ (1 ≤ p ∧ p ≤ 99) then (if A.1 6 = 7 then (-4, aFull A) else (A.1 6, sF A (rBill A.1 a d p))) else (-2, aBad A)
def xType (A : AS) (c : Int) : Int × AS := if 0 ≤ c ∧ c ≤ 127 then (if A.2.2.2.1.1 = 150 then (-4, aFull A) else ((A.2.2.2.1.1 : Int) + 1, sT A (A.2.2.2.1.1 + 1) (ru A.2.2.2.1.2 A.2.2.2.1.1 c))) else (-2, aBad A)
def xClear (A : AS) : Int × AS := ((A.2.2.2.1.1 : Int), sT A 0 A.2.2.2.1.2)
def xSpend (A : AS) (n : Int) : Int × AS := if 0 ≤ n ∧ n ≤ 30 then (A.1 5, sF A (ru (rKeep A.1) 5 n)) else (-2, aBad A)
def xJar (A : AS) (n : Int) : Int × AS := if -99 ≤ n ∧ n ≤ 99 then (if A.1 1 + n < 0 ∨ (0 < n ∧ A.1 0 - n < 0) then (-3, aNo A) else (A.1 1 + n, sF A (ru (ru (rKeep A.1) 0 (A.1 0 - n)) 1 (A.1 1 + n)))) else (-2, aBad A)
def xUndo (A : AS) : Int × AS := if A.1 59 = 0 then (-3, aNo A) else (rUndo A.1 3, sF A (rUndo A.1))
def xNow (A : AS) (w : Int) : Int × AS := if 0 ≤ w ∧ w ≤ 5 then (A.1 w.toNat, A) else (-100000, aBad A)
def xForget (A : AS) : Int × AS := (A.1 28, sF A (ru A.1 28 0))
def xNote (A : AS) (b d e m q : Int) : Int × AS := if (0 ≤ b ∧ b < A.1 6) ∧ (1 ≤ d ∧ d ≤ 28) ∧ (1 ≤ e ∧ e ≤ 28) ∧ (0 ≤ m ∧ m ≤ 40) ∧ (-999 ≤ q ∧ q ≤ 999) then (if A.1 28 = 6 then (-4, aFull A) else (A.1 28 + 1, sF A (rNote A.1 b d e m q))) else (-2, aBad A)
def xPart (A : AS) (w : Int) : Int × AS := if w = 0 then (A.2.2.2.2.1.1, A) else if w = 1 then (A.2.2.2.2.1.2, A) else (-2, aBad A)
def xImage (A : AS) (i : Int) : Int × AS := if i = 0 then (1, sI0 A A.1) else if i = 1 then (1, sI1 A A.1) else (-2, aBad A)
def xFrom (A : AS) (i : Int) : Int × AS := if i = 0 then (if A.2.1.1 = 0 then (-3, aNo A) else (1, sF A (r108 A.2.1.2 A.1))) else if i = 1 then (if A.2.2.1.1 = 0 then (-3, aNo A) else (1, sF A (r108 A.2.2.1.2 A.1))) else (-2, aBad A)
def xStatus (A : AS) (w : Int) : Int × AS := if w = 0 then (A.2.2.2.2.2.1, A) else if w = 1 then (A.2.2.2.2.2.2.1, A) else if w = 2 then (A.2.2.2.2.2.2.2, A) else (-1, aBad A)
def xCount (A : AS) (w : Int) : Int × AS := if w = 0 then (A.1 6, A) else if w = 1 then (A.1 28, A) else if w = 2 then (A.1 59, A) else if w = 3 then ((A.2.2.2.1.1 : Int), A) else (-2, aBad A)
theorem rKeep_lo {f : Row} {j : Nat} (h : j < 59) : rKeep f j = f j := by
  have hS : rShift f j = f j := by
    unfold rShift
    split
    · rw [ru_ne (by omega), if_neg (by omega)]
    · rfl
  rw [rKeep, rPut, ru_ne (by omega), if_neg (by omega), hS]
theorem CS.text {Z : ZS} {A : AS} {W : ZS} {n : Nat} {t : Row} (h : CS Z A) (e1 : ∀ a, a ≤ 16 → W a = Z a) (e2 : W 17 2 = (n : Int)) (e3 : ∀ i, i < n → W 18 i = t i) : CS W (sT A n t) := by
  obtain ⟨h1, h2, h3, h4, h5, h6⟩ := h
  refine ⟨h1.eq (fun a q1 q2 => e1 a (by omega)), ⟨by rw [e1 16 (by omega)]; exact h2.1, fun q => (h2.2 q).eq (fun a q1 q2 => e1 a (by omega))⟩, ⟨by rw [e1 16 (by omega)]; exact h3.1, fun q => (h3.2 q).eq (fun a q1 q2 => e1 a (by omega))⟩, ⟨e2, e3⟩, ?_, ?_⟩
  · rw [e1 0 (by omega)]; exact h5
  · rw [e1 0 (by omega)]; exact h6

set_option maxRecDepth 20000 in
set_option maxHeartbeats 4000000 in
theorem a_account (G : Wd) (Z : ZS) (A : AS) (B : Int) (hC : CS Z A) (hA : AO B A) (n : Int) (hn : -2147483648 ≤ n ∧ n ≤ 2147483647) : Cn G mX10_account 0 [some (.ref 0), some (iv (n)), none] [] Z (qi (fun r W => (xAccount A n).1 = r ∧ CS W (xAccount A n).2 ∧ FM Z W)) := by
  have hB := hC.1
  have hb0 := hA.1
  have hO := hA.2.1
  have h6 : 0 ≤ A.1 6 ∧ A.1 6 ≤ 7 := hO.2.1
  have h28 : 0 ≤ A.1 28 ∧ A.1 28 ≤ 6 := hO.2.2.2.1
  have h59 : 0 ≤ A.1 59 ∧ A.1 59 ≤ 8 := hO.2.2.2.2.2.1
  have hf := hO.1
  unfold FO at hf
  have hct := hA.2.2.2.2.2.2
  refine cz_iload_n (pc' := 1) (g_d dtbX10_account_0 0 rfl) rfl rfl ?_
  refine nz_iconst (pc' := 2) (g_d dtbX10_account_0 1 rfl) rfl ?_
  refine nz_sipush (pc' := 5) (g_d dtbX10_account_0 2 rfl) (by decide) rfl ?_
  refine nz_cSi (M' := mX10_within) (As := [iv (n), iv 0, iv 999]) (S := []) (L := [some (.ref 0), some (iv (n)), none]) (pc' := 8) (g_d dtbX10_account_0 3 rfl) lk_X10_53 okX10_within rfl rfl (Nat.le_of_ble_eq_true rfl) (Nat.le_of_ble_eq_true rfl) (by decide) rfl (c_within G Z n 0 999 (by omega) (by omega) (by omega)) ?_
  rintro _ _ ⟨rfl, ⟨rfl, hw5⟩ | ⟨rfl, hw5⟩⟩
  · refine nz_if_ne_t (tgt := 18) (g_d dtbX10_account_0 4 rfl) (by omega) rfl (by omega) ?_
    refine cz_aload_n (pc' := 19) (g_d dtbX10_account_0 9 rfl) rfl rfl ?_
    refine nz_getf (v := .ref 1) (pc' := 22) (g_d dtbX10_account_0 10 rfl) gf_X10_10 (by decide) rfl rfl rfl ?_
    refine nz_getf (v := iv (A.1 6)) (pc' := 25) (g_d dtbX10_account_0 11 rfl) gf_X10_61 (by decide) rfl (congrArg iv (br1_4 (hB))) rfl ?_
    refine cz_istore_n (L' := [some (.ref 0), some (iv (n)), some (iv (A.1 6))]) (pc' := 26) (g_d dtbX10_account_0 12 rfl) (by decide) rfl rfl ?_
    refine cz_aload_n (pc' := 27) (g_d dtbX10_account_0 13 rfl) rfl rfl ?_
    refine nz_getf (v := .ref 1) (pc' := 30) (g_d dtbX10_account_0 14 rfl) gf_X10_10 (by decide) rfl rfl rfl ?_
    refine cz_iload_n (pc' := 31) (g_d dtbX10_account_0 15 rfl) rfl rfl ?_
    refine nz_cVv (M' := mX0_beginWith) (k := 1) (As := [iv (n)]) (S := []) (L := [some (.ref 0), some (iv (n)), some (iv (A.1 6))]) (pc' := 34) (g_d dtbX10_account_0 16 rfl) lk_X10_65 okX0_beginWith (by decide) rfl rfl rfl rfl (Nat.le_of_ble_eq_true rfl) (Nat.le_of_ble_eq_true rfl) (by decide) rfl (c_beginWith G Z 1 n bk1) ?_
    rintro W1 ⟨hb1, hF1⟩
    refine cz_iload_n (pc' := 35) (g_d dtbX10_account_0 17 rfl) rfl rfl ?_
    refine nz_ri .int (g_d dtbX10_account_0 18 rfl) rfl rfl ?_
    rw [show xAccount A n = (A.1 6, sF A (r108 (ru rBegin 0 n) A.1)) from if_pos (by omega)]
    exact ⟨rfl, hC.book (hb1.ext (fun j hj => r108_at hj)) hF1, FM.rf.b (by decide) hF1⟩
  · refine nz_if_ne_f (pc' := 11) (g_d dtbX10_account_0 4 rfl) (by omega) (by decide) rfl (by omega) ?_
    refine cz_aload_n (pc' := 12) (g_d dtbX10_account_0 5 rfl) rfl rfl ?_
    refine nz_bipush (pc' := 14) (g_d dtbX10_account_0 6 rfl) (by decide) rfl ?_
    refine nz_cVi (M' := mX10_refuseBad) (k := 0) (As := [iv (-2)]) (S := []) (L := [some (.ref 0), some (iv (n)), none]) (pc' := 17) (g_d dtbX10_account_0 7 rfl) lk_X10_57 okX10_refuseBad (by decide) rfl rfl rfl rfl (Nat.le_of_ble_eq_true rfl) (Nat.le_of_ble_eq_true rfl) (by decide) rfl (c_refuseBad G Z (-2)) ?_
    rintro _ _ ⟨rfl, rfl⟩
    refine nz_ri .int (g_d dtbX10_account_0 8 rfl) rfl rfl ?_
    rw [show xAccount A n = (-2, aBad A) from by unfold xAccount; rw [if_neg (by omega)]]
    exact ⟨rfl, cs_bad hC, (FM.u FM.rf (by decide))⟩

set_option maxRecDepth 20000 in
set_option maxHeartbeats 4000000 in
theorem a_bill (G : Wd) (Z : ZS) (A : AS) (B : Int) (hC : CS Z A) (hA : AO B A) (a d p : Int) (ha : -2147483648 ≤ a ∧ a ≤ 2147483647) (hd : -2147483648 ≤ d ∧ d ≤ 2147483647) (hp : -2147483648 ≤ p ∧ p ≤ 2147483647) : Cn G mX10_bill 0 [some (.ref 0), some (iv (a)), some (iv (d)), some (iv (p))] [] Z (qi (fun r W => (xBill A a d p).1 = r ∧ CS W (xBill A a d p).2 ∧ FM Z W)) := by
  have hB := hC.1
  have hb0 := hA.1
  have hO := hA.2.1
  have h6 : 0 ≤ A.1 6 ∧ A.1 6 ≤ 7 := hO.2.1
  have h28 : 0 ≤ A.1 28 ∧ A.1 28 ≤ 6 := hO.2.2.2.1
  have h59 : 0 ≤ A.1 59 ∧ A.1 59 ≤ 8 := hO.2.2.2.2.2.1
  have hf := hO.1
  unfold FO at hf
  have hct := hA.2.2.2.2.2.2
  refine cz_iload_n (pc' := 1) (g_d dtbX10_bill_0 0 rfl) rfl rfl ?_
  refine cz_iload_n (pc' := 2) (g_d dtbX10_bill_0 1 rfl) rfl rfl ?_
  refine cz_iload_n (pc' := 3) (g_d dtbX10_bill_0 2 rfl) rfl rfl ?_
  refine nz_cSi (M' := mX10_isBill) (As := [iv (a), iv (d), iv (p)]) (S := []) (L := [some (.ref 0), some (iv (a)), some (iv (d)), some (iv (p))]) (pc' := 6) (g_d dtbX10_bill_0 3 rfl) lk_X10_69 okX10_isBill rfl rfl (Nat.le_of_ble_eq_true rfl) (Nat.le_of_ble_eq_true rfl) (by decide) rfl (c_isBill G Z a d p (by omega) (by omega) (by omega)) ?_
  rintro _ _ ⟨rfl, ⟨rfl, hw3⟩ | ⟨rfl, hw3⟩⟩
  · refine nz_if_ne_t (tgt := 16) (g_d dtbX10_bill_0 4 rfl) (by omega) rfl (by omega) ?_
    refine cz_aload_n (pc' := 17) (g_d dtbX10_bill_0 9 rfl) rfl rfl ?_
    refine nz_getf (v := .ref 1) (pc' := 20) (g_d dtbX10_bill_0 10 rfl) gf_X10_10 (by decide) rfl rfl rfl ?_
    refine nz_getf (v := iv (A.1 6)) (pc' := 23) (g_d dtbX10_bill_0 11 rfl) gf_X10_61 (by decide) rfl (congrArg iv (br1_4 (hB))) rfl ?_
    refine nz_bipush (pc' := 25) (g_d dtbX10_bill_0 12 rfl) (by decide) rfl ?_
    refine nz_icmp_lt (tgt := 33) (pc' := 28) (g_d dtbX10_bill_0 13 rfl) (by omega) (by omega) rfl rfl (fun h25 => ?_) (fun h25 => ?_)
    · refine cz_aload_n (pc' := 34) (g_d dtbX10_bill_0 17 rfl) rfl rfl ?_
      refine nz_getf (v := .ref 1) (pc' := 37) (g_d dtbX10_bill_0 18 rfl) gf_X10_10 (by decide) rfl rfl rfl ?_
      refine cz_iload_n (pc' := 38) (g_d dtbX10_bill_0 19 rfl) rfl rfl ?_
      refine cz_iload_n (pc' := 39) (g_d dtbX10_bill_0 20 rfl) rfl rfl ?_
      refine cz_iload_n (pc' := 40) (g_d dtbX10_bill_0 21 rfl) rfl rfl ?_
      refine nz_cVv (M' := mX0_addBill) (k := 1) (As := [iv (a), iv (d), iv (p)]) (S := []) (L := [some (.ref 0), some (iv (a)), some (iv (d)), some (iv (p))]) (pc' := 43) (g_d dtbX10_bill_0 22 rfl) lk_X10_76 okX0_addBill (by decide) rfl rfl rfl rfl (Nat.le_of_ble_eq_true rfl) (Nat.le_of_ble_eq_true rfl) (by decide) rfl (c_addBill G Z 1 (A.1 6).toNat A.1 a d p bk1 hB (by omega) (by omega)) ?_
      rintro W1 ⟨hb1, hF1⟩
      refine cz_aload_n (pc' := 44) (g_d dtbX10_bill_0 23 rfl) rfl rfl ?_
      refine nz_getf (v := .ref 1) (pc' := 47) (g_d dtbX10_bill_0 24 rfl) gf_X10_10 (by decide) rfl rfl rfl ?_
      refine nz_getf (v := iv (A.1 6 + 1)) (pc' := 50) (g_d dtbX10_bill_0 25 rfl) gf_X10_61 (by decide) rfl (congrArg iv (by rw [br1_4 hb1, rBill, ru_eq])) rfl ?_
      refine nz_iconst (pc' := 51) (g_d dtbX10_bill_0 26 rfl) rfl ?_
      refine nz_isub (pc' := 52) (g_d dtbX10_bill_0 27 rfl) rfl ?_
      refine nz_ri .int (g_d dtbX10_bill_0 28 rfl) rfl rfl ?_
      rw [show A.1 6 + 1 - 1 = A.1 6 by omega]
      rw [show xBill A a d p = (A.1 6, sF A (rBill A.1 a d p)) from by unfold xBill; rw [if_pos (by omega), if_neg (by omega)]]
      exact ⟨rfl, hC.book hb1 hF1, FM.rf.b (by decide) hF1⟩
    · refine cz_aload_n (pc' := 29) (g_d dtbX10_bill_0 14 rfl) rfl rfl ?_
      refine nz_cVi (M' := mX10_refuseFull) (k := 0) (As := []) (S := []) (L := [some (.ref 0), some (iv (a)), some (iv (d)), some (iv (p))]) (pc' := 32) (g_d dtbX10_bill_0 15 rfl) lk_X10_72 okX10_refuseFull (by decide) rfl rfl rfl rfl (Nat.le_of_ble_eq_true rfl) (Nat.le_of_ble_eq_true rfl) (by decide) rfl (c_refuseFull G Z) ?_
      rintro _ _ ⟨rfl, rfl⟩
      refine nz_ri .int (g_d dtbX10_bill_0 16 rfl) rfl rfl ?_
      rw [show xBill A a d p = (-4, aFull A) from by unfold xBill; rw [if_pos (by omega), if_pos (by omega)]]
      exact ⟨rfl, cs_full hC, (FM.u FM.rf (by decide))⟩
  · refine nz_if_ne_f (pc' := 9) (g_d dtbX10_bill_0 4 rfl) (by omega) (by decide) rfl (by omega) ?_
    refine cz_aload_n (pc' := 10) (g_d dtbX10_bill_0 5 rfl) rfl rfl ?_
    refine nz_bipush (pc' := 12) (g_d dtbX10_bill_0 6 rfl) (by decide) rfl ?_
    refine nz_cVi (M' := mX10_refuseBad) (k := 0) (As := [iv (-2)]) (S := []) (L := [some (.ref 0), some (iv (a)), some (iv (d)), some (iv (p))]) (pc' := 15) (g_d dtbX10_bill_0 7 rfl) lk_X10_57 okX10_refuseBad (by decide) rfl rfl rfl rfl (Nat.le_of_ble_eq_true rfl) (Nat.le_of_ble_eq_true rfl) (by decide) rfl (c_refuseBad G Z (-2)) ?_
    rintro _ _ ⟨rfl, rfl⟩
    refine nz_ri .int (g_d dtbX10_bill_0 8 rfl) rfl rfl ?_
    rw [show xBill A a d p = (-2, aBad A) from by unfold xBill; rw [if_neg (by omega)]]
    exact ⟨rfl, cs_bad hC, (FM.u FM.rf (by decide))⟩
