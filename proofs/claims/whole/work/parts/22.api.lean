set_option maxRecDepth 20000 in
set_option maxHeartbeats 4000000 in
theorem c_refuseBad (G : Wd) (Z : ZS) (a : Int) : Cn G mX10_refuseBad 0 [some (.ref 0), some (iv (a))] [] Z (qi (fun r W => a = r ∧ zu Z 0 10 (Z 0 10 + 1) = W)) := by
  refine cz_aload_n (pc' := 1) (g_d dtbX10_refuseBad_0 0 rfl) rfl rfl ?_
  refine cz_dup (pc' := 2) (g_d dtbX10_refuseBad_0 1 rfl) rfl rfl ?_
  refine nz_getf (v := iv (Z 0 10)) (pc' := 5) (g_d dtbX10_refuseBad_0 2 rfl) gf_X10_227 (by decide) rfl rfl rfl ?_
  refine nz_iconst (pc' := 6) (g_d dtbX10_refuseBad_0 3 rfl) rfl ?_
  refine nz_iadd (pc' := 7) (g_d dtbX10_refuseBad_0 4 rfl) rfl ?_
  refine nz_puti (pc' := 10) (g_d dtbX10_refuseBad_0 5 rfl) pf_X10_227 rfl (by decide) rfl rfl ?_
  refine cz_iload_n (pc' := 11) (g_d dtbX10_refuseBad_0 6 rfl) rfl rfl ?_
  refine nz_ri .int (g_d dtbX10_refuseBad_0 7 rfl) rfl rfl ?_
  exact ⟨rfl, rfl⟩

set_option maxRecDepth 20000 in
set_option maxHeartbeats 4000000 in
theorem c_refuseNo (G : Wd) (Z : ZS) : Cn G mX10_refuseNo 0 [some (.ref 0)] [] Z (qi (fun r W => -3 = r ∧ zu Z 0 11 (Z 0 11 + 1) = W)) := by
  refine cz_aload_n (pc' := 1) (g_d dtbX10_refuseNo_0 0 rfl) rfl rfl ?_
  refine cz_dup (pc' := 2) (g_d dtbX10_refuseNo_0 1 rfl) rfl rfl ?_
  refine nz_getf (v := iv (Z 0 11)) (pc' := 5) (g_d dtbX10_refuseNo_0 2 rfl) gf_X10_230 (by decide) rfl rfl rfl ?_
  refine nz_iconst (pc' := 6) (g_d dtbX10_refuseNo_0 3 rfl) rfl ?_
  refine nz_iadd (pc' := 7) (g_d dtbX10_refuseNo_0 4 rfl) rfl ?_
  refine nz_puti (pc' := 10) (g_d dtbX10_refuseNo_0 5 rfl) pf_X10_230 rfl (by decide) rfl rfl ?_
  refine nz_bipush (pc' := 12) (g_d dtbX10_refuseNo_0 6 rfl) (by decide) rfl ?_
  refine nz_ri .int (g_d dtbX10_refuseNo_0 7 rfl) rfl rfl ?_
  exact ⟨rfl, rfl⟩

set_option maxRecDepth 20000 in
set_option maxHeartbeats 4000000 in
theorem c_refuseFull (G : Wd) (Z : ZS) : Cn G mX10_refuseFull 0 [some (.ref 0)] [] Z (qi (fun r W => -4 = r ∧ zu Z 0 12 (Z 0 12 + 1) = W)) := by
  refine cz_aload_n (pc' := 1) (g_d dtbX10_refuseFull_0 0 rfl) rfl rfl ?_
  refine cz_dup (pc' := 2) (g_d dtbX10_refuseFull_0 1 rfl) rfl rfl ?_
  refine nz_getf (v := iv (Z 0 12)) (pc' := 5) (g_d dtbX10_refuseFull_0 2 rfl) gf_X10_233 (by decide) rfl rfl rfl ?_
  refine nz_iconst (pc' := 6) (g_d dtbX10_refuseFull_0 3 rfl) rfl ?_
  refine nz_iadd (pc' := 7) (g_d dtbX10_refuseFull_0 4 rfl) rfl ?_
  refine nz_puti (pc' := 10) (g_d dtbX10_refuseFull_0 5 rfl) pf_X10_233 rfl (by decide) rfl rfl ?_
  refine nz_bipush (pc' := 12) (g_d dtbX10_refuseFull_0 6 rfl) (by decide) rfl ?_
  refine nz_ri .int (g_d dtbX10_refuseFull_0 7 rfl) rfl rfl ?_
  exact ⟨rfl, rfl⟩

set_option maxRecDepth 20000 in
set_option maxHeartbeats 4000000 in
theorem c_isBill (G : Wd) (Z : ZS) (a d p : Int) (ha : -2147483648 ≤ a ∧ a ≤ 2147483647) (hd : -2147483648 ≤ d ∧ d ≤ 2147483647) (hp : -2147483648 ≤ p ∧ p ≤ 2147483647) : Cn G mX10_isBill 0 [some (iv (a)), some (iv (d)), some (iv (p))] [] Z (qi (fun r W => Z = W ∧ ((r = 1 ∧ (0 ≤ a ∧ a ≤ 5) ∧ (1 ≤ d ∧ d ≤ 28) ∧ (1 ≤ p ∧ p ≤ 99)) ∨ (r = 0 ∧ ¬ ((0 ≤ a ∧ a ≤ 5) ∧ (1 ≤ d ∧ d ≤ 28) ∧ (1 ≤ p ∧ p ≤ 99)))))) := by
  refine cz_iload_n (pc' := 1) (g_d dtbX10_isBill_0 0 rfl) rfl rfl ?_
  refine nz_iconst (pc' := 2) (g_d dtbX10_isBill_0 1 rfl) rfl ?_
  refine nz_iconst (pc' := 3) (g_d dtbX10_isBill_0 2 rfl) rfl ?_
  refine nz_cSi (M' := mX10_within) (As := [iv (a), iv 0, iv 5]) (S := []) (L := [some (iv (a)), some (iv (d)), some (iv (p))]) (pc' := 6) (g_d dtbX10_isBill_0 3 rfl) lk_X10_53 okX10_within rfl rfl (Nat.le_of_ble_eq_true rfl) (Nat.le_of_ble_eq_true rfl) (by decide) rfl (c_within G Z a 0 5 (by omega) (by omega) (by omega)) ?_
  rintro _ _ ⟨rfl, ⟨rfl, hw3⟩ | ⟨rfl, hw3⟩⟩
  · refine nz_if_eq_f (pc' := 9) (g_d dtbX10_isBill_0 4 rfl) (by omega) (by decide) rfl (by omega) ?_
    refine cz_iload_n (pc' := 10) (g_d dtbX10_isBill_0 5 rfl) rfl rfl ?_
    refine nz_iconst (pc' := 11) (g_d dtbX10_isBill_0 6 rfl) rfl ?_
    refine nz_bipush (pc' := 13) (g_d dtbX10_isBill_0 7 rfl) (by decide) rfl ?_
    refine nz_cSi (M' := mX10_within) (As := [iv (d), iv 1, iv 28]) (S := []) (L := [some (iv (a)), some (iv (d)), some (iv (p))]) (pc' := 16) (g_d dtbX10_isBill_0 8 rfl) lk_X10_53 okX10_within rfl rfl (Nat.le_of_ble_eq_true rfl) (Nat.le_of_ble_eq_true rfl) (by decide) rfl (c_within G Z d 1 28 (by omega) (by omega) (by omega)) ?_
    rintro _ _ ⟨rfl, ⟨rfl, hw13⟩ | ⟨rfl, hw13⟩⟩
    · refine nz_if_eq_f (pc' := 19) (g_d dtbX10_isBill_0 9 rfl) (by omega) (by decide) rfl (by omega) ?_
      refine cz_iload_n (pc' := 20) (g_d dtbX10_isBill_0 10 rfl) rfl rfl ?_
      refine nz_iconst (pc' := 21) (g_d dtbX10_isBill_0 11 rfl) rfl ?_
      refine nz_bipush (pc' := 23) (g_d dtbX10_isBill_0 12 rfl) (by decide) rfl ?_
      refine nz_cSi (M' := mX10_within) (As := [iv (p), iv 1, iv 99]) (S := []) (L := [some (iv (a)), some (iv (d)), some (iv (p))]) (pc' := 26) (g_d dtbX10_isBill_0 13 rfl) lk_X10_53 okX10_within rfl rfl (Nat.le_of_ble_eq_true rfl) (Nat.le_of_ble_eq_true rfl) (by decide) rfl (c_within G Z p 1 99 (by omega) (by omega) (by omega)) ?_
      rintro _ _ ⟨rfl, ⟨rfl, hw23⟩ | ⟨rfl, hw23⟩⟩
      · refine nz_if_eq_f (pc' := 29) (g_d dtbX10_isBill_0 14 rfl) (by omega) (by decide) rfl (by omega) ?_
        refine nz_iconst (pc' := 30) (g_d dtbX10_isBill_0 15 rfl) rfl ?_
        refine cz_goto (pc' := 34) (g_d dtbX10_isBill_0 16 rfl) rfl ?_
        refine nz_ri .boolean (g_d dtbX10_isBill_0 18 rfl) rfl rfl ?_
        exact ⟨rfl, by omega⟩
      · refine nz_if_eq_t (tgt := 33) (g_d dtbX10_isBill_0 14 rfl) (by omega) rfl (by omega) ?_
        refine nz_iconst (pc' := 34) (g_d dtbX10_isBill_0 17 rfl) rfl ?_
        refine nz_ri .boolean (g_d dtbX10_isBill_0 18 rfl) rfl rfl ?_
        exact ⟨rfl, by omega⟩
    · refine nz_if_eq_t (tgt := 33) (g_d dtbX10_isBill_0 9 rfl) (by omega) rfl (by omega) ?_
      refine nz_iconst (pc' := 34) (g_d dtbX10_isBill_0 17 rfl) rfl ?_
      refine nz_ri .boolean (g_d dtbX10_isBill_0 18 rfl) rfl rfl ?_
      exact ⟨rfl, by omega⟩
  · refine nz_if_eq_t (tgt := 33) (g_d dtbX10_isBill_0 4 rfl) (by omega) rfl (by omega) ?_
    refine nz_iconst (pc' := 34) (g_d dtbX10_isBill_0 17 rfl) rfl ?_
    refine nz_ri .boolean (g_d dtbX10_isBill_0 18 rfl) rfl rfl ?_
    exact ⟨rfl, by omega⟩

set_option maxRecDepth 20000 in
set_option maxHeartbeats 4000000 in
theorem c_isBN (G : Wd) (Z : ZS) (A : AS) (B : Int) (hC : CS Z A) (hA : AO B A) (b : Int) (hb : -2147483648 ≤ b ∧ b ≤ 2147483647) : Cn G mX10_isBillNumber 0 [some (.ref 0), some (iv (b))] [] Z (qi (fun r W => Z = W ∧ ((r = 1 ∧ 0 ≤ b ∧ b < A.1 6) ∨ (r = 0 ∧ ¬ (0 ≤ b ∧ b < A.1 6))))) := by
  have hB := hC.1
  have hb0 := hA.1
  have hO := hA.2.1
  have h6 : 0 ≤ A.1 6 ∧ A.1 6 ≤ 7 := hO.2.1
  have h28 : 0 ≤ A.1 28 ∧ A.1 28 ≤ 6 := hO.2.2.2.1
  have h59 : 0 ≤ A.1 59 ∧ A.1 59 ≤ 8 := hO.2.2.2.2.2.1
  have hf := hO.1
  unfold FO at hf
  have hct := hA.2.2.2.2.2.2
  refine cz_iload_n (pc' := 1) (g_d dtbX10_isBillNumber_0 0 rfl) rfl rfl ?_
  refine nz_if_lt (tgt := 19) (pc' := 4) (g_d dtbX10_isBillNumber_0 1 rfl) (by omega) rfl rfl (fun h1 => ?_) (fun h1 => ?_)
  · refine nz_iconst (pc' := 20) (g_d dtbX10_isBillNumber_0 9 rfl) rfl ?_
    refine nz_ri .boolean (g_d dtbX10_isBillNumber_0 10 rfl) rfl rfl ?_
    exact ⟨rfl, by omega⟩
  · refine cz_iload_n (pc' := 5) (g_d dtbX10_isBillNumber_0 2 rfl) rfl rfl ?_
    refine cz_aload_n (pc' := 6) (g_d dtbX10_isBillNumber_0 3 rfl) rfl rfl ?_
    refine nz_getf (v := .ref 1) (pc' := 9) (g_d dtbX10_isBillNumber_0 4 rfl) gf_X10_10 (by decide) rfl rfl rfl ?_
    refine nz_getf (v := iv (A.1 6)) (pc' := 12) (g_d dtbX10_isBillNumber_0 5 rfl) gf_X10_61 (by decide) rfl (congrArg iv (br1_4 (hB))) rfl ?_
    refine nz_icmp_ge (tgt := 19) (pc' := 15) (g_d dtbX10_isBillNumber_0 6 rfl) (by omega) (by omega) rfl rfl (fun h12 => ?_) (fun h12 => ?_)
    · refine nz_iconst (pc' := 20) (g_d dtbX10_isBillNumber_0 9 rfl) rfl ?_
      refine nz_ri .boolean (g_d dtbX10_isBillNumber_0 10 rfl) rfl rfl ?_
      exact ⟨rfl, by omega⟩
    · refine nz_iconst (pc' := 16) (g_d dtbX10_isBillNumber_0 7 rfl) rfl ?_
      refine cz_goto (pc' := 20) (g_d dtbX10_isBillNumber_0 8 rfl) rfl ?_
      refine nz_ri .boolean (g_d dtbX10_isBillNumber_0 10 rfl) rfl rfl ?_
      exact ⟨rfl, by omega⟩

set_option maxRecDepth 20000 in
set_option maxHeartbeats 4000000 in
theorem c_imageAt0 (G : Wd) (Z : ZS) : Cn G mX10_imageAt 0 [some (.ref 0), some (iv 0)] [] Z (qr (fun r W => 6 = r ∧ Z = W)) := by
  refine cz_iload_n (pc' := 1) (g_d dtbX10_imageAt_0 0 rfl) rfl rfl ?_
  refine nz_if_ne_f (pc' := 4) (g_d dtbX10_imageAt_0 1 rfl) (by omega) (by decide) rfl (by omega) ?_
  refine cz_aload_n (pc' := 5) (g_d dtbX10_imageAt_0 2 rfl) rfl rfl ?_
  refine nz_getf (v := .ref 6) (pc' := 8) (g_d dtbX10_imageAt_0 3 rfl) gf_X10_16 (by decide) rfl rfl rfl ?_
  refine cz_goto (pc' := 15) (g_d dtbX10_imageAt_0 4 rfl) rfl ?_
  refine nz_rr (g_d dtbX10_imageAt_0 7 rfl) rfl ?_
  exact ⟨rfl, rfl⟩

set_option maxRecDepth 20000 in
set_option maxHeartbeats 4000000 in
theorem c_imageAt1 (G : Wd) (Z : ZS) : Cn G mX10_imageAt 0 [some (.ref 0), some (iv 1)] [] Z (qr (fun r W => 11 = r ∧ Z = W)) := by
  refine cz_iload_n (pc' := 1) (g_d dtbX10_imageAt_0 0 rfl) rfl rfl ?_
  refine nz_if_ne_t (tgt := 11) (g_d dtbX10_imageAt_0 1 rfl) (by omega) rfl (by omega) ?_
  refine cz_aload_n (pc' := 12) (g_d dtbX10_imageAt_0 5 rfl) rfl rfl ?_
  refine nz_getf (v := .ref 11) (pc' := 15) (g_d dtbX10_imageAt_0 6 rfl) gf_X10_19 (by decide) rfl rfl rfl ?_
  refine nz_rr (g_d dtbX10_imageAt_0 7 rfl) rfl ?_
  exact ⟨rfl, rfl⟩

def xAccount (A : AS) (n : Int) : Int × AS := if 0 ≤ n ∧ n ≤ 999 then (A.1 6, sF A (r108 (ru rBegin 0 n) A.1)) else (-2, aBad A)
def xBill (A : AS) (a d p : Int) : Int × AS := if (0 ≤ a ∧ a ≤ 5) ∧ (1 ≤ d ∧ d ≤ 28) ∧ (1 ≤ p ∧ p ≤ 99) then (if A.1 6 = 7 then (-4, aFull A) else (A.1 6, sF A (rBill A.1 a d p))) else (-2, aBad A)
def xType (A : AS) (c : Int) : Int × AS := if 0 ≤ c ∧ c ≤ 127 then (if A.2.2.2.1.1 = 150 then (-4, aFull A) else ((A.2.2.2.1.1 : Int) + 1, sT A (A.2.2.2.1.1 + 1) (ru A.2.2.2.1.2 A.2.2.2.1.1 c))) else (-2, aBad A)
def xClear (A : AS) : Int × AS := ((A.2.2.2.1.1 : Int), sT A 0 A.2.2.2.1.2)
def xSpend (A : AS) (n : Int) : Int × AS := if 0 ≤ n ∧ n ≤ 30 then (A.1 5, sF A (ru (rKeep A.1) 5 n)) else (-2, aBad A)
def xJar (A : AS) (n : Int) : Int × AS := if -99 ≤ n ∧ n ≤ 99 then (if A.1 1 + n < 0 ∨ (0 < n ∧ A.1 0 - n < 0) then (-3, aNo A) else (A.1 1 + n, sF A (ru (ru (rKeep A.1) 0 (A.1 0 - n)) 1 (A.1 1 + n)))) else (-2, aBad A)
def xUndo (A : AS) : Int × AS := if A.1 59 = 0 then (-3, aNo A) else (rUndo A.1 3, sF A (rUndo A.1))
def xNow (A : AS) (w : Int) : Int × AS := if 0 ≤ w ∧ w ≤ 5 then (A.1 w.toNat, A) else (-100000, aBad A)
def xForget (A : AS) : Int × AS := (A.1 28, sF A (ru A.1 28 0))
def xNote (A : AS) (b d e m q : Int) : Int × AS := if (0 ≤ b ∧ b < A.1 6) ∧ (1 ≤ d ∧ d ≤ 28) ∧ (1 ≤ e ∧ e ≤ 28) ∧ (0 ≤ m ∧ m ≤ 40) ∧ (-999 ≤ q ∧ q ≤ 999) then (if A.1 28 = 6 then (-4, aFull A) else (A.1 28 + 1, sF A (rNote A.1 b d e m q))) else (-2, aBad A)
def xPart (A : AS) (w : Int) : Int × AS := if w = 0 then (A.2.2.2.2.1.1, A) else if w = 1 then (A.2.2.2.2.1.2, A) else (-2, aBad A)
def xImage (A : AS) (i : Int) : Int × AS := if i = 0 then (1, sI0 A A.1) else if i = 1 then (1, sI1 A A.1) else (-2, aBad A)
def xFrom (A : AS) (i : Int) : Int × AS := if i = 0 then (if A.2.1.1 = 0 then (-3, aNo A) else (1, sF A (r108 A.2.1.2 A.1))) else if i = 1 then (if A.2.2.1.1 = 0 then (-3, aNo A) else (1, sF A (r108 A.2.2.1.2 A.1))) else (-2, aBad A)
def xStatus (A : AS) (w : Int) : Int × AS := if w = 0 then (A.2.2.2.2.2.1, A) else if w = 1 then (A.2.2.2.2.2.2.1, A) else if w = 2 then (A.2.2.2.2.2.2.2, A) else (-1, aBad A)
def xCount (A : AS) (w : Int) : Int × AS := if w = 0 then (A.1 6, A) else if w = 1 then (A.1 28, A) else if w = 2 then (A.1 59, A) else if w = 3 then ((A.2.2.2.1.1 : Int), A) else (-2, aBad A)
theorem rKeep_lo {f : Row} {j : Nat} (h : j < 59) : rKeep f j = f j := by
  have hS : rShift f j = f j := by
    unfold rShift
    split
    · rw [ru_ne (by omega), if_neg (by omega)]
    · rfl
  rw [rKeep, rPut, ru_ne (by omega), if_neg (by omega), hS]
theorem CS.text {Z : ZS} {A : AS} {W : ZS} {n : Nat} {t : Row} (h : CS Z A) (e1 : ∀ a, a ≤ 16 → W a = Z a) (e2 : W 17 2 = (n : Int)) (e3 : ∀ i, i < n → W 18 i = t i) : CS W (sT A n t) := by
  obtain ⟨h1, h2, h3, h4, h5, h6⟩ := h
  refine ⟨h1.eq (fun a q1 q2 => e1 a (by omega)), ⟨by rw [e1 16 (by omega)]; exact h2.1, fun q => (h2.2 q).eq (fun a q1 q2 => e1 a (by omega))⟩, ⟨by rw [e1 16 (by omega)]; exact h3.1, fun q => (h3.2 q).eq (fun a q1 q2 => e1 a (by omega))⟩, ⟨e2, e3⟩, ?_, ?_⟩
  · rw [e1 0 (by omega)]; exact h5
  · rw [e1 0 (by omega)]; exact h6

set_option maxRecDepth 20000 in
set_option maxHeartbeats 4000000 in
theorem a_account (G : Wd) (Z : ZS) (A : AS) (B : Int) (hC : CS Z A) (hA : AO B A) (n : Int) (hn : -2147483648 ≤ n ∧ n ≤ 2147483647) : Cn G mX10_account 0 [some (.ref 0), some (iv (n)), none] [] Z (qi (fun r W => (xAccount A n).1 = r ∧ CS W (xAccount A n).2 ∧ FM Z W)) := by
  have hB := hC.1
  have hb0 := hA.1
  have hO := hA.2.1
  have h6 : 0 ≤ A.1 6 ∧ A.1 6 ≤ 7 := hO.2.1
  have h28 : 0 ≤ A.1 28 ∧ A.1 28 ≤ 6 := hO.2.2.2.1
  have h59 : 0 ≤ A.1 59 ∧ A.1 59 ≤ 8 := hO.2.2.2.2.2.1
  have hf := hO.1
  unfold FO at hf
  have hct := hA.2.2.2.2.2.2
  refine cz_iload_n (pc' := 1) (g_d dtbX10_account_0 0 rfl) rfl rfl ?_
  refine nz_iconst (pc' := 2) (g_d dtbX10_account_0 1 rfl) rfl ?_
  refine nz_sipush (pc' := 5) (g_d dtbX10_account_0 2 rfl) (by decide) rfl ?_
  refine nz_cSi (M' := mX10_within) (As := [iv (n), iv 0, iv 999]) (S := []) (L := [some (.ref 0), some (iv (n)), none]) (pc' := 8) (g_d dtbX10_account_0 3 rfl) lk_X10_53 okX10_within rfl rfl (Nat.le_of_ble_eq_true rfl) (Nat.le_of_ble_eq_true rfl) (by decide) rfl (c_within G Z n 0 999 (by omega) (by omega) (by omega)) ?_
  rintro _ _ ⟨rfl, ⟨rfl, hw5⟩ | ⟨rfl, hw5⟩⟩
  · refine nz_if_ne_t (tgt := 18) (g_d dtbX10_account_0 4 rfl) (by omega) rfl (by omega) ?_
    refine cz_aload_n (pc' := 19) (g_d dtbX10_account_0 9 rfl) rfl rfl ?_
    refine nz_getf (v := .ref 1) (pc' := 22) (g_d dtbX10_account_0 10 rfl) gf_X10_10 (by decide) rfl rfl rfl ?_
    refine nz_getf (v := iv (A.1 6)) (pc' := 25) (g_d dtbX10_account_0 11 rfl) gf_X10_61 (by decide) rfl (congrArg iv (br1_4 (hB))) rfl ?_
    refine cz_istore_n (L' := [some (.ref 0), some (iv (n)), some (iv (A.1 6))]) (pc' := 26) (g_d dtbX10_account_0 12 rfl) (by decide) rfl rfl ?_
    refine cz_aload_n (pc' := 27) (g_d dtbX10_account_0 13 rfl) rfl rfl ?_
    refine nz_getf (v := .ref 1) (pc' := 30) (g_d dtbX10_account_0 14 rfl) gf_X10_10 (by decide) rfl rfl rfl ?_
    refine cz_iload_n (pc' := 31) (g_d dtbX10_account_0 15 rfl) rfl rfl ?_
    refine nz_cVv (M' := mX0_beginWith) (k := 1) (As := [iv (n)]) (S := []) (L := [some (.ref 0), some (iv (n)), some (iv (A.1 6))]) (pc' := 34) (g_d dtbX10_account_0 16 rfl) lk_X10_65 okX0_beginWith (by decide) rfl rfl rfl rfl (Nat.le_of_ble_eq_true rfl) (Nat.le_of_ble_eq_true rfl) (by decide) rfl (c_beginWith G Z 1 n bk1) ?_
    rintro W1 ⟨hb1, hF1⟩
    refine cz_iload_n (pc' := 35) (g_d dtbX10_account_0 17 rfl) rfl rfl ?_
    refine nz_ri .int (g_d dtbX10_account_0 18 rfl) rfl rfl ?_
    rw [show xAccount A n = (A.1 6, sF A (r108 (ru rBegin 0 n) A.1)) from if_pos (by omega)]
    exact ⟨rfl, hC.book (hb1.ext (fun j hj => r108_at hj)) hF1, FM.rf.b (by decide) hF1⟩
  · refine nz_if_ne_f (pc' := 11) (g_d dtbX10_account_0 4 rfl) (by omega) (by decide) rfl (by omega) ?_
    refine cz_aload_n (pc' := 12) (g_d dtbX10_account_0 5 rfl) rfl rfl ?_
    refine nz_bipush (pc' := 14) (g_d dtbX10_account_0 6 rfl) (by decide) rfl ?_
    refine nz_cVi (M' := mX10_refuseBad) (k := 0) (As := [iv (-2)]) (S := []) (L := [some (.ref 0), some (iv (n)), none]) (pc' := 17) (g_d dtbX10_account_0 7 rfl) lk_X10_57 okX10_refuseBad (by decide) rfl rfl rfl rfl (Nat.le_of_ble_eq_true rfl) (Nat.le_of_ble_eq_true rfl) (by decide) rfl (c_refuseBad G Z (-2)) ?_
    rintro _ _ ⟨rfl, rfl⟩
    refine nz_ri .int (g_d dtbX10_account_0 8 rfl) rfl rfl ?_
    rw [show xAccount A n = (-2, aBad A) from by unfold xAccount; rw [if_neg (by omega)]]
    exact ⟨rfl, cs_bad hC, (FM.u FM.rf (by decide))⟩

set_option maxRecDepth 20000 in
set_option maxHeartbeats 4000000 in
theorem a_bill (G : Wd) (Z : ZS) (A : AS) (B : Int) (hC : CS Z A) (hA : AO B A) (a d p : Int) (ha : -2147483648 ≤ a ∧ a ≤ 2147483647) (hd : -2147483648 ≤ d ∧ d ≤ 2147483647) (hp : -2147483648 ≤ p ∧ p ≤ 2147483647) : Cn G mX10_bill 0 [some (.ref 0), some (iv (a)), some (iv (d)), some (iv (p))] [] Z (qi (fun r W => (xBill A a d p).1 = r ∧ CS W (xBill A a d p).2 ∧ FM Z W)) := by
  have hB := hC.1
  have hb0 := hA.1
  have hO := hA.2.1
  have h6 : 0 ≤ A.1 6 ∧ A.1 6 ≤ 7 := hO.2.1
  have h28 : 0 ≤ A.1 28 ∧ A.1 28 ≤ 6 := hO.2.2.2.1
  have h59 : 0 ≤ A.1 59 ∧ A.1 59 ≤ 8 := hO.2.2.2.2.2.1
  have hf := hO.1
  unfold FO at hf
  have hct := hA.2.2.2.2.2.2
  refine cz_iload_n (pc' := 1) (g_d dtbX10_bill_0 0 rfl) rfl rfl ?_
  refine cz_iload_n (pc' := 2) (g_d dtbX10_bill_0 1 rfl) rfl rfl ?_
  refine cz_iload_n (pc' := 3) (g_d dtbX10_bill_0 2 rfl) rfl rfl ?_
  refine nz_cSi (M' := mX10_isBill) (As := [iv (a), iv (d), iv (p)]) (S := []) (L := [some (.ref 0), some (iv (a)), some (iv (d)), some (iv (p))]) (pc' := 6) (g_d dtbX10_bill_0 3 rfl) lk_X10_69 okX10_isBill rfl rfl (Nat.le_of_ble_eq_true rfl) (Nat.le_of_ble_eq_true rfl) (by decide) rfl (c_isBill G Z a d p (by omega) (by omega) (by omega)) ?_
  rintro _ _ ⟨rfl, ⟨rfl, hw3⟩ | ⟨rfl, hw3⟩⟩
  · refine nz_if_ne_t (tgt := 16) (g_d dtbX10_bill_0 4 rfl) (by omega) rfl (by omega) ?_
    refine cz_aload_n (pc' := 17) (g_d dtbX10_bill_0 9 rfl) rfl rfl ?_
    refine nz_getf (v := .ref 1) (pc' := 20) (g_d dtbX10_bill_0 10 rfl) gf_X10_10 (by decide) rfl rfl rfl ?_
    refine nz_getf (v := iv (A.1 6)) (pc' := 23) (g_d dtbX10_bill_0 11 rfl) gf_X10_61 (by decide) rfl (congrArg iv (br1_4 (hB))) rfl ?_
    refine nz_bipush (pc' := 25) (g_d dtbX10_bill_0 12 rfl) (by decide) rfl ?_
    refine nz_icmp_lt (tgt := 33) (pc' := 28) (g_d dtbX10_bill_0 13 rfl) (by omega) (by omega) rfl rfl (fun h25 => ?_) (fun h25 => ?_)
    · refine cz_aload_n (pc' := 34) (g_d dtbX10_bill_0 17 rfl) rfl rfl ?_
      refine nz_getf (v := .ref 1) (pc' := 37) (g_d dtbX10_bill_0 18 rfl) gf_X10_10 (by decide) rfl rfl rfl ?_
      refine cz_iload_n (pc' := 38) (g_d dtbX10_bill_0 19 rfl) rfl rfl ?_
      refine cz_iload_n (pc' := 39) (g_d dtbX10_bill_0 20 rfl) rfl rfl ?_
      refine cz_iload_n (pc' := 40) (g_d dtbX10_bill_0 21 rfl) rfl rfl ?_
      refine nz_cVv (M' := mX0_addBill) (k := 1) (As := [iv (a), iv (d), iv (p)]) (S := []) (L := [some (.ref 0), some (iv (a)), some (iv (d)), some (iv (p))]) (pc' := 43) (g_d dtbX10_bill_0 22 rfl) lk_X10_76 okX0_addBill (by decide) rfl rfl rfl rfl (Nat.le_of_ble_eq_true rfl) (Nat.le_of_ble_eq_true rfl) (by decide) rfl (c_addBill G Z 1 (A.1 6).toNat A.1 a d p bk1 hB (by omega) (by omega)) ?_
      rintro W1 ⟨hb1, hF1⟩
      refine cz_aload_n (pc' := 44) (g_d dtbX10_bill_0 23 rfl) rfl rfl ?_
      refine nz_getf (v := .ref 1) (pc' := 47) (g_d dtbX10_bill_0 24 rfl) gf_X10_10 (by decide) rfl rfl rfl ?_
      refine nz_getf (v := iv (A.1 6 + 1)) (pc' := 50) (g_d dtbX10_bill_0 25 rfl) gf_X10_61 (by decide) rfl (congrArg iv (by rw [br1_4 hb1, rBill, ru_eq])) rfl ?_
      refine nz_iconst (pc' := 51) (g_d dtbX10_bill_0 26 rfl) rfl ?_
      refine nz_isub (pc' := 52) (g_d dtbX10_bill_0 27 rfl) rfl ?_
      refine nz_ri .int (g_d dtbX10_bill_0 28 rfl) rfl rfl ?_
      rw [show A.1 6 + 1 - 1 = A.1 6 by omega]
      rw [show xBill A a d p = (A.1 6, sF A (rBill A.1 a d p)) from by unfold xBill; rw [if_pos (by omega), if_neg (by omega)]]
      exact ⟨rfl, hC.book hb1 hF1, FM.rf.b (by decide) hF1⟩
    · refine cz_aload_n (pc' := 29) (g_d dtbX10_bill_0 14 rfl) rfl rfl ?_
      refine nz_cVi (M' := mX10_refuseFull) (k := 0) (As := []) (S := []) (L := [some (.ref 0), some (iv (a)), some (iv (d)), some (iv (p))]) (pc' := 32) (g_d dtbX10_bill_0 15 rfl) lk_X10_72 okX10_refuseFull (by decide) rfl rfl rfl rfl (Nat.le_of_ble_eq_true rfl) (Nat.le_of_ble_eq_true rfl) (by decide) rfl (c_refuseFull G Z) ?_
      rintro _ _ ⟨rfl, rfl⟩
      refine nz_ri .int (g_d dtbX10_bill_0 16 rfl) rfl rfl ?_
      rw [show xBill A a d p = (-4, aFull A) from by unfold xBill; rw [if_pos (by omega), if_pos (by omega)]]
      exact ⟨rfl, cs_full hC, (FM.u FM.rf (by decide))⟩
  · refine nz_if_ne_f (pc' := 9) (g_d dtbX10_bill_0 4 rfl) (by omega) (by decide) rfl (by omega) ?_
    refine cz_aload_n (pc' := 10) (g_d dtbX10_bill_0 5 rfl) rfl rfl ?_
    refine nz_bipush (pc' := 12) (g_d dtbX10_bill_0 6 rfl) (by decide) rfl ?_
    refine nz_cVi (M' := mX10_refuseBad) (k := 0) (As := [iv (-2)]) (S := []) (L := [some (.ref 0), some (iv (a)), some (iv (d)), some (iv (p))]) (pc' := 15) (g_d dtbX10_bill_0 7 rfl) lk_X10_57 okX10_refuseBad (by decide) rfl rfl rfl rfl (Nat.le_of_ble_eq_true rfl) (Nat.le_of_ble_eq_true rfl) (by decide) rfl (c_refuseBad G Z (-2)) ?_
    rintro _ _ ⟨rfl, rfl⟩
    refine nz_ri .int (g_d dtbX10_bill_0 8 rfl) rfl rfl ?_
    rw [show xBill A a d p = (-2, aBad A) from by unfold xBill; rw [if_neg (by omega)]]
    exact ⟨rfl, cs_bad hC, (FM.u FM.rf (by decide))⟩

theorem nar8 {a : Int} (ha : -128 ≤ a ∧ a ≤ 127) : (Int32.ofInt a).toInt8.toInt32 = Int32.ofInt a := by
  apply Int32.toInt_inj.mp
  rw [Int8.toInt_toInt32, Int32.toInt_toInt8, t32 (by omega), Int.bmod_eq_of_le (by omega) (by omega)]
theorem nz_i2b {G : Wd} {M : MD} {pc pc' : Nat} {L : List (Option Value)} {S : List Value} {Z : ZS} {Q : Option Value → ZS → Prop} {a : Int} (hd : decode M.2.1 pc = .ok (.i2b, 1)) (ha : -128 ≤ a ∧ a ≤ 127) (hp : pc + 1 = pc') (h : Cn G M pc' L (iv a :: S) Z Q) : Cn G M pc L (iv a :: S) Z Q := cz_i2b hd hp (by rw [nar8 ha]; exact h)
theorem nar8v {a : Int} (ha : -128 ≤ a ∧ a ≤ 127) : narrow .byte (iv a) = iv a := by
  have : narrow .byte (iv a) = .int (Int32.ofInt a).toInt8.toInt32 := rfl
  rw [this, nar8 ha]

set_option maxRecDepth 20000 in
set_option maxHeartbeats 4000000 in
theorem c_addByte (G : Wd) (Z : ZS) (n : Nat) (c : Int) (hn : Z 17 2 = (n : Int)) (hn2 : n < 150) (hc : 0 ≤ c ∧ c ≤ 127) : Cn G mX8_addByte 0 [some (.ref 17), some (iv (c))] [] Z (qv (fun W => zu (zu Z 18 n c) 17 2 ((n : Int) + 1) = W)) := by
  refine cz_aload_n (pc' := 1) (g_d dtbX8_addByte_0 0 rfl) rfl rfl ?_
  refine nz_getf (v := iv ((n : Int))) (pc' := 4) (g_d dtbX8_addByte_0 1 rfl) gf_X8_22 (by decide) rfl (congrArg iv (by simp [zu, hn])) rfl ?_
  refine nz_sipush (pc' := 7) (g_d dtbX8_addByte_0 2 rfl) (by decide) rfl ?_
  refine nz_icmp_ge_f (pc' := 10) (g_d dtbX8_addByte_0 3 rfl) (by omega) (by omega) (by decide) rfl (by omega) ?_
  refine cz_aload_n (pc' := 11) (g_d dtbX8_addByte_0 4 rfl) rfl rfl ?_
  refine nz_getf (v := .ref 18) (pc' := 14) (g_d dtbX8_addByte_0 5 rfl) gf_X8_9 (by decide) rfl rfl rfl ?_
  refine cz_aload_n (pc' := 15) (g_d dtbX8_addByte_0 6 rfl) rfl rfl ?_
  refine nz_getf (v := iv ((n : Int))) (pc' := 18) (g_d dtbX8_addByte_0 7 rfl) gf_X8_22 (by decide) rfl (congrArg iv (by simp [zu, hn])) rfl ?_
  refine cz_iload_n (pc' := 19) (g_d dtbX8_addByte_0 8 rfl) rfl rfl ?_
  refine nz_i2b (pc' := 20) (g_d dtbX8_addByte_0 9 rfl) (by omega) rfl ?_
  refine nz_bast n (pc' := 21) (g_d dtbX8_addByte_0 10 rfl) (by decide) rfl (by omega) (by rfl) (by omega) (by exact nar8v (by omega)) rfl ?_
  refine cz_aload_n (pc' := 22) (g_d dtbX8_addByte_0 11 rfl) rfl rfl ?_
  refine cz_dup (pc' := 23) (g_d dtbX8_addByte_0 12 rfl) rfl rfl ?_
  refine nz_getf (v := iv ((n : Int))) (pc' := 26) (g_d dtbX8_addByte_0 13 rfl) gf_X8_22 (by decide) rfl (congrArg iv (by simp [zu, hn])) rfl ?_
  refine nz_iconst (pc' := 27) (g_d dtbX8_addByte_0 14 rfl) rfl ?_
  refine nz_iadd (pc' := 28) (g_d dtbX8_addByte_0 15 rfl) rfl ?_
  refine nz_puti (pc' := 31) (g_d dtbX8_addByte_0 16 rfl) pf_X8_22 rfl (by decide) rfl rfl ?_
  refine nz_rv (g_d dtbX8_addByte_0 17 rfl) rfl ?_
  exact rfl

set_option maxRecDepth 20000 in
set_option maxHeartbeats 4000000 in
theorem a_type (G : Wd) (Z : ZS) (A : AS) (B : Int) (hC : CS Z A) (hA : AO B A) (c : Int) (hc : -2147483648 ≤ c ∧ c ≤ 2147483647) : Cn G mX10_type 0 [some (.ref 0), some (iv (c))] [] Z (qi (fun r W => (xType A c).1 = r ∧ CS W (xType A c).2 ∧ FM Z W)) := by
  have hB := hC.1
  have hb0 := hA.1
  have hO := hA.2.1
  have h6 : 0 ≤ A.1 6 ∧ A.1 6 ≤ 7 := hO.2.1
  have h28 : 0 ≤ A.1 28 ∧ A.1 28 ≤ 6 := hO.2.2.2.1
  have h59 : 0 ≤ A.1 59 ∧ A.1 59 ≤ 8 := hO.2.2.2.2.2.1
  have hf := hO.1
  unfold FO at hf
  have hct := hA.2.2.2.2.2.2
  have ht := hC.2.2.2.1
  have hto := hA.2.2.2.2.1
  refine cz_iload_n (pc' := 1) (g_d dtbX10_type_0 0 rfl) rfl rfl ?_
  refine nz_iconst (pc' := 2) (g_d dtbX10_type_0 1 rfl) rfl ?_
  refine nz_bipush (pc' := 4) (g_d dtbX10_type_0 2 rfl) (by decide) rfl ?_
  refine nz_cSi (M' := mX10_within) (As := [iv (c), iv 0, iv 127]) (S := []) (L := [some (.ref 0), some (iv (c))]) (pc' := 7) (g_d dtbX10_type_0 3 rfl) lk_X10_53 okX10_within rfl rfl (Nat.le_of_ble_eq_true rfl) (Nat.le_of_ble_eq_true rfl) (by decide) rfl (c_within G Z c 0 127 (by omega) (by omega) (by omega)) ?_
  rintro _ _ ⟨rfl, ⟨rfl, hw4⟩ | ⟨rfl, hw4⟩⟩
  · refine nz_if_ne_t (tgt := 17) (g_d dtbX10_type_0 4 rfl) (by omega) rfl (by omega) ?_
    refine cz_aload_n (pc' := 18) (g_d dtbX10_type_0 9 rfl) rfl rfl ?_
    refine nz_getf (v := .ref 17) (pc' := 21) (g_d dtbX10_type_0 10 rfl) gf_X10_29 (by decide) rfl rfl rfl ?_
    refine nz_getf (v := iv ((A.2.2.2.1.1 : Int))) (pc' := 24) (g_d dtbX10_type_0 11 rfl) gf_X10_80 (by decide) rfl (congrArg iv (ht.1)) rfl ?_
    refine nz_sipush (pc' := 27) (g_d dtbX10_type_0 12 rfl) (by decide) rfl ?_
    refine nz_icmp_lt (tgt := 35) (pc' := 30) (g_d dtbX10_type_0 13 rfl) (by omega) (by omega) rfl rfl (fun h27 => ?_) (fun h27 => ?_)
    · refine cz_aload_n (pc' := 36) (g_d dtbX10_type_0 17 rfl) rfl rfl ?_
      refine nz_getf (v := .ref 17) (pc' := 39) (g_d dtbX10_type_0 18 rfl) gf_X10_29 (by decide) rfl rfl rfl ?_
      refine cz_iload_n (pc' := 40) (g_d dtbX10_type_0 19 rfl) rfl rfl ?_
      refine nz_cVv (M' := mX8_addByte) (k := 17) (As := [iv (c)]) (S := []) (L := [some (.ref 0), some (iv (c))]) (pc' := 43) (g_d dtbX10_type_0 20 rfl) lk_X10_83 okX8_addByte (by decide) rfl rfl rfl rfl (Nat.le_of_ble_eq_true rfl) (Nat.le_of_ble_eq_true rfl) (by decide) rfl (c_addByte G Z A.2.2.2.1.1 c ht.1 (by omega) (by omega)) ?_
      rintro _ rfl
      refine cz_aload_n (pc' := 44) (g_d dtbX10_type_0 21 rfl) rfl rfl ?_
      refine nz_getf (v := .ref 17) (pc' := 47) (g_d dtbX10_type_0 22 rfl) gf_X10_29 (by decide) rfl rfl rfl ?_
      refine nz_getf (v := iv ((A.2.2.2.1.1 : Int) + 1)) (pc' := 50) (g_d dtbX10_type_0 23 rfl) gf_X10_80 (by decide) rfl (congrArg iv (by simp [zu, zr])) rfl ?_
      refine nz_ri .int (g_d dtbX10_type_0 24 rfl) rfl rfl ?_
      rw [show xType A c = ((A.2.2.2.1.1 : Int) + 1, sT A (A.2.2.2.1.1 + 1) (ru A.2.2.2.1.2 A.2.2.2.1.1 c)) from by unfold xType; rw [if_pos (by omega), if_neg (by omega)]]
      exact ⟨rfl, hC.text (fun a ha => by rw [zu_row (by omega), zu_row (by omega)]) (by rw [zu_eq]; rfl) (fun i hi => by rw [zu_row (by omega)]; exact (Decidable.em (i = A.2.2.2.1.1)).elim (fun q => by rw [q, zu_eq, ru_eq]) (fun q => by rw [zu_ne (Or.inr q), ru_ne q]; exact ht.2 i (by omega))), FM.u (FM.u FM.rf (by decide)) (by decide)⟩
    · refine cz_aload_n (pc' := 31) (g_d dtbX10_type_0 14 rfl) rfl rfl ?_
      refine nz_cVi (M' := mX10_refuseFull) (k := 0) (As := []) (S := []) (L := [some (.ref 0), some (iv (c))]) (pc' := 34) (g_d dtbX10_type_0 15 rfl) lk_X10_72 okX10_refuseFull (by decide) rfl rfl rfl rfl (Nat.le_of_ble_eq_true rfl) (Nat.le_of_ble_eq_true rfl) (by decide) rfl (c_refuseFull G Z) ?_
      rintro _ _ ⟨rfl, rfl⟩
      refine nz_ri .int (g_d dtbX10_type_0 16 rfl) rfl rfl ?_
      rw [show xType A c = (-4, aFull A) from by unfold xType; rw [if_pos (by omega), if_pos (by omega)]]
      exact ⟨rfl, cs_full hC, (FM.u FM.rf (by decide))⟩
  · refine nz_if_ne_f (pc' := 10) (g_d dtbX10_type_0 4 rfl) (by omega) (by decide) rfl (by omega) ?_
    refine cz_aload_n (pc' := 11) (g_d dtbX10_type_0 5 rfl) rfl rfl ?_
    refine nz_bipush (pc' := 13) (g_d dtbX10_type_0 6 rfl) (by decide) rfl ?_
    refine nz_cVi (M' := mX10_refuseBad) (k := 0) (As := [iv (-2)]) (S := []) (L := [some (.ref 0), some (iv (c))]) (pc' := 16) (g_d dtbX10_type_0 7 rfl) lk_X10_57 okX10_refuseBad (by decide) rfl rfl rfl rfl (Nat.le_of_ble_eq_true rfl) (Nat.le_of_ble_eq_true rfl) (by decide) rfl (c_refuseBad G Z (-2)) ?_
    rintro _ _ ⟨rfl, rfl⟩
    refine nz_ri .int (g_d dtbX10_type_0 8 rfl) rfl rfl ?_
    rw [show xType A c = (-2, aBad A) from by unfold xType; rw [if_neg (by omega)]]
    exact ⟨rfl, cs_bad hC, (FM.u FM.rf (by decide))⟩

set_option maxRecDepth 20000 in
set_option maxHeartbeats 4000000 in
theorem a_clear (G : Wd) (Z : ZS) (A : AS) (B : Int) (hC : CS Z A) (hA : AO B A) : Cn G mX10_clear 0 [some (.ref 0), none] [] Z (qi (fun r W => (xClear A).1 = r ∧ CS W (xClear A).2 ∧ FM Z W)) := by
  have hB := hC.1
  have hb0 := hA.1
  have hO := hA.2.1
  have h6 : 0 ≤ A.1 6 ∧ A.1 6 ≤ 7 := hO.2.1
  have h28 : 0 ≤ A.1 28 ∧ A.1 28 ≤ 6 := hO.2.2.2.1
  have h59 : 0 ≤ A.1 59 ∧ A.1 59 ≤ 8 := hO.2.2.2.2.2.1
  have hf := hO.1
  unfold FO at hf
  have hct := hA.2.2.2.2.2.2
  have ht := hC.2.2.2.1
  have hto := hA.2.2.2.2.1
  refine cz_aload_n (pc' := 1) (g_d dtbX10_clear_0 0 rfl) rfl rfl ?_
  refine nz_getf (v := .ref 17) (pc' := 4) (g_d dtbX10_clear_0 1 rfl) gf_X10_29 (by decide) rfl rfl rfl ?_
  refine nz_getf (v := iv ((A.2.2.2.1.1 : Int))) (pc' := 7) (g_d dtbX10_clear_0 2 rfl) gf_X10_80 (by decide) rfl (congrArg iv (ht.1)) rfl ?_
  refine cz_istore_n (L' := [some (.ref 0), some (iv ((A.2.2.2.1.1 : Int)))]) (pc' := 8) (g_d dtbX10_clear_0 3 rfl) (by decide) rfl rfl ?_
  refine cz_aload_n (pc' := 9) (g_d dtbX10_clear_0 4 rfl) rfl rfl ?_
  refine nz_getf (v := .ref 17) (pc' := 12) (g_d dtbX10_clear_0 5 rfl) gf_X10_29 (by decide) rfl rfl rfl ?_
  refine nz_iconst (pc' := 13) (g_d dtbX10_clear_0 6 rfl) rfl ?_
  refine nz_puti (pc' := 16) (g_d dtbX10_clear_0 7 rfl) pf_X10_80 rfl (by decide) rfl rfl ?_
  refine cz_iload_n (pc' := 17) (g_d dtbX10_clear_0 8 rfl) rfl rfl ?_
  refine nz_ri .int (g_d dtbX10_clear_0 9 rfl) rfl rfl ?_
  exact ⟨rfl, hC.text (fun a ha => zu_row (by omega)) zu_eq (fun i hi => absurd hi (Nat.not_lt_zero i)), FM.u FM.rf (by decide)⟩

set_option maxRecDepth 20000 in
set_option maxHeartbeats 4000000 in
theorem a_spend (G : Wd) (Z : ZS) (A : AS) (B : Int) (hC : CS Z A) (hA : AO B A) (n : Int) (hn : -2147483648 ≤ n ∧ n ≤ 2147483647) : Cn G mX10_spend 0 [some (.ref 0), some (iv (n)), none] [] Z (qi (fun r W => (xSpend A n).1 = r ∧ CS W (xSpend A n).2 ∧ FM Z W)) := by
  have hB := hC.1
  have hb0 := hA.1
  have hO := hA.2.1
  have h6 : 0 ≤ A.1 6 ∧ A.1 6 ≤ 7 := hO.2.1
  have h28 : 0 ≤ A.1 28 ∧ A.1 28 ≤ 6 := hO.2.2.2.1
  have h59 : 0 ≤ A.1 59 ∧ A.1 59 ≤ 8 := hO.2.2.2.2.2.1
  have hf := hO.1
  unfold FO at hf
  have hct := hA.2.2.2.2.2.2
  refine cz_iload_n (pc' := 1) (g_d dtbX10_spend_0 0 rfl) rfl rfl ?_
  refine nz_iconst (pc' := 2) (g_d dtbX10_spend_0 1 rfl) rfl ?_
  refine nz_bipush (pc' := 4) (g_d dtbX10_spend_0 2 rfl) (by decide) rfl ?_
  refine nz_cSi (M' := mX10_within) (As := [iv (n), iv 0, iv 30]) (S := []) (L := [some (.ref 0), some (iv (n)), none]) (pc' := 7) (g_d dtbX10_spend_0 3 rfl) lk_X10_53 okX10_within rfl rfl (Nat.le_of_ble_eq_true rfl) (Nat.le_of_ble_eq_true rfl) (by decide) rfl (c_within G Z n 0 30 (by omega) (by omega) (by omega)) ?_
  rintro _ _ ⟨rfl, ⟨rfl, hw4⟩ | ⟨rfl, hw4⟩⟩
  · refine nz_if_ne_t (tgt := 17) (g_d dtbX10_spend_0 4 rfl) (by omega) rfl (by omega) ?_
    refine cz_aload_n (pc' := 18) (g_d dtbX10_spend_0 9 rfl) rfl rfl ?_
    refine nz_getf (v := .ref 1) (pc' := 21) (g_d dtbX10_spend_0 10 rfl) gf_X10_10 (by decide) rfl rfl rfl ?_
    refine nz_cVv (M' := mX0_keepPast) (k := 1) (As := []) (S := []) (L := [some (.ref 0), some (iv (n)), none]) (pc' := 24) (g_d dtbX10_spend_0 11 rfl) lk_X10_96 okX0_keepPast (by decide) rfl rfl rfl rfl (Nat.le_of_ble_eq_true rfl) (Nat.le_of_ble_eq_true rfl) (by decide) rfl (c_keepPast G Z 1 A.1 bk1 hB h59) ?_
    rintro W1 ⟨hb1, hF1⟩
    have hC1 := hC.book hb1 hF1
    refine cz_aload_n (pc' := 25) (g_d dtbX10_spend_0 12 rfl) rfl rfl ?_
    refine nz_getf (v := .ref 1) (pc' := 28) (g_d dtbX10_spend_0 13 rfl) gf_X10_10 (by decide) rfl rfl rfl ?_
    refine nz_getf (v := .ref 2) (pc' := 31) (g_d dtbX10_spend_0 14 rfl) gf_X10_99 (by decide) rfl rfl rfl ?_
    refine nz_iconst (pc' := 32) (g_d dtbX10_spend_0 15 rfl) rfl ?_
    refine nz_iald 5 (pc' := 33) (g_d dtbX10_spend_0 16 rfl) (by decide) rfl (by omega) (by rfl) (by omega) rfl ?_
    rw [show W1 2 5 = A.1 5 from (br1_fig hb1 (by decide)).trans (rKeep_lo (by decide))]
    refine cz_istore_n (L' := [some (.ref 0), some (iv (n)), some (iv (A.1 5))]) (pc' := 34) (g_d dtbX10_spend_0 17 rfl) (by decide) rfl rfl ?_
    refine cz_aload_n (pc' := 35) (g_d dtbX10_spend_0 18 rfl) rfl rfl ?_
    refine nz_getf (v := .ref 1) (pc' := 38) (g_d dtbX10_spend_0 19 rfl) gf_X10_10 (by decide) rfl rfl rfl ?_
    refine nz_getf (v := .ref 2) (pc' := 41) (g_d dtbX10_spend_0 20 rfl) gf_X10_99 (by decide) rfl rfl rfl ?_
    refine nz_iconst (pc' := 42) (g_d dtbX10_spend_0 21 rfl) rfl ?_
    refine cz_iload_n (pc' := 43) (g_d dtbX10_spend_0 22 rfl) rfl rfl ?_
    refine nz_iast 5 (pc' := 44) (g_d dtbX10_spend_0 23 rfl) (by decide) rfl (by omega) (by rfl) (by omega) rfl ?_
    refine cz_iload_n (pc' := 45) (g_d dtbX10_spend_0 24 rfl) rfl rfl ?_
    refine nz_ri .int (g_d dtbX10_spend_0 25 rfl) rfl rfl ?_
    rw [show xSpend A n = (A.1 5, sF A (ru (rKeep A.1) 5 n)) from if_pos (by omega)]
    exact ⟨rfl, hC.book (br_fig hb1 (by decide)) (hF1.u (by decide)), FM.u (FM.rf.b (by decide) hF1) (by decide)⟩
  · refine nz_if_ne_f (pc' := 10) (g_d dtbX10_spend_0 4 rfl) (by omega) (by decide) rfl (by omega) ?_
    refine cz_aload_n (pc' := 11) (g_d dtbX10_spend_0 5 rfl) rfl rfl ?_
    refine nz_bipush (pc' := 13) (g_d dtbX10_spend_0 6 rfl) (by decide) rfl ?_
    refine nz_cVi (M' := mX10_refuseBad) (k := 0) (As := [iv (-2)]) (S := []) (L := [some (.ref 0), some (iv (n)), none]) (pc' := 16) (g_d dtbX10_spend_0 7 rfl) lk_X10_57 okX10_refuseBad (by decide) rfl rfl rfl rfl (Nat.le_of_ble_eq_true rfl) (Nat.le_of_ble_eq_true rfl) (by decide) rfl (c_refuseBad G Z (-2)) ?_
    rintro _ _ ⟨rfl, rfl⟩
    refine nz_ri .int (g_d dtbX10_spend_0 8 rfl) rfl rfl ?_
    rw [show xSpend A n = (-2, aBad A) from by unfold xSpend; rw [if_neg (by omega)]]
    exact ⟨rfl, cs_bad hC, (FM.u FM.rf (by decide))⟩

set_option maxRecDepth 20000 in
set_option maxHeartbeats 4000000 in
theorem a_jar (G : Wd) (Z : ZS) (A : AS) (B : Int) (hC : CS Z A) (hA : AO B A) (n : Int) (hn : -2147483648 ≤ n ∧ n ≤ 2147483647) : Cn G mX10_jar 0 [some (.ref 0), some (iv (n)), none, none] [] Z (qi (fun r W => (xJar A n).1 = r ∧ CS W (xJar A n).2 ∧ FM Z W)) := by
  have hB := hC.1
  have hb0 := hA.1
  have hO := hA.2.1
  have h6 : 0 ≤ A.1 6 ∧ A.1 6 ≤ 7 := hO.2.1
  have h28 : 0 ≤ A.1 28 ∧ A.1 28 ≤ 6 := hO.2.2.2.1
  have h59 : 0 ≤ A.1 59 ∧ A.1 59 ≤ 8 := hO.2.2.2.2.2.1
  have hf := hO.1
  unfold FO at hf
  have hct := hA.2.2.2.2.2.2
  refine cz_iload_n (pc' := 1) (g_d dtbX10_jar_0 0 rfl) rfl rfl ?_
  refine nz_bipush (pc' := 3) (g_d dtbX10_jar_0 1 rfl) (by decide) rfl ?_
  refine nz_bipush (pc' := 5) (g_d dtbX10_jar_0 2 rfl) (by decide) rfl ?_
  refine nz_cSi (M' := mX10_within) (As := [iv (n), iv (-99), iv 99]) (S := []) (L := [some (.ref 0), some (iv (n)), none, none]) (pc' := 8) (g_d dtbX10_jar_0 3 rfl) lk_X10_53 okX10_within rfl rfl (Nat.le_of_ble_eq_true rfl) (Nat.le_of_ble_eq_true rfl) (by decide) rfl (c_within G Z n (-99) 99 (by omega) (by omega) (by omega)) ?_
  rintro _ _ ⟨rfl, ⟨rfl, hw5⟩ | ⟨rfl, hw5⟩⟩
  · refine nz_if_ne_t (tgt := 18) (g_d dtbX10_jar_0 4 rfl) (by omega) rfl (by omega) ?_
    refine cz_aload_n (pc' := 19) (g_d dtbX10_jar_0 9 rfl) rfl rfl ?_
    refine nz_getf (v := .ref 1) (pc' := 22) (g_d dtbX10_jar_0 10 rfl) gf_X10_10 (by decide) rfl rfl rfl ?_
    refine nz_getf (v := .ref 2) (pc' := 25) (g_d dtbX10_jar_0 11 rfl) gf_X10_99 (by decide) rfl rfl rfl ?_
    refine nz_iconst (pc' := 26) (g_d dtbX10_jar_0 12 rfl) rfl ?_
    refine nz_iald 1 (pc' := 27) (g_d dtbX10_jar_0 13 rfl) (by decide) rfl (by omega) (by rfl) (by omega) rfl ?_
    rw [show Z 2 1 = A.1 1 from br1_fig (hB) (by decide)]
    refine cz_iload_n (pc' := 28) (g_d dtbX10_jar_0 14 rfl) rfl rfl ?_
    refine nz_iadd (pc' := 29) (g_d dtbX10_jar_0 15 rfl) rfl ?_
    refine nz_if_ge (tgt := 36) (pc' := 32) (g_d dtbX10_jar_0 16 rfl) (by omega) rfl rfl (fun h29 => ?_) (fun h29 => ?_)
    · refine nz_iconst (pc' := 37) (g_d dtbX10_jar_0 19 rfl) rfl ?_
      refine cz_istore_n (L' := [some (.ref 0), some (iv (n)), some (iv 0), none]) (pc' := 38) (g_d dtbX10_jar_0 20 rfl) (by decide) rfl rfl ?_
      refine cz_iload_n (pc' := 39) (g_d dtbX10_jar_0 21 rfl) rfl rfl ?_
      refine nz_if_le (tgt := 60) (pc' := 42) (g_d dtbX10_jar_0 22 rfl) (by omega) rfl rfl (fun h39 => ?_) (fun h39 => ?_)
      · refine nz_iconst (pc' := 61) (g_d dtbX10_jar_0 33 rfl) rfl ?_
        refine cz_istore_n (L' := [some (.ref 0), some (iv (n)), some (iv 0), some (iv 0)]) (pc' := 62) (g_d dtbX10_jar_0 34 rfl) (by decide) rfl rfl ?_
        refine cz_iload_n (pc' := 63) (g_d dtbX10_jar_0 35 rfl) rfl rfl ?_
        refine nz_if_ne_f (pc' := 66) (g_d dtbX10_jar_0 36 rfl) (by omega) (by decide) rfl (by omega) ?_
        refine cz_iload_n (pc' := 67) (g_d dtbX10_jar_0 37 rfl) rfl rfl ?_
        refine nz_if_eq_t (tgt := 75) (g_d dtbX10_jar_0 38 rfl) (by omega) rfl (by omega) ?_
        refine cz_aload_n (pc' := 76) (g_d dtbX10_jar_0 42 rfl) rfl rfl ?_
        refine nz_getf (v := .ref 1) (pc' := 79) (g_d dtbX10_jar_0 43 rfl) gf_X10_10 (by decide) rfl rfl rfl ?_
        refine nz_cVv (M' := mX0_keepPast) (k := 1) (As := []) (S := []) (L := [some (.ref 0), some (iv (n)), some (iv 0), some (iv 0)]) (pc' := 82) (g_d dtbX10_jar_0 44 rfl) lk_X10_96 okX0_keepPast (by decide) rfl rfl rfl rfl (Nat.le_of_ble_eq_true rfl) (Nat.le_of_ble_eq_true rfl) (by decide) rfl (c_keepPast G Z 1 A.1 bk1 hB h59) ?_
        rintro W1 ⟨hb1, hF1⟩
        have hC1 := hC.book hb1 hF1
        refine cz_aload_n (pc' := 83) (g_d dtbX10_jar_0 45 rfl) rfl rfl ?_
        refine nz_getf (v := .ref 1) (pc' := 86) (g_d dtbX10_jar_0 46 rfl) gf_X10_10 (by decide) rfl rfl rfl ?_
        refine nz_getf (v := .ref 2) (pc' := 89) (g_d dtbX10_jar_0 47 rfl) gf_X10_99 (by decide) rfl rfl rfl ?_
        refine nz_iconst (pc' := 90) (g_d dtbX10_jar_0 48 rfl) rfl ?_
        refine cz_dup2 (pc' := 91) (g_d dtbX10_jar_0 49 rfl) rfl rfl rfl ?_
        refine nz_iald 0 (pc' := 92) (g_d dtbX10_jar_0 50 rfl) (by decide) rfl (by omega) (by rfl) (by omega) rfl ?_
        rw [show W1 2 0 = A.1 0 from (br1_fig hb1 (by decide)).trans (rKeep_lo (by decide))]
        refine cz_iload_n (pc' := 93) (g_d dtbX10_jar_0 51 rfl) rfl rfl ?_
        refine nz_isub (pc' := 94) (g_d dtbX10_jar_0 52 rfl) rfl ?_
        refine nz_iast 0 (pc' := 95) (g_d dtbX10_jar_0 53 rfl) (by decide) rfl (by omega) (by rfl) (by omega) rfl ?_
        refine cz_aload_n (pc' := 96) (g_d dtbX10_jar_0 54 rfl) rfl rfl ?_
        refine nz_getf (v := .ref 1) (pc' := 99) (g_d dtbX10_jar_0 55 rfl) gf_X10_10 (by decide) rfl rfl rfl ?_
        refine nz_getf (v := .ref 2) (pc' := 102) (g_d dtbX10_jar_0 56 rfl) gf_X10_99 (by decide) rfl rfl rfl ?_
        refine nz_iconst (pc' := 103) (g_d dtbX10_jar_0 57 rfl) rfl ?_
        refine cz_dup2 (pc' := 104) (g_d dtbX10_jar_0 58 rfl) rfl rfl rfl ?_
        refine nz_iald 1 (pc' := 105) (g_d dtbX10_jar_0 59 rfl) (by decide) rfl (by omega) (by rfl) (by omega) rfl ?_
        rw [show (zu W1 2 0 ((A.1 0) - n)) 2 1 = A.1 1 from by rw [show (zu W1 2 0 ((A.1 0) - n)) 2 1 = W1 2 1 from by simp [zu]]; exact (br1_fig hb1 (by decide)).trans (rKeep_lo (by decide))]
        refine cz_iload_n (pc' := 106) (g_d dtbX10_jar_1 0 rfl) rfl rfl ?_
        refine nz_iadd (pc' := 107) (g_d dtbX10_jar_1 1 rfl) rfl ?_
        refine nz_iast 1 (pc' := 108) (g_d dtbX10_jar_1 2 rfl) (by decide) rfl (by omega) (by rfl) (by omega) rfl ?_
        refine cz_aload_n (pc' := 109) (g_d dtbX10_jar_1 3 rfl) rfl rfl ?_
        refine nz_getf (v := .ref 1) (pc' := 112) (g_d dtbX10_jar_1 4 rfl) gf_X10_10 (by decide) rfl rfl rfl ?_
        refine nz_getf (v := .ref 2) (pc' := 115) (g_d dtbX10_jar_1 5 rfl) gf_X10_99 (by decide) rfl rfl rfl ?_
        refine nz_iconst (pc' := 116) (g_d dtbX10_jar_1 6 rfl) rfl ?_
        refine nz_iald 1 (pc' := 117) (g_d dtbX10_jar_1 7 rfl) (by decide) rfl (by omega) (by rfl) (by omega) rfl ?_
        rw [show (zu (zu W1 2 0 ((A.1 0) - n)) 2 1 ((A.1 1) + n)) 2 1 = (A.1 1) + n from by simp [zu]]
        refine nz_ri .int (g_d dtbX10_jar_1 8 rfl) rfl rfl ?_
        rw [show xJar A n = (A.1 1 + n, sF A (ru (ru (rKeep A.1) 0 (A.1 0 - n)) 1 (A.1 1 + n))) from by unfold xJar; rw [if_pos (by omega), if_neg (by omega)]]
        exact ⟨rfl, hC.book (br_fig (br_fig hb1 (by decide)) (by decide)) ((hF1.u (by decide)).u (by decide)), FM.u (FM.u (FM.rf.b (by decide) hF1) (by decide)) (by decide)⟩
      · refine cz_aload_n (pc' := 43) (g_d dtbX10_jar_0 23 rfl) rfl rfl ?_
        refine nz_getf (v := .ref 1) (pc' := 46) (g_d dtbX10_jar_0 24 rfl) gf_X10_10 (by decide) rfl rfl rfl ?_
        refine nz_getf (v := .ref 2) (pc' := 49) (g_d dtbX10_jar_0 25 rfl) gf_X10_99 (by decide) rfl rfl rfl ?_
        refine nz_iconst (pc' := 50) (g_d dtbX10_jar_0 26 rfl) rfl ?_
        refine nz_iald 0 (pc' := 51) (g_d dtbX10_jar_0 27 rfl) (by decide) rfl (by omega) (by rfl) (by omega) rfl ?_
        rw [show Z 2 0 = A.1 0 from br1_fig (hB) (by decide)]
        refine cz_iload_n (pc' := 52) (g_d dtbX10_jar_0 28 rfl) rfl rfl ?_
        refine nz_isub (pc' := 53) (g_d dtbX10_jar_0 29 rfl) rfl ?_
        refine nz_if_ge (tgt := 60) (pc' := 56) (g_d dtbX10_jar_0 30 rfl) (by omega) rfl rfl (fun h53 => ?_) (fun h53 => ?_)
        · refine nz_iconst (pc' := 61) (g_d dtbX10_jar_0 33 rfl) rfl ?_
          refine cz_istore_n (L' := [some (.ref 0), some (iv (n)), some (iv 0), some (iv 0)]) (pc' := 62) (g_d dtbX10_jar_0 34 rfl) (by decide) rfl rfl ?_
          refine cz_iload_n (pc' := 63) (g_d dtbX10_jar_0 35 rfl) rfl rfl ?_
          refine nz_if_ne_f (pc' := 66) (g_d dtbX10_jar_0 36 rfl) (by omega) (by decide) rfl (by omega) ?_
          refine cz_iload_n (pc' := 67) (g_d dtbX10_jar_0 37 rfl) rfl rfl ?_
          refine nz_if_eq_t (tgt := 75) (g_d dtbX10_jar_0 38 rfl) (by omega) rfl (by omega) ?_
          refine cz_aload_n (pc' := 76) (g_d dtbX10_jar_0 42 rfl) rfl rfl ?_
          refine nz_getf (v := .ref 1) (pc' := 79) (g_d dtbX10_jar_0 43 rfl) gf_X10_10 (by decide) rfl rfl rfl ?_
          refine nz_cVv (M' := mX0_keepPast) (k := 1) (As := []) (S := []) (L := [some (.ref 0), some (iv (n)), some (iv 0), some (iv 0)]) (pc' := 82) (g_d dtbX10_jar_0 44 rfl) lk_X10_96 okX0_keepPast (by decide) rfl rfl rfl rfl (Nat.le_of_ble_eq_true rfl) (Nat.le_of_ble_eq_true rfl) (by decide) rfl (c_keepPast G Z 1 A.1 bk1 hB h59) ?_
          rintro W1 ⟨hb1, hF1⟩
          have hC1 := hC.book hb1 hF1
          refine cz_aload_n (pc' := 83) (g_d dtbX10_jar_0 45 rfl) rfl rfl ?_
          refine nz_getf (v := .ref 1) (pc' := 86) (g_d dtbX10_jar_0 46 rfl) gf_X10_10 (by decide) rfl rfl rfl ?_
          refine nz_getf (v := .ref 2) (pc' := 89) (g_d dtbX10_jar_0 47 rfl) gf_X10_99 (by decide) rfl rfl rfl ?_
          refine nz_iconst (pc' := 90) (g_d dtbX10_jar_0 48 rfl) rfl ?_
          refine cz_dup2 (pc' := 91) (g_d dtbX10_jar_0 49 rfl) rfl rfl rfl ?_
          refine nz_iald 0 (pc' := 92) (g_d dtbX10_jar_0 50 rfl) (by decide) rfl (by omega) (by rfl) (by omega) rfl ?_
          rw [show W1 2 0 = A.1 0 from (br1_fig hb1 (by decide)).trans (rKeep_lo (by decide))]
          refine cz_iload_n (pc' := 93) (g_d dtbX10_jar_0 51 rfl) rfl rfl ?_
          refine nz_isub (pc' := 94) (g_d dtbX10_jar_0 52 rfl) rfl ?_
          refine nz_iast 0 (pc' := 95) (g_d dtbX10_jar_0 53 rfl) (by decide) rfl (by omega) (by rfl) (by omega) rfl ?_
          refine cz_aload_n (pc' := 96) (g_d dtbX10_jar_0 54 rfl) rfl rfl ?_
          refine nz_getf (v := .ref 1) (pc' := 99) (g_d dtbX10_jar_0 55 rfl) gf_X10_10 (by decide) rfl rfl rfl ?_
          refine nz_getf (v := .ref 2) (pc' := 102) (g_d dtbX10_jar_0 56 rfl) gf_X10_99 (by decide) rfl rfl rfl ?_
          refine nz_iconst (pc' := 103) (g_d dtbX10_jar_0 57 rfl) rfl ?_
          refine cz_dup2 (pc' := 104) (g_d dtbX10_jar_0 58 rfl) rfl rfl rfl ?_
          refine nz_iald 1 (pc' := 105) (g_d dtbX10_jar_0 59 rfl) (by decide) rfl (by omega) (by rfl) (by omega) rfl ?_
          rw [show (zu W1 2 0 ((A.1 0) - n)) 2 1 = A.1 1 from by rw [show (zu W1 2 0 ((A.1 0) - n)) 2 1 = W1 2 1 from by simp [zu]]; exact (br1_fig hb1 (by decide)).trans (rKeep_lo (by decide))]
          refine cz_iload_n (pc' := 106) (g_d dtbX10_jar_1 0 rfl) rfl rfl ?_
          refine nz_iadd (pc' := 107) (g_d dtbX10_jar_1 1 rfl) rfl ?_
          refine nz_iast 1 (pc' := 108) (g_d dtbX10_jar_1 2 rfl) (by decide) rfl (by omega) (by rfl) (by omega) rfl ?_
          refine cz_aload_n (pc' := 109) (g_d dtbX10_jar_1 3 rfl) rfl rfl ?_
          refine nz_getf (v := .ref 1) (pc' := 112) (g_d dtbX10_jar_1 4 rfl) gf_X10_10 (by decide) rfl rfl rfl ?_
          refine nz_getf (v := .ref 2) (pc' := 115) (g_d dtbX10_jar_1 5 rfl) gf_X10_99 (by decide) rfl rfl rfl ?_
          refine nz_iconst (pc' := 116) (g_d dtbX10_jar_1 6 rfl) rfl ?_
          refine nz_iald 1 (pc' := 117) (g_d dtbX10_jar_1 7 rfl) (by decide) rfl (by omega) (by rfl) (by omega) rfl ?_
          rw [show (zu (zu W1 2 0 ((A.1 0) - n)) 2 1 ((A.1 1) + n)) 2 1 = (A.1 1) + n from by simp [zu]]
          refine nz_ri .int (g_d dtbX10_jar_1 8 rfl) rfl rfl ?_
          rw [show xJar A n = (A.1 1 + n, sF A (ru (ru (rKeep A.1) 0 (A.1 0 - n)) 1 (A.1 1 + n))) from by unfold xJar; rw [if_pos (by omega), if_neg (by omega)]]
          exact ⟨rfl, hC.book (br_fig (br_fig hb1 (by decide)) (by decide)) ((hF1.u (by decide)).u (by decide)), FM.u (FM.u (FM.rf.b (by decide) hF1) (by decide)) (by decide)⟩
        · refine nz_iconst (pc' := 57) (g_d dtbX10_jar_0 31 rfl) rfl ?_
          refine cz_goto (pc' := 61) (g_d dtbX10_jar_0 32 rfl) rfl ?_
          refine cz_istore_n (L' := [some (.ref 0), some (iv (n)), some (iv 0), some (iv 1)]) (pc' := 62) (g_d dtbX10_jar_0 34 rfl) (by decide) rfl rfl ?_
          refine cz_iload_n (pc' := 63) (g_d dtbX10_jar_0 35 rfl) rfl rfl ?_
          refine nz_if_ne_f (pc' := 66) (g_d dtbX10_jar_0 36 rfl) (by omega) (by decide) rfl (by omega) ?_
          refine cz_iload_n (pc' := 67) (g_d dtbX10_jar_0 37 rfl) rfl rfl ?_
          refine nz_if_eq_f (pc' := 70) (g_d dtbX10_jar_0 38 rfl) (by omega) (by decide) rfl (by omega) ?_
          refine cz_aload_n (pc' := 71) (g_d dtbX10_jar_0 39 rfl) rfl rfl ?_
          refine nz_cVi (M' := mX10_refuseNo) (k := 0) (As := []) (S := []) (L := [some (.ref 0), some (iv (n)), some (iv 0), some (iv 1)]) (pc' := 74) (g_d dtbX10_jar_0 40 rfl) lk_X10_105 okX10_refuseNo (by decide) rfl rfl rfl rfl (Nat.le_of_ble_eq_true rfl) (Nat.le_of_ble_eq_true rfl) (by decide) rfl (c_refuseNo G Z) ?_
          rintro _ _ ⟨rfl, rfl⟩
          refine nz_ri .int (g_d dtbX10_jar_0 41 rfl) rfl rfl ?_
          rw [show xJar A n = (-3, aNo A) from by unfold xJar; rw [if_pos (by omega), if_pos (by omega)]]
          exact ⟨rfl, cs_no hC, (FM.u FM.rf (by decide))⟩
    · refine nz_iconst (pc' := 33) (g_d dtbX10_jar_0 17 rfl) rfl ?_
      refine cz_goto (pc' := 37) (g_d dtbX10_jar_0 18 rfl) rfl ?_
      refine cz_istore_n (L' := [some (.ref 0), some (iv (n)), some (iv 1), none]) (pc' := 38) (g_d dtbX10_jar_0 20 rfl) (by decide) rfl rfl ?_
      refine cz_iload_n (pc' := 39) (g_d dtbX10_jar_0 21 rfl) rfl rfl ?_
      refine nz_if_le (tgt := 60) (pc' := 42) (g_d dtbX10_jar_0 22 rfl) (by omega) rfl rfl (fun h39 => ?_) (fun h39 => ?_)
      · refine nz_iconst (pc' := 61) (g_d dtbX10_jar_0 33 rfl) rfl ?_
        refine cz_istore_n (L' := [some (.ref 0), some (iv (n)), some (iv 1), some (iv 0)]) (pc' := 62) (g_d dtbX10_jar_0 34 rfl) (by decide) rfl rfl ?_
        refine cz_iload_n (pc' := 63) (g_d dtbX10_jar_0 35 rfl) rfl rfl ?_
        refine nz_if_ne_t (tgt := 70) (g_d dtbX10_jar_0 36 rfl) (by omega) rfl (by omega) ?_
        refine cz_aload_n (pc' := 71) (g_d dtbX10_jar_0 39 rfl) rfl rfl ?_
        refine nz_cVi (M' := mX10_refuseNo) (k := 0) (As := []) (S := []) (L := [some (.ref 0), some (iv (n)), some (iv 1), some (iv 0)]) (pc' := 74) (g_d dtbX10_jar_0 40 rfl) lk_X10_105 okX10_refuseNo (by decide) rfl rfl rfl rfl (Nat.le_of_ble_eq_true rfl) (Nat.le_of_ble_eq_true rfl) (by decide) rfl (c_refuseNo G Z) ?_
        rintro _ _ ⟨rfl, rfl⟩
        refine nz_ri .int (g_d dtbX10_jar_0 41 rfl) rfl rfl ?_
        rw [show xJar A n = (-3, aNo A) from by unfold xJar; rw [if_pos (by omega), if_pos (by omega)]]
        exact ⟨rfl, cs_no hC, (FM.u FM.rf (by decide))⟩
      · refine cz_aload_n (pc' := 43) (g_d dtbX10_jar_0 23 rfl) rfl rfl ?_
        refine nz_getf (v := .ref 1) (pc' := 46) (g_d dtbX10_jar_0 24 rfl) gf_X10_10 (by decide) rfl rfl rfl ?_
        refine nz_getf (v := .ref 2) (pc' := 49) (g_d dtbX10_jar_0 25 rfl) gf_X10_99 (by decide) rfl rfl rfl ?_
        refine nz_iconst (pc' := 50) (g_d dtbX10_jar_0 26 rfl) rfl ?_
        refine nz_iald 0 (pc' := 51) (g_d dtbX10_jar_0 27 rfl) (by decide) rfl (by omega) (by rfl) (by omega) rfl ?_
        rw [show Z 2 0 = A.1 0 from br1_fig (hB) (by decide)]
        refine cz_iload_n (pc' := 52) (g_d dtbX10_jar_0 28 rfl) rfl rfl ?_
        refine nz_isub (pc' := 53) (g_d dtbX10_jar_0 29 rfl) rfl ?_
        refine nz_if_ge (tgt := 60) (pc' := 56) (g_d dtbX10_jar_0 30 rfl) (by omega) rfl rfl (fun h53 => ?_) (fun h53 => ?_)
        · refine nz_iconst (pc' := 61) (g_d dtbX10_jar_0 33 rfl) rfl ?_
          refine cz_istore_n (L' := [some (.ref 0), some (iv (n)), some (iv 1), some (iv 0)]) (pc' := 62) (g_d dtbX10_jar_0 34 rfl) (by decide) rfl rfl ?_
          refine cz_iload_n (pc' := 63) (g_d dtbX10_jar_0 35 rfl) rfl rfl ?_
          refine nz_if_ne_t (tgt := 70) (g_d dtbX10_jar_0 36 rfl) (by omega) rfl (by omega) ?_
          refine cz_aload_n (pc' := 71) (g_d dtbX10_jar_0 39 rfl) rfl rfl ?_
          refine nz_cVi (M' := mX10_refuseNo) (k := 0) (As := []) (S := []) (L := [some (.ref 0), some (iv (n)), some (iv 1), some (iv 0)]) (pc' := 74) (g_d dtbX10_jar_0 40 rfl) lk_X10_105 okX10_refuseNo (by decide) rfl rfl rfl rfl (Nat.le_of_ble_eq_true rfl) (Nat.le_of_ble_eq_true rfl) (by decide) rfl (c_refuseNo G Z) ?_
          rintro _ _ ⟨rfl, rfl⟩
          refine nz_ri .int (g_d dtbX10_jar_0 41 rfl) rfl rfl ?_
          rw [show xJar A n = (-3, aNo A) from by unfold xJar; rw [if_pos (by omega), if_pos (by omega)]]
          exact ⟨rfl, cs_no hC, (FM.u FM.rf (by decide))⟩
        · refine nz_iconst (pc' := 57) (g_d dtbX10_jar_0 31 rfl) rfl ?_
          refine cz_goto (pc' := 61) (g_d dtbX10_jar_0 32 rfl) rfl ?_
          refine cz_istore_n (L' := [some (.ref 0), some (iv (n)), some (iv 1), some (iv 1)]) (pc' := 62) (g_d dtbX10_jar_0 34 rfl) (by decide) rfl rfl ?_
          refine cz_iload_n (pc' := 63) (g_d dtbX10_jar_0 35 rfl) rfl rfl ?_
          refine nz_if_ne_t (tgt := 70) (g_d dtbX10_jar_0 36 rfl) (by omega) rfl (by omega) ?_
          refine cz_aload_n (pc' := 71) (g_d dtbX10_jar_0 39 rfl) rfl rfl ?_
          refine nz_cVi (M' := mX10_refuseNo) (k := 0) (As := []) (S := []) (L := [some (.ref 0), some (iv (n)), some (iv 1), some (iv 1)]) (pc' := 74) (g_d dtbX10_jar_0 40 rfl) lk_X10_105 okX10_refuseNo (by decide) rfl rfl rfl rfl (Nat.le_of_ble_eq_true rfl) (Nat.le_of_ble_eq_true rfl) (by decide) rfl (c_refuseNo G Z) ?_
          rintro _ _ ⟨rfl, rfl⟩
          refine nz_ri .int (g_d dtbX10_jar_0 41 rfl) rfl rfl ?_
          rw [show xJar A n = (-3, aNo A) from by unfold xJar; rw [if_pos (by omega), if_pos (by omega)]]
          exact ⟨rfl, cs_no hC, (FM.u FM.rf (by decide))⟩
  · refine nz_if_ne_f (pc' := 11) (g_d dtbX10_jar_0 4 rfl) (by omega) (by decide) rfl (by omega) ?_
    refine cz_aload_n (pc' := 12) (g_d dtbX10_jar_0 5 rfl) rfl rfl ?_
    refine nz_bipush (pc' := 14) (g_d dtbX10_jar_0 6 rfl) (by decide) rfl ?_
    refine nz_cVi (M' := mX10_refuseBad) (k := 0) (As := [iv (-2)]) (S := []) (L := [some (.ref 0), some (iv (n)), none, none]) (pc' := 17) (g_d dtbX10_jar_0 7 rfl) lk_X10_57 okX10_refuseBad (by decide) rfl rfl rfl rfl (Nat.le_of_ble_eq_true rfl) (Nat.le_of_ble_eq_true rfl) (by decide) rfl (c_refuseBad G Z (-2)) ?_
    rintro _ _ ⟨rfl, rfl⟩
    refine nz_ri .int (g_d dtbX10_jar_0 8 rfl) rfl rfl ?_
    rw [show xJar A n = (-2, aBad A) from by unfold xJar; rw [if_neg (by omega)]]
    exact ⟨rfl, cs_bad hC, (FM.u FM.rf (by decide))⟩

set_option maxRecDepth 20000 in
set_option maxHeartbeats 4000000 in
theorem a_undo (G : Wd) (Z : ZS) (A : AS) (B : Int) (hC : CS Z A) (hA : AO B A) : Cn G mX10_undo 0 [some (.ref 0)] [] Z (qi (fun r W => (xUndo A).1 = r ∧ CS W (xUndo A).2 ∧ FM Z W)) := by
  have hB := hC.1
  have hb0 := hA.1
  have hO := hA.2.1
  have h6 : 0 ≤ A.1 6 ∧ A.1 6 ≤ 7 := hO.2.1
  have h28 : 0 ≤ A.1 28 ∧ A.1 28 ≤ 6 := hO.2.2.2.1
  have h59 : 0 ≤ A.1 59 ∧ A.1 59 ≤ 8 := hO.2.2.2.2.2.1
  have hf := hO.1
  unfold FO at hf
  have hct := hA.2.2.2.2.2.2
  refine cz_aload_n (pc' := 1) (g_d dtbX10_undo_0 0 rfl) rfl rfl ?_
  refine nz_getf (v := .ref 1) (pc' := 4) (g_d dtbX10_undo_0 1 rfl) gf_X10_10 (by decide) rfl rfl rfl ?_
  refine nz_getf (v := iv (A.1 59)) (pc' := 7) (g_d dtbX10_undo_0 2 rfl) gf_X10_108 (by decide) rfl (congrArg iv (br1_6 (hB))) rfl ?_
  refine nz_if_gt (tgt := 15) (pc' := 10) (g_d dtbX10_undo_0 3 rfl) (by omega) rfl rfl (fun h7 => ?_) (fun h7 => ?_)
  · refine cz_aload_n (pc' := 16) (g_d dtbX10_undo_0 7 rfl) rfl rfl ?_
    refine nz_getf (v := .ref 1) (pc' := 19) (g_d dtbX10_undo_0 8 rfl) gf_X10_10 (by decide) rfl rfl rfl ?_
    refine nz_cVv (M' := mX0_stepBack) (k := 1) (As := []) (S := []) (L := [some (.ref 0)]) (pc' := 22) (g_d dtbX10_undo_0 9 rfl) lk_X10_111 okX0_stepBack (by decide) rfl rfl rfl rfl (Nat.le_of_ble_eq_true rfl) (Nat.le_of_ble_eq_true rfl) (by decide) rfl (c_stepBack G Z 1 ((A.1 59).toNat - 1) A.1 bk1 hB (by omega) (by omega)) ?_
    rintro W1 ⟨hb1, hF1⟩
    refine cz_aload_n (pc' := 23) (g_d dtbX10_undo_0 10 rfl) rfl rfl ?_
    refine nz_getf (v := .ref 1) (pc' := 26) (g_d dtbX10_undo_0 11 rfl) gf_X10_10 (by decide) rfl rfl rfl ?_
    refine nz_getf (v := .ref 2) (pc' := 29) (g_d dtbX10_undo_0 12 rfl) gf_X10_99 (by decide) rfl rfl rfl ?_
    refine nz_iconst (pc' := 30) (g_d dtbX10_undo_0 13 rfl) rfl ?_
    refine nz_iald 3 (pc' := 31) (g_d dtbX10_undo_0 14 rfl) (by decide) rfl (by omega) (by rfl) (by omega) rfl ?_
    rw [show W1 2 3 = rUndo A.1 3 from br1_fig hb1 (by decide)]
    refine nz_ri .int (g_d dtbX10_undo_0 15 rfl) rfl rfl ?_
    rw [show xUndo A = (rUndo A.1 3, sF A (rUndo A.1)) from if_neg (by omega)]
    exact ⟨rfl, hC.book hb1 hF1, FM.rf.b (by decide) hF1⟩
  · refine cz_aload_n (pc' := 11) (g_d dtbX10_undo_0 4 rfl) rfl rfl ?_
    refine nz_cVi (M' := mX10_refuseNo) (k := 0) (As := []) (S := []) (L := [some (.ref 0)]) (pc' := 14) (g_d dtbX10_undo_0 5 rfl) lk_X10_105 okX10_refuseNo (by decide) rfl rfl rfl rfl (Nat.le_of_ble_eq_true rfl) (Nat.le_of_ble_eq_true rfl) (by decide) rfl (c_refuseNo G Z) ?_
    rintro _ _ ⟨rfl, rfl⟩
    refine nz_ri .int (g_d dtbX10_undo_0 6 rfl) rfl rfl ?_
    rw [show xUndo A = (-3, aNo A) from if_pos (by omega)]
    exact ⟨rfl, cs_no hC, (FM.u FM.rf (by decide))⟩

set_option maxRecDepth 20000 in
set_option maxHeartbeats 4000000 in
theorem a_now (G : Wd) (Z : ZS) (A : AS) (B : Int) (hC : CS Z A) (hA : AO B A) (w : Int) (hw : -2147483648 ≤ w ∧ w ≤ 2147483647) : Cn G mX10_now 0 [some (.ref 0), some (iv (w))] [] Z (qi (fun r W => (xNow A w).1 = r ∧ CS W (xNow A w).2 ∧ FM Z W)) := by
  have hB := hC.1
  have hb0 := hA.1
  have hO := hA.2.1
  have h6 : 0 ≤ A.1 6 ∧ A.1 6 ≤ 7 := hO.2.1
  have h28 : 0 ≤ A.1 28 ∧ A.1 28 ≤ 6 := hO.2.2.2.1
  have h59 : 0 ≤ A.1 59 ∧ A.1 59 ≤ 8 := hO.2.2.2.2.2.1
  have hf := hO.1
  unfold FO at hf
  have hct := hA.2.2.2.2.2.2
  refine cz_iload_n (pc' := 1) (g_d dtbX10_now_0 0 rfl) rfl rfl ?_
  refine nz_iconst (pc' := 2) (g_d dtbX10_now_0 1 rfl) rfl ?_
  refine nz_iconst (pc' := 3) (g_d dtbX10_now_0 2 rfl) rfl ?_
  refine nz_cSi (M' := mX10_within) (As := [iv (w), iv 0, iv 5]) (S := []) (L := [some (.ref 0), some (iv (w))]) (pc' := 6) (g_d dtbX10_now_0 3 rfl) lk_X10_53 okX10_within rfl rfl (Nat.le_of_ble_eq_true rfl) (Nat.le_of_ble_eq_true rfl) (by decide) rfl (c_within G Z w 0 5 (by omega) (by omega) (by omega)) ?_
  rintro _ _ ⟨rfl, ⟨rfl, hw3⟩ | ⟨rfl, hw3⟩⟩
  · refine nz_if_ne_t (tgt := 16) (g_d dtbX10_now_0 4 rfl) (by omega) rfl (by omega) ?_
    refine cz_aload_n (pc' := 17) (g_d dtbX10_now_0 9 rfl) rfl rfl ?_
    refine nz_getf (v := .ref 1) (pc' := 20) (g_d dtbX10_now_0 10 rfl) gf_X10_10 (by decide) rfl rfl rfl ?_
    refine nz_getf (v := .ref 2) (pc' := 23) (g_d dtbX10_now_0 11 rfl) gf_X10_99 (by decide) rfl rfl rfl ?_
    refine cz_iload_n (pc' := 24) (g_d dtbX10_now_0 12 rfl) rfl rfl ?_
    refine nz_iald w.toNat (pc' := 25) (g_d dtbX10_now_0 13 rfl) (by decide) rfl (by omega) (by omega) (by omega) rfl ?_
    rw [show Z 2 w.toNat = A.1 w.toNat from br1_fig hB (by omega)]
    refine nz_ri .int (g_d dtbX10_now_0 14 rfl) rfl rfl ?_
    rw [show xNow A w = (A.1 w.toNat, A) from if_pos (by omega)]
    exact ⟨rfl, hC, FM.rf⟩
  · refine nz_if_ne_f (pc' := 9) (g_d dtbX10_now_0 4 rfl) (by omega) (by decide) rfl (by omega) ?_
    refine cz_aload_n (pc' := 10) (g_d dtbX10_now_0 5 rfl) rfl rfl ?_
    refine nz_ldc (pc' := 12) (v := -100000) (g_d dtbX10_now_0 6 rfl) kn_X10_142 rfl ?_
    refine nz_cVi (M' := mX10_refuseBad) (k := 0) (As := [iv (-100000)]) (S := []) (L := [some (.ref 0), some (iv (w))]) (pc' := 15) (g_d dtbX10_now_0 7 rfl) lk_X10_57 okX10_refuseBad (by decide) rfl rfl rfl rfl (Nat.le_of_ble_eq_true rfl) (Nat.le_of_ble_eq_true rfl) (by decide) rfl (c_refuseBad G Z (-100000)) ?_
    rintro _ _ ⟨rfl, rfl⟩
    refine nz_ri .int (g_d dtbX10_now_0 8 rfl) rfl rfl ?_
    rw [show xNow A w = (-100000, aBad A) from by unfold xNow; rw [if_neg (by omega)]]
    exact ⟨rfl, cs_bad hC, (FM.u FM.rf (by decide))⟩

set_option maxRecDepth 20000 in
set_option maxHeartbeats 4000000 in
theorem a_forget (G : Wd) (Z : ZS) (A : AS) (B : Int) (hC : CS Z A) (hA : AO B A) : Cn G mX10_forget 0 [some (.ref 0), none] [] Z (qi (fun r W => (xForget A).1 = r ∧ CS W (xForget A).2 ∧ FM Z W)) := by
  have hB := hC.1
  have hb0 := hA.1
  have hO := hA.2.1
  have h6 : 0 ≤ A.1 6 ∧ A.1 6 ≤ 7 := hO.2.1
  have h28 : 0 ≤ A.1 28 ∧ A.1 28 ≤ 6 := hO.2.2.2.1
  have h59 : 0 ≤ A.1 59 ∧ A.1 59 ≤ 8 := hO.2.2.2.2.2.1
  have hf := hO.1
  unfold FO at hf
  have hct := hA.2.2.2.2.2.2
  refine cz_aload_n (pc' := 1) (g_d dtbX10_forget_0 0 rfl) rfl rfl ?_
  refine nz_getf (v := .ref 1) (pc' := 4) (g_d dtbX10_forget_0 1 rfl) gf_X10_10 (by decide) rfl rfl rfl ?_
  refine nz_getf (v := iv (A.1 28)) (pc' := 7) (g_d dtbX10_forget_0 2 rfl) gf_X10_178 (by decide) rfl (congrArg iv (br1_5 (hB))) rfl ?_
  refine cz_istore_n (L' := [some (.ref 0), some (iv (A.1 28))]) (pc' := 8) (g_d dtbX10_forget_0 3 rfl) (by decide) rfl rfl ?_
  refine cz_aload_n (pc' := 9) (g_d dtbX10_forget_0 4 rfl) rfl rfl ?_
  refine nz_getf (v := .ref 1) (pc' := 12) (g_d dtbX10_forget_0 5 rfl) gf_X10_10 (by decide) rfl rfl rfl ?_
  refine nz_iconst (pc' := 13) (g_d dtbX10_forget_0 6 rfl) rfl ?_
  refine nz_puti (pc' := 16) (g_d dtbX10_forget_0 7 rfl) pf_X10_178 rfl (by decide) rfl rfl ?_
  refine cz_iload_n (pc' := 17) (g_d dtbX10_forget_0 8 rfl) rfl rfl ?_
  refine nz_ri .int (g_d dtbX10_forget_0 9 rfl) rfl rfl ?_
  exact ⟨rfl, hC.book (br_forget hB) (Fb.rf.u (by decide)), FM.u FM.rf (by decide)⟩

set_option maxRecDepth 20000 in
set_option maxHeartbeats 4000000 in
theorem a_note (G : Wd) (Z : ZS) (A : AS) (B : Int) (hC : CS Z A) (hA : AO B A) (b d e m q : Int) (hb : -2147483648 ≤ b ∧ b ≤ 2147483647) (hd : -2147483648 ≤ d ∧ d ≤ 2147483647) (he : -2147483648 ≤ e ∧ e ≤ 2147483647) (hm : -2147483648 ≤ m ∧ m ≤ 2147483647) (hq : -2147483648 ≤ q ∧ q ≤ 2147483647) : Cn G mX10_note 0 [some (.ref 0), some (iv (b)), some (iv (d)), some (iv (e)), some (iv (m)), some (iv (q)), none] [] Z (qi (fun r W => (xNote A b d e m q).1 = r ∧ CS W (xNote A b d e m q).2 ∧ FM Z W)) := by
  have hB := hC.1
  have hb0 := hA.1
  have hO := hA.2.1
  have h6 : 0 ≤ A.1 6 ∧ A.1 6 ≤ 7 := hO.2.1
  have h28 : 0 ≤ A.1 28 ∧ A.1 28 ≤ 6 := hO.2.2.2.1
  have h59 : 0 ≤ A.1 59 ∧ A.1 59 ≤ 8 := hO.2.2.2.2.2.1
  have hf := hO.1
  unfold FO at hf
  have hct := hA.2.2.2.2.2.2
  refine cz_iload_n (pc' := 1) (g_d dtbX10_note_0 0 rfl) rfl rfl ?_
  refine nz_iconst (pc' := 2) (g_d dtbX10_note_0 1 rfl) rfl ?_
  refine nz_bipush (pc' := 4) (g_d dtbX10_note_0 2 rfl) (by decide) rfl ?_
  refine nz_cSi (M' := mX10_within) (As := [iv (d), iv 1, iv 28]) (S := []) (L := [some (.ref 0), some (iv (b)), some (iv (d)), some (iv (e)), some (iv (m)), some (iv (q)), none]) (pc' := 7) (g_d dtbX10_note_0 3 rfl) lk_X10_53 okX10_within rfl rfl (Nat.le_of_ble_eq_true rfl) (Nat.le_of_ble_eq_true rfl) (by decide) rfl (c_within G Z d 1 28 (by omega) (by omega) (by omega)) ?_
  rintro _ _ ⟨rfl, ⟨rfl, hw4⟩ | ⟨rfl, hw4⟩⟩
  · refine nz_if_eq_f (pc' := 10) (g_d dtbX10_note_0 4 rfl) (by omega) (by decide) rfl (by omega) ?_
    refine cz_iload_n (pc' := 11) (g_d dtbX10_note_0 5 rfl) rfl rfl ?_
    refine nz_iconst (pc' := 12) (g_d dtbX10_note_0 6 rfl) rfl ?_
    refine nz_bipush (pc' := 14) (g_d dtbX10_note_0 7 rfl) (by decide) rfl ?_
    refine nz_cSi (M' := mX10_within) (As := [iv (e), iv 1, iv 28]) (S := []) (L := [some (.ref 0), some (iv (b)), some (iv (d)), some (iv (e)), some (iv (m)), some (iv (q)), none]) (pc' := 17) (g_d dtbX10_note_0 8 rfl) lk_X10_53 okX10_within rfl rfl (Nat.le_of_ble_eq_true rfl) (Nat.le_of_ble_eq_true rfl) (by decide) rfl (c_within G Z e 1 28 (by omega) (by omega) (by omega)) ?_
    rintro _ _ ⟨rfl, ⟨rfl, hw14⟩ | ⟨rfl, hw14⟩⟩
    · refine nz_if_eq_f (pc' := 20) (g_d dtbX10_note_0 9 rfl) (by omega) (by decide) rfl (by omega) ?_
      refine nz_iconst (pc' := 21) (g_d dtbX10_note_0 10 rfl) rfl ?_
      refine cz_goto (pc' := 25) (g_d dtbX10_note_0 11 rfl) rfl ?_
      refine cz_istore (L' := [some (.ref 0), some (iv (b)), some (iv (d)), some (iv (e)), some (iv (m)), some (iv (q)), some (iv 1)]) (pc' := 27) (g_d dtbX10_note_0 13 rfl) (by decide) rfl rfl ?_
      refine cz_aload_n (pc' := 28) (g_d dtbX10_note_0 14 rfl) rfl rfl ?_
      refine cz_iload_n (pc' := 29) (g_d dtbX10_note_0 15 rfl) rfl rfl ?_
      refine nz_cVi (M' := mX10_isBillNumber) (k := 0) (As := [iv (b)]) (S := []) (L := [some (.ref 0), some (iv (b)), some (iv (d)), some (iv (e)), some (iv (m)), some (iv (q)), some (iv 1)]) (pc' := 32) (g_d dtbX10_note_0 16 rfl) lk_X10_114 okX10_isBillNumber (by decide) rfl rfl rfl rfl (Nat.le_of_ble_eq_true rfl) (Nat.le_of_ble_eq_true rfl) (by decide) rfl (c_isBN G Z A B hC hA b (by omega)) ?_
      rintro _ _ ⟨rfl, ⟨rfl, hw29⟩ | ⟨rfl, hw29⟩⟩
      · refine nz_if_eq_f (pc' := 35) (g_d dtbX10_note_0 17 rfl) (by omega) (by decide) rfl (by omega) ?_
        refine cz_iload (pc' := 37) (g_d dtbX10_note_0 18 rfl) rfl rfl ?_
        refine nz_if_eq_f (pc' := 40) (g_d dtbX10_note_0 19 rfl) (by omega) (by decide) rfl (by omega) ?_
        refine cz_iload (pc' := 42) (g_d dtbX10_note_0 20 rfl) rfl rfl ?_
        refine nz_iconst (pc' := 43) (g_d dtbX10_note_0 21 rfl) rfl ?_
        refine nz_bipush (pc' := 45) (g_d dtbX10_note_0 22 rfl) (by decide) rfl ?_
        refine nz_cSi (M' := mX10_within) (As := [iv (m), iv 0, iv 40]) (S := []) (L := [some (.ref 0), some (iv (b)), some (iv (d)), some (iv (e)), some (iv (m)), some (iv (q)), some (iv 1)]) (pc' := 48) (g_d dtbX10_note_0 23 rfl) lk_X10_53 okX10_within rfl rfl (Nat.le_of_ble_eq_true rfl) (Nat.le_of_ble_eq_true rfl) (by decide) rfl (c_within G Z m 0 40 (by omega) (by omega) (by omega)) ?_
        rintro _ _ ⟨rfl, ⟨rfl, hw45⟩ | ⟨rfl, hw45⟩⟩
        · refine nz_if_eq_f (pc' := 51) (g_d dtbX10_note_0 24 rfl) (by omega) (by decide) rfl (by omega) ?_
          refine cz_iload (pc' := 53) (g_d dtbX10_note_0 25 rfl) rfl rfl ?_
          refine nz_sipush (pc' := 56) (g_d dtbX10_note_0 26 rfl) (by decide) rfl ?_
          refine nz_sipush (pc' := 59) (g_d dtbX10_note_0 27 rfl) (by decide) rfl ?_
          refine nz_cSi (M' := mX10_within) (As := [iv (q), iv (-999), iv 999]) (S := []) (L := [some (.ref 0), some (iv (b)), some (iv (d)), some (iv (e)), some (iv (m)), some (iv (q)), some (iv 1)]) (pc' := 62) (g_d dtbX10_note_0 28 rfl) lk_X10_53 okX10_within rfl rfl (Nat.le_of_ble_eq_true rfl) (Nat.le_of_ble_eq_true rfl) (by decide) rfl (c_within G Z q (-999) 999 (by omega) (by omega) (by omega)) ?_
          rintro _ _ ⟨rfl, ⟨rfl, hw59⟩ | ⟨rfl, hw59⟩⟩
          · refine nz_if_ne_t (tgt := 72) (g_d dtbX10_note_0 29 rfl) (by omega) rfl (by omega) ?_
            refine cz_aload_n (pc' := 73) (g_d dtbX10_note_0 34 rfl) rfl rfl ?_
            refine nz_getf (v := .ref 1) (pc' := 76) (g_d dtbX10_note_0 35 rfl) gf_X10_10 (by decide) rfl rfl rfl ?_
            refine nz_getf (v := iv (A.1 28)) (pc' := 79) (g_d dtbX10_note_0 36 rfl) gf_X10_178 (by decide) rfl (congrArg iv (br1_5 (hB))) rfl ?_
            refine nz_bipush (pc' := 81) (g_d dtbX10_note_0 37 rfl) (by decide) rfl ?_
            refine nz_icmp_lt (tgt := 89) (pc' := 84) (g_d dtbX10_note_0 38 rfl) (by omega) (by omega) rfl rfl (fun h81 => ?_) (fun h81 => ?_)
            · refine cz_aload_n (pc' := 90) (g_d dtbX10_note_0 42 rfl) rfl rfl ?_
              refine nz_getf (v := .ref 1) (pc' := 93) (g_d dtbX10_note_0 43 rfl) gf_X10_10 (by decide) rfl rfl rfl ?_
              refine cz_iload_n (pc' := 94) (g_d dtbX10_note_0 44 rfl) rfl rfl ?_
              refine cz_iload_n (pc' := 95) (g_d dtbX10_note_0 45 rfl) rfl rfl ?_
              refine cz_iload_n (pc' := 96) (g_d dtbX10_note_0 46 rfl) rfl rfl ?_
              refine cz_iload (pc' := 98) (g_d dtbX10_note_0 47 rfl) rfl rfl ?_
              refine cz_iload (pc' := 100) (g_d dtbX10_note_0 48 rfl) rfl rfl ?_
              refine nz_cVv (M' := mX0_addNote) (k := 1) (As := [iv (b), iv (d), iv (e), iv (m), iv (q)]) (S := []) (L := [some (.ref 0), some (iv (b)), some (iv (d)), some (iv (e)), some (iv (m)), some (iv (q)), some (iv 1)]) (pc' := 103) (g_d dtbX10_note_0 49 rfl) lk_X10_181 okX0_addNote (by decide) rfl rfl rfl rfl (Nat.le_of_ble_eq_true rfl) (Nat.le_of_ble_eq_true rfl) (by decide) rfl (c_addNote G Z 1 (A.1 28).toNat A.1 b d e m q bk1 hB (by omega) (by omega)) ?_
              rintro W1 ⟨hb1, hF1⟩
              refine cz_aload_n (pc' := 104) (g_d dtbX10_note_0 50 rfl) rfl rfl ?_
              refine nz_getf (v := .ref 1) (pc' := 107) (g_d dtbX10_note_0 51 rfl) gf_X10_10 (by decide) rfl rfl rfl ?_
              refine nz_getf (v := iv (A.1 28 + 1)) (pc' := 110) (g_d dtbX10_note_0 52 rfl) gf_X10_178 (by decide) rfl (congrArg iv (by rw [br1_5 hb1, rNote, ru_eq])) rfl ?_
              refine nz_ri .int (g_d dtbX10_note_0 53 rfl) rfl rfl ?_
              rw [show xNote A b d e m q = (A.1 28 + 1, sF A (rNote A.1 b d e m q)) from by unfold xNote; rw [if_pos (by omega), if_neg (by omega)]]
              exact ⟨rfl, hC.book hb1 hF1, FM.rf.b (by decide) hF1⟩
            · refine cz_aload_n (pc' := 85) (g_d dtbX10_note_0 39 rfl) rfl rfl ?_
              refine nz_cVi (M' := mX10_refuseFull) (k := 0) (As := []) (S := []) (L := [some (.ref 0), some (iv (b)), some (iv (d)), some (iv (e)), some (iv (m)), some (iv (q)), some (iv 1)]) (pc' := 88) (g_d dtbX10_note_0 40 rfl) lk_X10_72 okX10_refuseFull (by decide) rfl rfl rfl rfl (Nat.le_of_ble_eq_true rfl) (Nat.le_of_ble_eq_true rfl) (by decide) rfl (c_refuseFull G Z) ?_
              rintro _ _ ⟨rfl, rfl⟩
              refine nz_ri .int (g_d dtbX10_note_0 41 rfl) rfl rfl ?_
              rw [show xNote A b d e m q = (-4, aFull A) from by unfold xNote; rw [if_pos (by omega), if_pos (by omega)]]
              exact ⟨rfl, cs_full hC, (FM.u FM.rf (by decide))⟩
          · refine nz_if_ne_f (pc' := 65) (g_d dtbX10_note_0 29 rfl) (by omega) (by decide) rfl (by omega) ?_
            refine cz_aload_n (pc' := 66) (g_d dtbX10_note_0 30 rfl) rfl rfl ?_
            refine nz_bipush (pc' := 68) (g_d dtbX10_note_0 31 rfl) (by decide) rfl ?_
            refine nz_cVi (M' := mX10_refuseBad) (k := 0) (As := [iv (-2)]) (S := []) (L := [some (.ref 0), some (iv (b)), some (iv (d)), some (iv (e)), some (iv (m)), some (iv (q)), some (iv 1)]) (pc' := 71) (g_d dtbX10_note_0 32 rfl) lk_X10_57 okX10_refuseBad (by decide) rfl rfl rfl rfl (Nat.le_of_ble_eq_true rfl) (Nat.le_of_ble_eq_true rfl) (by decide) rfl (c_refuseBad G Z (-2)) ?_
            rintro _ _ ⟨rfl, rfl⟩
            refine nz_ri .int (g_d dtbX10_note_0 33 rfl) rfl rfl ?_
            rw [show xNote A b d e m q = (-2, aBad A) from by unfold xNote; rw [if_neg (by omega)]]
            exact ⟨rfl, cs_bad hC, (FM.u FM.rf (by decide))⟩
        · refine nz_if_eq_t (tgt := 65) (g_d dtbX10_note_0 24 rfl) (by omega) rfl (by omega) ?_
          refine cz_aload_n (pc' := 66) (g_d dtbX10_note_0 30 rfl) rfl rfl ?_
          refine nz_bipush (pc' := 68) (g_d dtbX10_note_0 31 rfl) (by decide) rfl ?_
          refine nz_cVi (M' := mX10_refuseBad) (k := 0) (As := [iv (-2)]) (S := []) (L := [some (.ref 0), some (iv (b)), some (iv (d)), some (iv (e)), some (iv (m)), some (iv (q)), some (iv 1)]) (pc' := 71) (g_d dtbX10_note_0 32 rfl) lk_X10_57 okX10_refuseBad (by decide) rfl rfl rfl rfl (Nat.le_of_ble_eq_true rfl) (Nat.le_of_ble_eq_true rfl) (by decide) rfl (c_refuseBad G Z (-2)) ?_
          rintro _ _ ⟨rfl, rfl⟩
          refine nz_ri .int (g_d dtbX10_note_0 33 rfl) rfl rfl ?_
          rw [show xNote A b d e m q = (-2, aBad A) from by unfold xNote; rw [if_neg (by omega)]]
          exact ⟨rfl, cs_bad hC, (FM.u FM.rf (by decide))⟩
      · refine nz_if_eq_t (tgt := 65) (g_d dtbX10_note_0 17 rfl) (by omega) rfl (by omega) ?_
        refine cz_aload_n (pc' := 66) (g_d dtbX10_note_0 30 rfl) rfl rfl ?_
        refine nz_bipush (pc' := 68) (g_d dtbX10_note_0 31 rfl) (by decide) rfl ?_
        refine nz_cVi (M' := mX10_refuseBad) (k := 0) (As := [iv (-2)]) (S := []) (L := [some (.ref 0), some (iv (b)), some (iv (d)), some (iv (e)), some (iv (m)), some (iv (q)), some (iv 1)]) (pc' := 71) (g_d dtbX10_note_0 32 rfl) lk_X10_57 okX10_refuseBad (by decide) rfl rfl rfl rfl (Nat.le_of_ble_eq_true rfl) (Nat.le_of_ble_eq_true rfl) (by decide) rfl (c_refuseBad G Z (-2)) ?_
        rintro _ _ ⟨rfl, rfl⟩
        refine nz_ri .int (g_d dtbX10_note_0 33 rfl) rfl rfl ?_
        rw [show xNote A b d e m q = (-2, aBad A) from by unfold xNote; rw [if_neg (by omega)]]
        exact ⟨rfl, cs_bad hC, (FM.u FM.rf (by decide))⟩
    · refine nz_if_eq_t (tgt := 24) (g_d dtbX10_note_0 9 rfl) (by omega) rfl (by omega) ?_
      refine nz_iconst (pc' := 25) (g_d dtbX10_note_0 12 rfl) rfl ?_
      refine cz_istore (L' := [some (.ref 0), some (iv (b)), some (iv (d)), some (iv (e)), some (iv (m)), some (iv (q)), some (iv 0)]) (pc' := 27) (g_d dtbX10_note_0 13 rfl) (by decide) rfl rfl ?_
      refine cz_aload_n (pc' := 28) (g_d dtbX10_note_0 14 rfl) rfl rfl ?_
      refine cz_iload_n (pc' := 29) (g_d dtbX10_note_0 15 rfl) rfl rfl ?_
      refine nz_cVi (M' := mX10_isBillNumber) (k := 0) (As := [iv (b)]) (S := []) (L := [some (.ref 0), some (iv (b)), some (iv (d)), some (iv (e)), some (iv (m)), some (iv (q)), some (iv 0)]) (pc' := 32) (g_d dtbX10_note_0 16 rfl) lk_X10_114 okX10_isBillNumber (by decide) rfl rfl rfl rfl (Nat.le_of_ble_eq_true rfl) (Nat.le_of_ble_eq_true rfl) (by decide) rfl (c_isBN G Z A B hC hA b (by omega)) ?_
      rintro _ _ ⟨rfl, ⟨rfl, hw29⟩ | ⟨rfl, hw29⟩⟩
      · refine nz_if_eq_f (pc' := 35) (g_d dtbX10_note_0 17 rfl) (by omega) (by decide) rfl (by omega) ?_
        refine cz_iload (pc' := 37) (g_d dtbX10_note_0 18 rfl) rfl rfl ?_
        refine nz_if_eq_t (tgt := 65) (g_d dtbX10_note_0 19 rfl) (by omega) rfl (by omega) ?_
        refine cz_aload_n (pc' := 66) (g_d dtbX10_note_0 30 rfl) rfl rfl ?_
        refine nz_bipush (pc' := 68) (g_d dtbX10_note_0 31 rfl) (by decide) rfl ?_
        refine nz_cVi (M' := mX10_refuseBad) (k := 0) (As := [iv (-2)]) (S := []) (L := [some (.ref 0), some (iv (b)), some (iv (d)), some (iv (e)), some (iv (m)), some (iv (q)), some (iv 0)]) (pc' := 71) (g_d dtbX10_note_0 32 rfl) lk_X10_57 okX10_refuseBad (by decide) rfl rfl rfl rfl (Nat.le_of_ble_eq_true rfl) (Nat.le_of_ble_eq_true rfl) (by decide) rfl (c_refuseBad G Z (-2)) ?_
        rintro _ _ ⟨rfl, rfl⟩
        refine nz_ri .int (g_d dtbX10_note_0 33 rfl) rfl rfl ?_
        rw [show xNote A b d e m q = (-2, aBad A) from by unfold xNote; rw [if_neg (by omega)]]
        exact ⟨rfl, cs_bad hC, (FM.u FM.rf (by decide))⟩
      · refine nz_if_eq_t (tgt := 65) (g_d dtbX10_note_0 17 rfl) (by omega) rfl (by omega) ?_
        refine cz_aload_n (pc' := 66) (g_d dtbX10_note_0 30 rfl) rfl rfl ?_
        refine nz_bipush (pc' := 68) (g_d dtbX10_note_0 31 rfl) (by decide) rfl ?_
        refine nz_cVi (M' := mX10_refuseBad) (k := 0) (As := [iv (-2)]) (S := []) (L := [some (.ref 0), some (iv (b)), some (iv (d)), some (iv (e)), some (iv (m)), some (iv (q)), some (iv 0)]) (pc' := 71) (g_d dtbX10_note_0 32 rfl) lk_X10_57 okX10_refuseBad (by decide) rfl rfl rfl rfl (Nat.le_of_ble_eq_true rfl) (Nat.le_of_ble_eq_true rfl) (by decide) rfl (c_refuseBad G Z (-2)) ?_
        rintro _ _ ⟨rfl, rfl⟩
        refine nz_ri .int (g_d dtbX10_note_0 33 rfl) rfl rfl ?_
        rw [show xNote A b d e m q = (-2, aBad A) from by unfold xNote; rw [if_neg (by omega)]]
        exact ⟨rfl, cs_bad hC, (FM.u FM.rf (by decide))⟩
  · refine nz_if_eq_t (tgt := 24) (g_d dtbX10_note_0 4 rfl) (by omega) rfl (by omega) ?_
    refine nz_iconst (pc' := 25) (g_d dtbX10_note_0 12 rfl) rfl ?_
    refine cz_istore (L' := [some (.ref 0), some (iv (b)), some (iv (d)), some (iv (e)), some (iv (m)), some (iv (q)), some (iv 0)]) (pc' := 27) (g_d dtbX10_note_0 13 rfl) (by decide) rfl rfl ?_
    refine cz_aload_n (pc' := 28) (g_d dtbX10_note_0 14 rfl) rfl rfl ?_
    refine cz_iload_n (pc' := 29) (g_d dtbX10_note_0 15 rfl) rfl rfl ?_
    refine nz_cVi (M' := mX10_isBillNumber) (k := 0) (As := [iv (b)]) (S := []) (L := [some (.ref 0), some (iv (b)), some (iv (d)), some (iv (e)), some (iv (m)), some (iv (q)), some (iv 0)]) (pc' := 32) (g_d dtbX10_note_0 16 rfl) lk_X10_114 okX10_isBillNumber (by decide) rfl rfl rfl rfl (Nat.le_of_ble_eq_true rfl) (Nat.le_of_ble_eq_true rfl) (by decide) rfl (c_isBN G Z A B hC hA b (by omega)) ?_
    rintro _ _ ⟨rfl, ⟨rfl, hw29⟩ | ⟨rfl, hw29⟩⟩
    · refine nz_if_eq_f (pc' := 35) (g_d dtbX10_note_0 17 rfl) (by omega) (by decide) rfl (by omega) ?_
      refine cz_iload (pc' := 37) (g_d dtbX10_note_0 18 rfl) rfl rfl ?_
      refine nz_if_eq_t (tgt := 65) (g_d dtbX10_note_0 19 rfl) (by omega) rfl (by omega) ?_
      refine cz_aload_n (pc' := 66) (g_d dtbX10_note_0 30 rfl) rfl rfl ?_
      refine nz_bipush (pc' := 68) (g_d dtbX10_note_0 31 rfl) (by decide) rfl ?_
      refine nz_cVi (M' := mX10_refuseBad) (k := 0) (As := [iv (-2)]) (S := []) (L := [some (.ref 0), some (iv (b)), some (iv (d)), some (iv (e)), some (iv (m)), some (iv (q)), some (iv 0)]) (pc' := 71) (g_d dtbX10_note_0 32 rfl) lk_X10_57 okX10_refuseBad (by decide) rfl rfl rfl rfl (Nat.le_of_ble_eq_true rfl) (Nat.le_of_ble_eq_true rfl) (by decide) rfl (c_refuseBad G Z (-2)) ?_
      rintro _ _ ⟨rfl, rfl⟩
      refine nz_ri .int (g_d dtbX10_note_0 33 rfl) rfl rfl ?_
      rw [show xNote A b d e m q = (-2, aBad A) from by unfold xNote; rw [if_neg (by omega)]]
      exact ⟨rfl, cs_bad hC, (FM.u FM.rf (by decide))⟩
    · refine nz_if_eq_t (tgt := 65) (g_d dtbX10_note_0 17 rfl) (by omega) rfl (by omega) ?_
      refine cz_aload_n (pc' := 66) (g_d dtbX10_note_0 30 rfl) rfl rfl ?_
      refine nz_bipush (pc' := 68) (g_d dtbX10_note_0 31 rfl) (by decide) rfl ?_
      refine nz_cVi (M' := mX10_refuseBad) (k := 0) (As := [iv (-2)]) (S := []) (L := [some (.ref 0), some (iv (b)), some (iv (d)), some (iv (e)), some (iv (m)), some (iv (q)), some (iv 0)]) (pc' := 71) (g_d dtbX10_note_0 32 rfl) lk_X10_57 okX10_refuseBad (by decide) rfl rfl rfl rfl (Nat.le_of_ble_eq_true rfl) (Nat.le_of_ble_eq_true rfl) (by decide) rfl (c_refuseBad G Z (-2)) ?_
      rintro _ _ ⟨rfl, rfl⟩
      refine nz_ri .int (g_d dtbX10_note_0 33 rfl) rfl rfl ?_
      rw [show xNote A b d e m q = (-2, aBad A) from by unfold xNote; rw [if_neg (by omega)]]
      exact ⟨rfl, cs_bad hC, (FM.u FM.rf (by decide))⟩

set_option maxRecDepth 20000 in
set_option maxHeartbeats 4000000 in
theorem a_part (G : Wd) (Z : ZS) (A : AS) (B : Int) (hC : CS Z A) (hA : AO B A) (w : Int) (hw : -2147483648 ≤ w ∧ w ≤ 2147483647) : Cn G mX10_part 0 [some (.ref 0), some (iv (w))] [] Z (ql (fun r W => (xPart A w).1 = r ∧ CS W (xPart A w).2 ∧ FM Z W)) := by
  have hB := hC.1
  have hb0 := hA.1
  have hO := hA.2.1
  have h6 : 0 ≤ A.1 6 ∧ A.1 6 ≤ 7 := hO.2.1
  have h28 : 0 ≤ A.1 28 ∧ A.1 28 ≤ 6 := hO.2.2.2.1
  have h59 : 0 ≤ A.1 59 ∧ A.1 59 ≤ 8 := hO.2.2.2.2.2.1
  have hf := hO.1
  unfold FO at hf
  have hct := hA.2.2.2.2.2.2
  have hq := hC.2.2.2.2.1
  have hst := hC.2.2.2.2.2
  refine cz_iload_n (pc' := 1) (g_d dtbX10_part_0 0 rfl) rfl rfl ?_
  refine nz_iconst (pc' := 2) (g_d dtbX10_part_0 1 rfl) rfl ?_
  refine nz_iconst (pc' := 3) (g_d dtbX10_part_0 2 rfl) rfl ?_
  refine nz_cSi (M' := mX10_within) (As := [iv (w), iv 0, iv 1]) (S := []) (L := [some (.ref 0), some (iv (w))]) (pc' := 6) (g_d dtbX10_part_0 3 rfl) lk_X10_53 okX10_within rfl rfl (Nat.le_of_ble_eq_true rfl) (Nat.le_of_ble_eq_true rfl) (by decide) rfl (c_within G Z w 0 1 (by omega) (by omega) (by omega)) ?_
  rintro _ _ ⟨rfl, ⟨rfl, hw3⟩ | ⟨rfl, hw3⟩⟩
  · refine nz_if_ne_t (tgt := 17) (g_d dtbX10_part_0 4 rfl) (by omega) rfl (by omega) ?_
    refine cz_iload_n (pc' := 18) (g_d dtbX10_part_0 10 rfl) rfl rfl ?_
    refine nz_if_ne (tgt := 28) (pc' := 21) (g_d dtbX10_part_0 11 rfl) (by omega) rfl rfl (fun h18 => ?_) (fun h18 => ?_)
    · refine cz_aload_n (pc' := 29) (g_d dtbX10_part_0 15 rfl) rfl rfl ?_
      refine nz_getf (v := il (A.2.2.2.2.1.2)) (pc' := 32) (g_d dtbX10_part_0 16 rfl) gf_X10_49 (by decide) rfl (congrArg il (hq.2)) rfl ?_
      refine nz_rl (g_d dtbX10_part_0 17 rfl) rfl ?_
      rw [show xPart A w = (A.2.2.2.2.1.2, A) from by unfold xPart; rw [if_neg (by omega), if_pos (by omega)]]
      exact ⟨rfl, hC, FM.rf⟩
    · refine cz_aload_n (pc' := 22) (g_d dtbX10_part_0 12 rfl) rfl rfl ?_
      refine nz_getf (v := il (A.2.2.2.2.1.1)) (pc' := 25) (g_d dtbX10_part_0 13 rfl) gf_X10_220 (by decide) rfl (congrArg il (hq.1)) rfl ?_
      refine cz_goto (pc' := 32) (g_d dtbX10_part_0 14 rfl) rfl ?_
      refine nz_rl (g_d dtbX10_part_0 17 rfl) rfl ?_
      rw [show xPart A w = (A.2.2.2.2.1.1, A) from if_pos (by omega)]
      exact ⟨rfl, hC, FM.rf⟩
  · refine nz_if_ne_f (pc' := 9) (g_d dtbX10_part_0 4 rfl) (by omega) (by decide) rfl (by omega) ?_
    refine cz_aload_n (pc' := 10) (g_d dtbX10_part_0 5 rfl) rfl rfl ?_
    refine nz_bipush (pc' := 12) (g_d dtbX10_part_0 6 rfl) (by decide) rfl ?_
    refine nz_cVi (M' := mX10_refuseBad) (k := 0) (As := [iv (-2)]) (S := []) (L := [some (.ref 0), some (iv (w))]) (pc' := 15) (g_d dtbX10_part_0 7 rfl) lk_X10_57 okX10_refuseBad (by decide) rfl rfl rfl rfl (Nat.le_of_ble_eq_true rfl) (Nat.le_of_ble_eq_true rfl) (by decide) rfl (c_refuseBad G Z (-2)) ?_
    rintro _ _ ⟨rfl, rfl⟩
    refine nz_i2l (pc' := 16) (g_d dtbX10_part_0 8 rfl) (by omega) rfl ?_
    refine nz_rl (g_d dtbX10_part_0 9 rfl) rfl ?_
    rw [show xPart A w = (-2, aBad A) from by unfold xPart; rw [if_neg (by omega), if_neg (by omega)]]
    exact ⟨rfl, cs_bad hC, (FM.u FM.rf (by decide))⟩

set_option maxRecDepth 20000 in
set_option maxHeartbeats 4000000 in
theorem a_status (G : Wd) (Z : ZS) (A : AS) (B : Int) (hC : CS Z A) (hA : AO B A) (w : Int) (hw : -2147483648 ≤ w ∧ w ≤ 2147483647) : Cn G mX10_status 0 [some (.ref 0), some (iv (w))] [] Z (qi (fun r W => (xStatus A w).1 = r ∧ CS W (xStatus A w).2 ∧ FM Z W)) := by
  have hB := hC.1
  have hb0 := hA.1
  have hO := hA.2.1
  have h6 : 0 ≤ A.1 6 ∧ A.1 6 ≤ 7 := hO.2.1
  have h28 : 0 ≤ A.1 28 ∧ A.1 28 ≤ 6 := hO.2.2.2.1
  have h59 : 0 ≤ A.1 59 ∧ A.1 59 ≤ 8 := hO.2.2.2.2.2.1
  have hf := hO.1
  unfold FO at hf
  have hct := hA.2.2.2.2.2.2
  have hq := hC.2.2.2.2.1
  have hst := hC.2.2.2.2.2
  refine cz_iload_n (pc' := 1) (g_d dtbX10_status_0 0 rfl) rfl rfl ?_
  rcases (show w = 0 ∨ w = 1 ∨ w = 2 ∨ (w < 0 ∨ 2 < w) from by omega) with h1 | h1 | h1 | h1
  · refine nz_tabIn (tgt := 28) 0 (g_d dtbX10_status_0 1 rfl) (by omega) (by omega) (by omega) rfl rfl ?_
    refine cz_aload_n (pc' := 29) (g_d dtbX10_status_0 2 rfl) rfl rfl ?_
    refine nz_getf (v := iv (A.2.2.2.2.2.1)) (pc' := 32) (g_d dtbX10_status_0 3 rfl) gf_X10_227 (by decide) rfl (congrArg iv (hst.1)) rfl ?_
    refine nz_ri .int (g_d dtbX10_status_0 4 rfl) rfl rfl ?_
    rw [show xStatus A w = (A.2.2.2.2.2.1, A) from by unfold xStatus; rw [if_pos (by omega)]]
    exact ⟨rfl, hC, FM.rf⟩
  · refine nz_tabIn (tgt := 33) 1 (g_d dtbX10_status_0 1 rfl) (by omega) (by omega) (by omega) rfl rfl ?_
    refine cz_aload_n (pc' := 34) (g_d dtbX10_status_0 5 rfl) rfl rfl ?_
    refine nz_getf (v := iv (A.2.2.2.2.2.2.1)) (pc' := 37) (g_d dtbX10_status_0 6 rfl) gf_X10_230 (by decide) rfl (congrArg iv (hst.2.1)) rfl ?_
    refine nz_ri .int (g_d dtbX10_status_0 7 rfl) rfl rfl ?_
    rw [show xStatus A w = (A.2.2.2.2.2.2.1, A) from by unfold xStatus; rw [if_neg (by omega), if_pos (by omega)]]
    exact ⟨rfl, hC, FM.rf⟩
  · refine nz_tabIn (tgt := 38) 2 (g_d dtbX10_status_0 1 rfl) (by omega) (by omega) (by omega) rfl rfl ?_
    refine cz_aload_n (pc' := 39) (g_d dtbX10_status_0 8 rfl) rfl rfl ?_
    refine nz_getf (v := iv (A.2.2.2.2.2.2.2)) (pc' := 42) (g_d dtbX10_status_0 9 rfl) gf_X10_233 (by decide) rfl (congrArg iv (hst.2.2)) rfl ?_
    refine nz_ri .int (g_d dtbX10_status_0 10 rfl) rfl rfl ?_
    rw [show xStatus A w = (A.2.2.2.2.2.2.2, A) from by unfold xStatus; rw [if_neg (by omega), if_neg (by omega), if_pos (by omega)]]
    exact ⟨rfl, hC, FM.rf⟩
  · refine nz_tabOut (tgt := 43) (g_d dtbX10_status_0 1 rfl) (by omega) h1 rfl ?_
    refine cz_aload_n (pc' := 44) (g_d dtbX10_status_0 11 rfl) rfl rfl ?_
    refine nz_iconst (pc' := 45) (g_d dtbX10_status_0 12 rfl) rfl ?_
    refine nz_cVi (M' := mX10_refuseBad) (k := 0) (As := [iv (-1)]) (S := []) (L := [some (.ref 0), some (iv (w))]) (pc' := 48) (g_d dtbX10_status_0 13 rfl) lk_X10_57 okX10_refuseBad (by decide) rfl rfl rfl rfl (Nat.le_of_ble_eq_true rfl) (Nat.le_of_ble_eq_true rfl) (by decide) rfl (c_refuseBad G Z (-1)) ?_
    rintro _ _ ⟨rfl, rfl⟩
    refine nz_ri .int (g_d dtbX10_status_0 14 rfl) rfl rfl ?_
    rw [show xStatus A w = (-1, aBad A) from by unfold xStatus; rw [if_neg (by omega), if_neg (by omega), if_neg (by omega)]]
    exact ⟨rfl, cs_bad hC, (FM.u FM.rf (by decide))⟩

set_option maxRecDepth 20000 in
set_option maxHeartbeats 4000000 in
theorem a_count (G : Wd) (Z : ZS) (A : AS) (B : Int) (hC : CS Z A) (hA : AO B A) (w : Int) (hw : -2147483648 ≤ w ∧ w ≤ 2147483647) : Cn G mX10_count 0 [some (.ref 0), some (iv (w))] [] Z (qi (fun r W => (xCount A w).1 = r ∧ CS W (xCount A w).2 ∧ FM Z W)) := by
  have hB := hC.1
  have hb0 := hA.1
  have hO := hA.2.1
  have h6 : 0 ≤ A.1 6 ∧ A.1 6 ≤ 7 := hO.2.1
  have h28 : 0 ≤ A.1 28 ∧ A.1 28 ≤ 6 := hO.2.2.2.1
  have h59 : 0 ≤ A.1 59 ∧ A.1 59 ≤ 8 := hO.2.2.2.2.2.1
  have hf := hO.1
  unfold FO at hf
  have hct := hA.2.2.2.2.2.2
  have ht := hC.2.2.2.1
  have hto := hA.2.2.2.2.1
  refine cz_iload_n (pc' := 1) (g_d dtbX10_count_0 0 rfl) rfl rfl ?_
  rcases (show w = 0 ∨ w = 1 ∨ w = 2 ∨ w = 3 ∨ (w < 0 ∨ 3 < w) from by omega) with h1 | h1 | h1 | h1 | h1
  · refine nz_tabIn (tgt := 32) 0 (g_d dtbX10_count_0 1 rfl) (by omega) (by omega) (by omega) rfl rfl ?_
    refine cz_aload_n (pc' := 33) (g_d dtbX10_count_0 2 rfl) rfl rfl ?_
    refine nz_getf (v := .ref 1) (pc' := 36) (g_d dtbX10_count_0 3 rfl) gf_X10_10 (by decide) rfl rfl rfl ?_
    refine nz_getf (v := iv (A.1 6)) (pc' := 39) (g_d dtbX10_count_0 4 rfl) gf_X10_61 (by decide) rfl (congrArg iv (br1_4 (hB))) rfl ?_
    refine nz_ri .int (g_d dtbX10_count_0 5 rfl) rfl rfl ?_
    rw [show xCount A w = (A.1 6, A) from by unfold xCount; rw [if_pos (by omega)]]
    exact ⟨rfl, hC, FM.rf⟩
  · refine nz_tabIn (tgt := 40) 1 (g_d dtbX10_count_0 1 rfl) (by omega) (by omega) (by omega) rfl rfl ?_
    refine cz_aload_n (pc' := 41) (g_d dtbX10_count_0 6 rfl) rfl rfl ?_
    refine nz_getf (v := .ref 1) (pc' := 44) (g_d dtbX10_count_0 7 rfl) gf_X10_10 (by decide) rfl rfl rfl ?_
    refine nz_getf (v := iv (A.1 28)) (pc' := 47) (g_d dtbX10_count_0 8 rfl) gf_X10_178 (by decide) rfl (congrArg iv (br1_5 (hB))) rfl ?_
    refine nz_ri .int (g_d dtbX10_count_0 9 rfl) rfl rfl ?_
    rw [show xCount A w = (A.1 28, A) from by unfold xCount; rw [if_neg (by omega), if_pos (by omega)]]
    exact ⟨rfl, hC, FM.rf⟩
  · refine nz_tabIn (tgt := 48) 2 (g_d dtbX10_count_0 1 rfl) (by omega) (by omega) (by omega) rfl rfl ?_
    refine cz_aload_n (pc' := 49) (g_d dtbX10_count_0 10 rfl) rfl rfl ?_
    refine nz_getf (v := .ref 1) (pc' := 52) (g_d dtbX10_count_0 11 rfl) gf_X10_10 (by decide) rfl rfl rfl ?_
    refine nz_getf (v := iv (A.1 59)) (pc' := 55) (g_d dtbX10_count_0 12 rfl) gf_X10_108 (by decide) rfl (congrArg iv (br1_6 (hB))) rfl ?_
    refine nz_ri .int (g_d dtbX10_count_0 13 rfl) rfl rfl ?_
    rw [show xCount A w = (A.1 59, A) from by unfold xCount; rw [if_neg (by omega), if_neg (by omega), if_pos (by omega)]]
    exact ⟨rfl, hC, FM.rf⟩
  · refine nz_tabIn (tgt := 56) 3 (g_d dtbX10_count_0 1 rfl) (by omega) (by omega) (by omega) rfl rfl ?_
    refine cz_aload_n (pc' := 57) (g_d dtbX10_count_0 14 rfl) rfl rfl ?_
    refine nz_getf (v := .ref 17) (pc' := 60) (g_d dtbX10_count_0 15 rfl) gf_X10_29 (by decide) rfl rfl rfl ?_
    refine nz_getf (v := iv ((A.2.2.2.1.1 : Int))) (pc' := 63) (g_d dtbX10_count_0 16 rfl) gf_X10_80 (by decide) rfl (congrArg iv (ht.1)) rfl ?_
    refine nz_ri .int (g_d dtbX10_count_0 17 rfl) rfl rfl ?_
    rw [show xCount A w = ((A.2.2.2.1.1 : Int), A) from by unfold xCount; rw [if_neg (by omega), if_neg (by omega), if_neg (by omega), if_pos (by omega)]]
    exact ⟨rfl, hC, FM.rf⟩
  · refine nz_tabOut (tgt := 64) (g_d dtbX10_count_0 1 rfl) (by omega) h1 rfl ?_
    refine cz_aload_n (pc' := 65) (g_d dtbX10_count_0 18 rfl) rfl rfl ?_
    refine nz_bipush (pc' := 67) (g_d dtbX10_count_0 19 rfl) (by decide) rfl ?_
    refine nz_cVi (M' := mX10_refuseBad) (k := 0) (As := [iv (-2)]) (S := []) (L := [some (.ref 0), some (iv (w))]) (pc' := 70) (g_d dtbX10_count_0 20 rfl) lk_X10_57 okX10_refuseBad (by decide) rfl rfl rfl rfl (Nat.le_of_ble_eq_true rfl) (Nat.le_of_ble_eq_true rfl) (by decide) rfl (c_refuseBad G Z (-2)) ?_
    rintro _ _ ⟨rfl, rfl⟩
    refine nz_ri .int (g_d dtbX10_count_0 21 rfl) rfl rfl ?_
    rw [show xCount A w = (-2, aBad A) from by unfold xCount; rw [if_neg (by omega), if_neg (by omega), if_neg (by omega), if_neg (by omega)]]
    exact ⟨rfl, cs_bad hC, (FM.u FM.rf (by decide))⟩

theorem CS.img0 {Z W : ZS} {A : AS} {g : Row} (h : CS Z A) (hb : BR W 6 g) (hF : Fb 6 Z W) : CS (zu W 16 0 1) (sI0 A g) := by
  obtain ⟨h1, h2, h3, h4, h5, h6⟩ := h
  have e : ∀ a, a < 6 ∨ (10 < a ∧ a ≠ 16) → (zu W 16 0 1) a = Z a := fun a ha => by rw [zu_row (by omega)]; exact hF a (by omega)
  refine ⟨h1.eq (fun a q1 q2 => e a (by omega)), ⟨zu_eq, fun _ => hb.eq (fun a q1 q2 => zu_row (by omega))⟩, ⟨?_, fun q => (h3.2 q).eq (fun a q1 q2 => e a (by omega))⟩, ⟨by rw [e 17 (by omega)]; exact h4.1, fun i hi => by rw [e 18 (by omega)]; exact h4.2 i hi⟩, ?_, ?_⟩
  · rw [zu_ne (by omega), hF 16 (by omega)]; exact h3.1
  · rw [e 0 (by omega)]; exact h5
  · rw [e 0 (by omega)]; exact h6
theorem CS.img1 {Z W : ZS} {A : AS} {g : Row} (h : CS Z A) (hb : BR W 11 g) (hF : Fb 11 Z W) : CS (zu W 16 1 1) (sI1 A g) := by
  obtain ⟨h1, h2, h3, h4, h5, h6⟩ := h
  have e : ∀ a, a < 11 ∨ (15 < a ∧ a ≠ 16) → (zu W 16 1 1) a = Z a := fun a ha => by rw [zu_row (by omega)]; exact hF a (by omega)
  refine ⟨h1.eq (fun a q1 q2 => e a (by omega)), ⟨?_, fun q => (h2.2 q).eq (fun a q1 q2 => e a (by omega))⟩, ⟨zu_eq, fun _ => hb.eq (fun a q1 q2 => zu_row (by omega))⟩, ⟨by rw [e 17 (by omega)]; exact h4.1, fun i hi => by rw [e 18 (by omega)]; exact h4.2 i hi⟩, ?_, ?_⟩
  · rw [zu_ne (by omega), hF 16 (by omega)]; exact h2.1
  · rw [e 0 (by omega)]; exact h5
  · rw [e 0 (by omega)]; exact h6
theorem bk6 : Bk 6 := Or.inr (Or.inl rfl)
theorem bk11 : Bk 11 := Or.inr (Or.inr (Or.inl rfl))
theorem bk19 : Bk 19 := Or.inr (Or.inr (Or.inr rfl))

set_option maxRecDepth 20000 in
set_option maxHeartbeats 4000000 in
theorem a_image (G : Wd) (Z : ZS) (A : AS) (B : Int) (hC : CS Z A) (hA : AO B A) (i : Int) (hi : -2147483648 ≤ i ∧ i ≤ 2147483647) : Cn G mX10_image 0 [some (.ref 0), some (iv (i))] [] Z (qi (fun r W => (xImage A i).1 = r ∧ CS W (xImage A i).2 ∧ FM Z W)) := by
  have hB := hC.1
  have hb0 := hA.1
  have hO := hA.2.1
  have h6 : 0 ≤ A.1 6 ∧ A.1 6 ≤ 7 := hO.2.1
  have h28 : 0 ≤ A.1 28 ∧ A.1 28 ≤ 6 := hO.2.2.2.1
  have h59 : 0 ≤ A.1 59 ∧ A.1 59 ≤ 8 := hO.2.2.2.2.2.1
  have hf := hO.1
  unfold FO at hf
  have hct := hA.2.2.2.2.2.2
  refine cz_iload_n (pc' := 1) (g_d dtbX10_image_0 0 rfl) rfl rfl ?_
  refine nz_iconst (pc' := 2) (g_d dtbX10_image_0 1 rfl) rfl ?_
  refine nz_iconst (pc' := 3) (g_d dtbX10_image_0 2 rfl) rfl ?_
  refine nz_cSi (M' := mX10_within) (As := [iv (i), iv 0, iv 1]) (S := []) (L := [some (.ref 0), some (iv (i))]) (pc' := 6) (g_d dtbX10_image_0 3 rfl) lk_X10_53 okX10_within rfl rfl (Nat.le_of_ble_eq_true rfl) (Nat.le_of_ble_eq_true rfl) (by decide) rfl (c_within G Z i 0 1 (by omega) (by omega) (by omega)) ?_
  rintro _ _ ⟨rfl, ⟨rfl, hw3⟩ | ⟨rfl, hw3⟩⟩
  · refine nz_if_ne_t (tgt := 16) (g_d dtbX10_image_0 4 rfl) (by omega) rfl (by omega) ?_
    rcases (show i = 0 ∨ i = 1 by omega) with rfl | rfl
    · refine cz_aload_n (pc' := 17) (g_d dtbX10_image_0 9 rfl) rfl rfl ?_
      refine cz_iload_n (pc' := 18) (g_d dtbX10_image_0 10 rfl) rfl rfl ?_
      refine nz_cVr (M' := mX10_imageAt) (k := 0) (As := [iv 0]) (S := []) (L := [some (.ref 0), some (iv 0)]) (pc' := 21) (g_d dtbX10_image_0 11 rfl) lk_X10_223 okX10_imageAt (by decide) rfl rfl rfl rfl (Nat.le_of_ble_eq_true rfl) (Nat.le_of_ble_eq_true rfl) (by decide) rfl (c_imageAt0 G Z) ?_
      rintro _ _ ⟨rfl, rfl⟩
      refine cz_aload_n (pc' := 22) (g_d dtbX10_image_0 12 rfl) rfl rfl ?_
      refine nz_getf (v := .ref 1) (pc' := 25) (g_d dtbX10_image_0 13 rfl) gf_X10_10 (by decide) rfl rfl rfl ?_
      refine nz_cVv (M' := mX0_copyFrom) (k := 6) (As := [.ref 1]) (S := []) (L := [some (.ref 0), some (iv 0)]) (pc' := 28) (g_d dtbX10_image_0 14 rfl) lk_X10_92 okX0_copyFrom (by decide) rfl rfl rfl rfl (Nat.le_of_ble_eq_true rfl) (Nat.le_of_ble_eq_true rfl) (by decide) rfl (c_copyFrom G Z 6 1 A.1 bk6 bk1 (by decide) hB) ?_
      rintro W1 ⟨hb1, hF1⟩
      refine cz_aload_n (pc' := 29) (g_d dtbX10_image_0 15 rfl) rfl rfl ?_
      refine nz_getf (v := .ref 16) (pc' := 32) (g_d dtbX10_image_0 16 rfl) gf_X10_22 (by decide) rfl rfl rfl ?_
      refine cz_iload_n (pc' := 33) (g_d dtbX10_image_0 17 rfl) rfl rfl ?_
      refine nz_iconst (pc' := 34) (g_d dtbX10_image_0 18 rfl) rfl ?_
      refine nz_zast 0 (pc' := 35) (g_d dtbX10_image_0 19 rfl) (by decide) rfl (by omega) (by rfl) (by omega) rfl rfl ?_
      refine nz_iconst (pc' := 36) (g_d dtbX10_image_0 20 rfl) rfl ?_
      refine nz_ri .int (g_d dtbX10_image_0 21 rfl) rfl rfl ?_
      rw [show xImage A 0 = (1, sI0 A A.1) from rfl]
      exact ⟨rfl, hC.img0 hb1 hF1, FM.u (FM.rf.b (by decide) hF1) (by decide)⟩
    · refine cz_aload_n (pc' := 17) (g_d dtbX10_image_0 9 rfl) rfl rfl ?_
      refine cz_iload_n (pc' := 18) (g_d dtbX10_image_0 10 rfl) rfl rfl ?_
      refine nz_cVr (M' := mX10_imageAt) (k := 0) (As := [iv 1]) (S := []) (L := [some (.ref 0), some (iv 1)]) (pc' := 21) (g_d dtbX10_image_0 11 rfl) lk_X10_223 okX10_imageAt (by decide) rfl rfl rfl rfl (Nat.le_of_ble_eq_true rfl) (Nat.le_of_ble_eq_true rfl) (by decide) rfl (c_imageAt1 G Z) ?_
      rintro _ _ ⟨rfl, rfl⟩
      refine cz_aload_n (pc' := 22) (g_d dtbX10_image_0 12 rfl) rfl rfl ?_
      refine nz_getf (v := .ref 1) (pc' := 25) (g_d dtbX10_image_0 13 rfl) gf_X10_10 (by decide) rfl rfl rfl ?_
      refine nz_cVv (M' := mX0_copyFrom) (k := 11) (As := [.ref 1]) (S := []) (L := [some (.ref 0), some (iv 1)]) (pc' := 28) (g_d dtbX10_image_0 14 rfl) lk_X10_92 okX0_copyFrom (by decide) rfl rfl rfl rfl (Nat.le_of_ble_eq_true rfl) (Nat.le_of_ble_eq_true rfl) (by decide) rfl (c_copyFrom G Z 11 1 A.1 bk11 bk1 (by decide) hB) ?_
      rintro W1 ⟨hb1, hF1⟩
      refine cz_aload_n (pc' := 29) (g_d dtbX10_image_0 15 rfl) rfl rfl ?_
      refine nz_getf (v := .ref 16) (pc' := 32) (g_d dtbX10_image_0 16 rfl) gf_X10_22 (by decide) rfl rfl rfl ?_
      refine cz_iload_n (pc' := 33) (g_d dtbX10_image_0 17 rfl) rfl rfl ?_
      refine nz_iconst (pc' := 34) (g_d dtbX10_image_0 18 rfl) rfl ?_
      refine nz_zast 1 (pc' := 35) (g_d dtbX10_image_0 19 rfl) (by decide) rfl (by omega) (by rfl) (by omega) rfl rfl ?_
      refine nz_iconst (pc' := 36) (g_d dtbX10_image_0 20 rfl) rfl ?_
      refine nz_ri .int (g_d dtbX10_image_0 21 rfl) rfl rfl ?_
      rw [show xImage A 1 = (1, sI1 A A.1) from rfl]
      exact ⟨rfl, hC.img1 hb1 hF1, FM.u (FM.rf.b (by decide) hF1) (by decide)⟩
  · refine nz_if_ne_f (pc' := 9) (g_d dtbX10_image_0 4 rfl) (by omega) (by decide) rfl (by omega) ?_
    refine cz_aload_n (pc' := 10) (g_d dtbX10_image_0 5 rfl) rfl rfl ?_
    refine nz_bipush (pc' := 12) (g_d dtbX10_image_0 6 rfl) (by decide) rfl ?_
    refine nz_cVi (M' := mX10_refuseBad) (k := 0) (As := [iv (-2)]) (S := []) (L := [some (.ref 0), some (iv (i))]) (pc' := 15) (g_d dtbX10_image_0 7 rfl) lk_X10_57 okX10_refuseBad (by decide) rfl rfl rfl rfl (Nat.le_of_ble_eq_true rfl) (Nat.le_of_ble_eq_true rfl) (by decide) rfl (c_refuseBad G Z (-2)) ?_
    rintro _ _ ⟨rfl, rfl⟩
    refine nz_ri .int (g_d dtbX10_image_0 8 rfl) rfl rfl ?_
    rw [show xImage A i = (-2, aBad A) from by unfold xImage; rw [if_neg (by omega), if_neg (by omega)]]
    exact ⟨rfl, cs_bad hC, (FM.u FM.rf (by decide))⟩

set_option maxRecDepth 20000 in
set_option maxHeartbeats 4000000 in
theorem a_from (G : Wd) (Z : ZS) (A : AS) (B : Int) (hC : CS Z A) (hA : AO B A) (i : Int) (hi : -2147483648 ≤ i ∧ i ≤ 2147483647) : Cn G mX10_from 0 [some (.ref 0), some (iv (i))] [] Z (qi (fun r W => (xFrom A i).1 = r ∧ CS W (xFrom A i).2 ∧ FM Z W)) := by
  have hB := hC.1
  have hb0 := hA.1
  have hO := hA.2.1
  have h6 : 0 ≤ A.1 6 ∧ A.1 6 ≤ 7 := hO.2.1
  have h28 : 0 ≤ A.1 28 ∧ A.1 28 ≤ 6 := hO.2.2.2.1
  have h59 : 0 ≤ A.1 59 ∧ A.1 59 ≤ 8 := hO.2.2.2.2.2.1
  have hf := hO.1
  unfold FO at hf
  have hct := hA.2.2.2.2.2.2
  have hg0 := hC.2.1
  have hg1 := hC.2.2.1
  have ho0 := hA.2.2.1.1
  have ho1 := hA.2.2.2.1.1
  refine cz_iload_n (pc' := 1) (g_d dtbX10_from_0 0 rfl) rfl rfl ?_
  refine nz_iconst (pc' := 2) (g_d dtbX10_from_0 1 rfl) rfl ?_
  refine nz_iconst (pc' := 3) (g_d dtbX10_from_0 2 rfl) rfl ?_
  refine nz_cSi (M' := mX10_within) (As := [iv (i), iv 0, iv 1]) (S := []) (L := [some (.ref 0), some (iv (i))]) (pc' := 6) (g_d dtbX10_from_0 3 rfl) lk_X10_53 okX10_within rfl rfl (Nat.le_of_ble_eq_true rfl) (Nat.le_of_ble_eq_true rfl) (by decide) rfl (c_within G Z i 0 1 (by omega) (by omega) (by omega)) ?_
  rintro _ _ ⟨rfl, ⟨rfl, hw3⟩ | ⟨rfl, hw3⟩⟩
  · refine nz_if_ne_t (tgt := 16) (g_d dtbX10_from_0 4 rfl) (by omega) rfl (by omega) ?_
    rcases (show i = 0 ∨ i = 1 by omega) with rfl | rfl
    · refine cz_aload_n (pc' := 17) (g_d dtbX10_from_0 9 rfl) rfl rfl ?_
      refine nz_getf (v := .ref 16) (pc' := 20) (g_d dtbX10_from_0 10 rfl) gf_X10_22 (by decide) rfl rfl rfl ?_
      refine cz_iload_n (pc' := 21) (g_d dtbX10_from_0 11 rfl) rfl rfl ?_
      refine nz_zald 0 (pc' := 22) (g_d dtbX10_from_0 12 rfl) (by decide) rfl (by omega) (by rfl) (by omega) rfl ?_
      rw [show Z 16 0 = A.2.1.1 from hg0.1]
      refine nz_if_ne (tgt := 30) (pc' := 25) (g_d dtbX10_from_0 13 rfl) (by omega) rfl rfl (fun h22 => ?_) (fun h22 => ?_)
      · refine cz_aload_n (pc' := 31) (g_d dtbX10_from_0 17 rfl) rfl rfl ?_
        refine nz_getf (v := .ref 1) (pc' := 34) (g_d dtbX10_from_0 18 rfl) gf_X10_10 (by decide) rfl rfl rfl ?_
        refine cz_aload_n (pc' := 35) (g_d dtbX10_from_0 19 rfl) rfl rfl ?_
        refine cz_iload_n (pc' := 36) (g_d dtbX10_from_0 20 rfl) rfl rfl ?_
        refine nz_cVr (M' := mX10_imageAt) (k := 0) (As := [iv 0]) (S := [.ref 1]) (L := [some (.ref 0), some (iv 0)]) (pc' := 39) (g_d dtbX10_from_0 21 rfl) lk_X10_223 okX10_imageAt (by decide) rfl rfl rfl rfl (Nat.le_of_ble_eq_true rfl) (Nat.le_of_ble_eq_true rfl) (by decide) rfl (c_imageAt0 G Z) ?_
        rintro _ _ ⟨rfl, rfl⟩
        refine nz_cVv (M' := mX0_copyFrom) (k := 1) (As := [.ref 6]) (S := []) (L := [some (.ref 0), some (iv 0)]) (pc' := 42) (g_d dtbX10_from_0 22 rfl) lk_X10_92 okX0_copyFrom (by decide) rfl rfl rfl rfl (Nat.le_of_ble_eq_true rfl) (Nat.le_of_ble_eq_true rfl) (by decide) rfl (c_copyFrom G Z 1 6 _ bk1 bk6 (by decide) (hg0.2 (by omega))) ?_
        rintro W1 ⟨hb1, hF1⟩
        refine nz_iconst (pc' := 43) (g_d dtbX10_from_0 23 rfl) rfl ?_
        refine nz_ri .int (g_d dtbX10_from_0 24 rfl) rfl rfl ?_
        rw [show xFrom A 0 = (1, sF A (r108 A.2.1.2 A.1)) from by unfold xFrom; rw [if_pos rfl, if_neg (by omega)]]
        exact ⟨rfl, hC.book (hb1.ext (fun j hj => r108_at hj)) hF1, FM.rf.b (by decide) hF1⟩
      · refine cz_aload_n (pc' := 26) (g_d dtbX10_from_0 14 rfl) rfl rfl ?_
        refine nz_cVi (M' := mX10_refuseNo) (k := 0) (As := []) (S := []) (L := [some (.ref 0), some (iv 0)]) (pc' := 29) (g_d dtbX10_from_0 15 rfl) lk_X10_105 okX10_refuseNo (by decide) rfl rfl rfl rfl (Nat.le_of_ble_eq_true rfl) (Nat.le_of_ble_eq_true rfl) (by decide) rfl (c_refuseNo G Z) ?_
        rintro _ _ ⟨rfl, rfl⟩
        refine nz_ri .int (g_d dtbX10_from_0 16 rfl) rfl rfl ?_
        rw [show xFrom A 0 = (-3, aNo A) from by unfold xFrom; rw [if_pos rfl, if_pos (by omega)]]
        exact ⟨rfl, cs_no hC, (FM.u FM.rf (by decide))⟩
    · refine cz_aload_n (pc' := 17) (g_d dtbX10_from_0 9 rfl) rfl rfl ?_
      refine nz_getf (v := .ref 16) (pc' := 20) (g_d dtbX10_from_0 10 rfl) gf_X10_22 (by decide) rfl rfl rfl ?_
      refine cz_iload_n (pc' := 21) (g_d dtbX10_from_0 11 rfl) rfl rfl ?_
      refine nz_zald 1 (pc' := 22) (g_d dtbX10_from_0 12 rfl) (by decide) rfl (by omega) (by rfl) (by omega) rfl ?_
      rw [show Z 16 1 = A.2.2.1.1 from hg1.1]
      refine nz_if_ne (tgt := 30) (pc' := 25) (g_d dtbX10_from_0 13 rfl) (by omega) rfl rfl (fun h22 => ?_) (fun h22 => ?_)
      · refine cz_aload_n (pc' := 31) (g_d dtbX10_from_0 17 rfl) rfl rfl ?_
        refine nz_getf (v := .ref 1) (pc' := 34) (g_d dtbX10_from_0 18 rfl) gf_X10_10 (by decide) rfl rfl rfl ?_
        refine cz_aload_n (pc' := 35) (g_d dtbX10_from_0 19 rfl) rfl rfl ?_
        refine cz_iload_n (pc' := 36) (g_d dtbX10_from_0 20 rfl) rfl rfl ?_
        refine nz_cVr (M' := mX10_imageAt) (k := 0) (As := [iv 1]) (S := [.ref 1]) (L := [some (.ref 0), some (iv 1)]) (pc' := 39) (g_d dtbX10_from_0 21 rfl) lk_X10_223 okX10_imageAt (by decide) rfl rfl rfl rfl (Nat.le_of_ble_eq_true rfl) (Nat.le_of_ble_eq_true rfl) (by decide) rfl (c_imageAt1 G Z) ?_
        rintro _ _ ⟨rfl, rfl⟩
        refine nz_cVv (M' := mX0_copyFrom) (k := 1) (As := [.ref 11]) (S := []) (L := [some (.ref 0), some (iv 1)]) (pc' := 42) (g_d dtbX10_from_0 22 rfl) lk_X10_92 okX0_copyFrom (by decide) rfl rfl rfl rfl (Nat.le_of_ble_eq_true rfl) (Nat.le_of_ble_eq_true rfl) (by decide) rfl (c_copyFrom G Z 1 11 _ bk1 bk11 (by decide) (hg1.2 (by omega))) ?_
        rintro W1 ⟨hb1, hF1⟩
        refine nz_iconst (pc' := 43) (g_d dtbX10_from_0 23 rfl) rfl ?_
        refine nz_ri .int (g_d dtbX10_from_0 24 rfl) rfl rfl ?_
        rw [show xFrom A 1 = (1, sF A (r108 A.2.2.1.2 A.1)) from by unfold xFrom; rw [if_neg (by decide), if_pos rfl, if_neg (by omega)]]
        exact ⟨rfl, hC.book (hb1.ext (fun j hj => r108_at hj)) hF1, FM.rf.b (by decide) hF1⟩
      · refine cz_aload_n (pc' := 26) (g_d dtbX10_from_0 14 rfl) rfl rfl ?_
        refine nz_cVi (M' := mX10_refuseNo) (k := 0) (As := []) (S := []) (L := [some (.ref 0), some (iv 1)]) (pc' := 29) (g_d dtbX10_from_0 15 rfl) lk_X10_105 okX10_refuseNo (by decide) rfl rfl rfl rfl (Nat.le_of_ble_eq_true rfl) (Nat.le_of_ble_eq_true rfl) (by decide) rfl (c_refuseNo G Z) ?_
        rintro _ _ ⟨rfl, rfl⟩
        refine nz_ri .int (g_d dtbX10_from_0 16 rfl) rfl rfl ?_
        rw [show xFrom A 1 = (-3, aNo A) from by unfold xFrom; rw [if_neg (by decide), if_pos rfl, if_pos (by omega)]]
        exact ⟨rfl, cs_no hC, (FM.u FM.rf (by decide))⟩
  · refine nz_if_ne_f (pc' := 9) (g_d dtbX10_from_0 4 rfl) (by omega) (by decide) rfl (by omega) ?_
    refine cz_aload_n (pc' := 10) (g_d dtbX10_from_0 5 rfl) rfl rfl ?_
    refine nz_bipush (pc' := 12) (g_d dtbX10_from_0 6 rfl) (by decide) rfl ?_
    refine nz_cVi (M' := mX10_refuseBad) (k := 0) (As := [iv (-2)]) (S := []) (L := [some (.ref 0), some (iv (i))]) (pc' := 15) (g_d dtbX10_from_0 7 rfl) lk_X10_57 okX10_refuseBad (by decide) rfl rfl rfl rfl (Nat.le_of_ble_eq_true rfl) (Nat.le_of_ble_eq_true rfl) (by decide) rfl (c_refuseBad G Z (-2)) ?_
    rintro _ _ ⟨rfl, rfl⟩
    refine nz_ri .int (g_d dtbX10_from_0 8 rfl) rfl rfl ?_
    rw [show xFrom A i = (-2, aBad A) from by unfold xFrom; rw [if_neg (by omega), if_neg (by omega)]]
    exact ⟨rfl, cs_bad hC, (FM.u FM.rf (by decide))⟩
