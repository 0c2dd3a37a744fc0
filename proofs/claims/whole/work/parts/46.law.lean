/-! the law's calls -/
def mLw (nm : String) : MD := (⟨RL, nm, "([I)Z"⟩, cL_law, 4, some .boolean, 8, 171)
def gX (G : Wd) (j : Nat) : Int := (g_x G j).toInt
theorem gX_in (G : Wd) (j : Nat) : -2147483648 ≤ gX G j ∧ gX G j ≤ 2147483647 := by
  have h1 := Int32.le_toInt (g_x G j)
  have h2 := Int32.toInt_lt (g_x G j)
  unfold gX
  omega
section
variable {G : Wd} {M : MD} {pc pc' : Nat} {L : List (Option Value)} {S : List Value} {Z : ZS} {Q : Option Value → ZS → Prop}
theorem nz_sld {a : Int} (j : Nat) (hd : decode M.2.1 pc = .ok (.iaload, 1)) (hj : a = (j : Int)) (hn : j < g_L G) (hL : g_L G ≤ 384) (hp : pc + 1 = pc') (h : Cn G M pc' L (iv (gX G j) :: S) Z Q) : Cn G M pc L (iv a :: .ref 1000 :: S) Z Q :=
  cz_sld hd (by rw [t32 (by omega)]; exact hj) hn hp (by
    have e : (iv (gX G j) : Value) = .int (g_x G j) := congrArg Value.int (o32 (g_x G j))
    rw [← e]; exact h)
theorem nz_slen (hd : decode M.2.1 pc = .ok (.arraylength, 1)) (hp : pc + 1 = pc') (h : Cn G M pc' L (iv (g_L G : Int) :: S) Z Q) : Cn G M pc L (.ref 1000 :: S) Z Q := cz_slen hd hp h
theorem nz_same {a off : Int} {tgt : Nat} (hd : decode M.2.1 pc = .ok (.if_icmp .eq off, 3)) (ht : (pc : Int) + off = (tgt : Int)) (h : Cn G M tgt L S Z Q) : Cn G M pc L (iv a :: iv a :: S) Z Q := cz_icmp_eq hd ht rfl (fun _ => h) (fun q => absurd rfl q)
theorem nz_lsame {a : Int} (hd : decode M.2.1 pc = .ok (.lcmp, 1)) (hp : pc + 1 = pc') (h : Cn G M pc' L (iv 0 :: S) Z Q) : Cn G M pc L (il a :: il a :: S) Z Q := cz_lcmp hd hp (by
  have e : lg_cmp (Int64.ofInt a) (Int64.ofInt a) = Int32.ofInt 0 := by
    unfold lg_cmp
    have h1 : ¬ (Int64.ofInt a > Int64.ofInt a) := Int64.lt_irrefl
    rw [if_neg h1, if_pos rfl]; rfl
  rw [e]; exact h)
theorem nz_and63 {a : Int} (hd : decode M.2.1 pc = .ok (.iand, 1)) (hp : pc + 1 = pc') (h : ∀ c : Int, 0 ≤ c ∧ c ≤ 63 → Cn G M pc' L (iv c :: S) Z Q) : Cn G M pc L (iv 63 :: iv a :: S) Z Q := cz_iand hd hp (by
  obtain ⟨j, hj, e⟩ := pk_andE (Int32.ofInt a) (m := Int32.ofInt 63) 6 (by decide)
  rw [e]
  exact h (j : Int) (by omega))
end

set_option maxRecDepth 20000 in
set_option maxHeartbeats 4000000 in
theorem lw_0 (G : Wd) (nm : String) (Z : ZS) (A : AS) (B : Int) (hC : CS Z A) (hM : MS Z A) (hA : AO B A) (hbb : B + 700000 ≤ 60000000) (hL : g_L G ≤ 384) (i : Nat) (hi : i + 6 ≤ g_L G) (Q : Option Value → ZS → Prop) (hk : ∀ (W : ZS) (A2 : AS), CS W A2 → MS W A2 → AO (B + 700000) A2 → Cn G (mLw nm) 981 [some (.ref 1000), some (.ref 0), some (.ref 34), some (iv (i : Int))] [] W Q) : Cn G (mLw nm) 180 [some (.ref 1000), some (.ref 0), some (.ref 34), some (iv (i : Int))] [] Z Q := by
  refine cz_aload_n (pc' := 181) (g_d dtbL_law_0 22 rfl) rfl rfl ?_
  refine cz_aload_n (pc' := 182) (g_d dtbL_law_0 23 rfl) rfl rfl ?_
  refine cz_iload_n (pc' := 183) (g_d dtbL_law_0 24 rfl) rfl rfl ?_
  refine nz_iconst (pc' := 184) (g_d dtbL_law_0 25 rfl) rfl ?_
  refine nz_iadd (pc' := 185) (g_d dtbL_law_0 26 rfl) rfl ?_
  refine nz_sld ((i) + 1) (pc' := 186) (g_d dtbL_law_0 27 rfl) (by omega) (by omega) hL rfl ?_
  refine nz_cVi (M' := mX10_account) (k := 0) (As := [iv (gX G ((i) + 1))]) (S := []) (L := [some (.ref 1000), some (.ref 0), some (.ref 34), some (iv ((i : Int)))]) (pc' := 189) (g_d dtbL_law_0 28 rfl) lk_L_13 okX10_account (by decide) rfl rfl rfl rfl (Nat.le_of_ble_eq_true rfl) (Nat.le_of_ble_eq_true rfl) ⟨Nat.le_of_ble_eq_true rfl, Nat.le_of_ble_eq_true rfl⟩ rfl (a_account G Z A B hC hA (gX G ((i) + 1)) (gX_in _ _)) ?_
  rintro _ W1 ⟨rfl, hC1, hf1⟩
  refine cz_aload_n (pc' := 190) (g_d dtbL_law_0 29 rfl) rfl rfl ?_
  refine cz_aload_n (pc' := 191) (g_d dtbL_law_0 30 rfl) rfl rfl ?_
  refine cz_iload_n (pc' := 192) (g_d dtbL_law_0 31 rfl) rfl rfl ?_
  refine nz_iconst (pc' := 193) (g_d dtbL_law_0 32 rfl) rfl ?_
  refine nz_iadd (pc' := 194) (g_d dtbL_law_0 33 rfl) rfl ?_
  refine nz_sld ((i) + 1) (pc' := 195) (g_d dtbL_law_0 34 rfl) (by omega) (by omega) hL rfl ?_
  refine nz_cVi (M' := mX11_account) (k := 34) (As := [iv (gX G ((i) + 1))]) (S := [iv ((xAccount A (gX G ((i) + 1))).1)]) (L := [some (.ref 1000), some (.ref 0), some (.ref 34), some (iv ((i : Int)))]) (pc' := 198) (g_d dtbL_law_0 35 rfl) lk_L_17 okX11_account (by decide) rfl rfl rfl rfl (Nat.le_of_ble_eq_true rfl) (Nat.le_of_ble_eq_true rfl) ⟨Nat.le_of_ble_eq_true rfl, Nat.le_of_ble_eq_true rfl⟩ rfl (b_account G W1 A B (hM.fm hf1) hA (gX G ((i) + 1)) (gX_in _ _)) ?_
  rintro _ W2 ⟨rfl, hM2, hg2⟩
  refine nz_same (tgt := 981) (g_d dtbL_law_0 36 rfl) rfl ?_
  exact hk W2 _ (hC1.fc hg2) hM2 (ao_Account hA hbb (gX G ((i) + 1)))

set_option maxRecDepth 20000 in
set_option maxHeartbeats 4000000 in
theorem lw_1 (G : Wd) (nm : String) (Z : ZS) (A : AS) (B : Int) (hC : CS Z A) (hM : MS Z A) (hA : AO B A) (hbb : B + 700000 ≤ 60000000) (hL : g_L G ≤ 384) (i : Nat) (hi : i + 6 ≤ g_L G) (Q : Option Value → ZS → Prop) (hk : ∀ (W : ZS) (A2 : AS), CS W A2 → MS W A2 → AO (B + 700000) A2 → Cn G (mLw nm) 981 [some (.ref 1000), some (.ref 0), some (.ref 34), some (iv (i : Int))] [] W Q) : Cn G (mLw nm) 203 [some (.ref 1000), some (.ref 0), some (.ref 34), some (iv (i : Int))] [] Z Q := by
  refine cz_aload_n (pc' := 204) (g_d dtbL_law_0 39 rfl) rfl rfl ?_
  refine cz_aload_n (pc' := 205) (g_d dtbL_law_0 40 rfl) rfl rfl ?_
  refine cz_iload_n (pc' := 206) (g_d dtbL_law_0 41 rfl) rfl rfl ?_
  refine nz_iconst (pc' := 207) (g_d dtbL_law_0 42 rfl) rfl ?_
  refine nz_iadd (pc' := 208) (g_d dtbL_law_0 43 rfl) rfl ?_
  refine nz_sld ((i) + 1) (pc' := 209) (g_d dtbL_law_0 44 rfl) (by omega) (by omega) hL rfl ?_
  refine cz_aload_n (pc' := 210) (g_d dtbL_law_0 45 rfl) rfl rfl ?_
  refine cz_iload_n (pc' := 211) (g_d dtbL_law_0 46 rfl) rfl rfl ?_
  refine nz_iconst (pc' := 212) (g_d dtbL_law_0 47 rfl) rfl ?_
  refine nz_iadd (pc' := 213) (g_d dtbL_law_0 48 rfl) rfl ?_
  refine nz_sld ((i) + 2) (pc' := 214) (g_d dtbL_law_0 49 rfl) (by omega) (by omega) hL rfl ?_
  refine cz_aload_n (pc' := 215) (g_d dtbL_law_0 50 rfl) rfl rfl ?_
  refine cz_iload_n (pc' := 216) (g_d dtbL_law_0 51 rfl) rfl rfl ?_
  refine nz_iconst (pc' := 217) (g_d dtbL_law_0 52 rfl) rfl ?_
  refine nz_iadd (pc' := 218) (g_d dtbL_law_0 53 rfl) rfl ?_
  refine nz_sld ((i) + 3) (pc' := 219) (g_d dtbL_law_0 54 rfl) (by omega) (by omega) hL rfl ?_
  refine nz_cVi (M' := mX10_bill) (k := 0) (As := [iv (gX G ((i) + 1)), iv (gX G ((i) + 2)), iv (gX G ((i) + 3))]) (S := []) (L := [some (.ref 1000), some (.ref 0), some (.ref 34), some (iv ((i : Int)))]) (pc' := 222) (g_d dtbL_law_0 55 rfl) lk_L_18 okX10_bill (by decide) rfl rfl rfl rfl (Nat.le_of_ble_eq_true rfl) (Nat.le_of_ble_eq_true rfl) ⟨Nat.le_of_ble_eq_true rfl, Nat.le_of_ble_eq_true rfl⟩ rfl (a_bill G Z A B hC hA (gX G ((i) + 1)) (gX G ((i) + 2)) (gX G ((i) + 3)) (gX_in _ _) (gX_in _ _) (gX_in _ _)) ?_
  rintro _ W1 ⟨rfl, hC1, hf1⟩
  refine cz_aload_n (pc' := 223) (g_d dtbL_law_0 56 rfl) rfl rfl ?_
  refine cz_aload_n (pc' := 224) (g_d dtbL_law_0 57 rfl) rfl rfl ?_
  refine cz_iload_n (pc' := 225) (g_d dtbL_law_0 58 rfl) rfl rfl ?_
  refine nz_iconst (pc' := 226) (g_d dtbL_law_0 59 rfl) rfl ?_
  refine nz_iadd (pc' := 227) (g_d dtbL_law_1 0 rfl) rfl ?_
  refine nz_sld ((i) + 1) (pc' := 228) (g_d dtbL_law_1 1 rfl) (by omega) (by omega) hL rfl ?_
  refine cz_aload_n (pc' := 229) (g_d dtbL_law_1 2 rfl) rfl rfl ?_
  refine cz_iload_n (pc' := 230) (g_d dtbL_law_1 3 rfl) rfl rfl ?_
  refine nz_iconst (pc' := 231) (g_d dtbL_law_1 4 rfl) rfl ?_
  refine nz_iadd (pc' := 232) (g_d dtbL_law_1 5 rfl) rfl ?_
  refine nz_sld ((i) + 2) (pc' := 233) (g_d dtbL_law_1 6 rfl) (by omega) (by omega) hL rfl ?_
  refine cz_aload_n (pc' := 234) (g_d dtbL_law_1 7 rfl) rfl rfl ?_
  refine cz_iload_n (pc' := 235) (g_d dtbL_law_1 8 rfl) rfl rfl ?_
  refine nz_iconst (pc' := 236) (g_d dtbL_law_1 9 rfl) rfl ?_
  refine nz_iadd (pc' := 237) (g_d dtbL_law_1 10 rfl) rfl ?_
  refine nz_sld ((i) + 3) (pc' := 238) (g_d dtbL_law_1 11 rfl) (by omega) (by omega) hL rfl ?_
  refine nz_cVi (M' := mX11_bill) (k := 34) (As := [iv (gX G ((i) + 1)), iv (gX G ((i) + 2)), iv (gX G ((i) + 3))]) (S := [iv ((xBill A (gX G ((i) + 1)) (gX G ((i) + 2)) (gX G ((i) + 3))).1)]) (L := [some (.ref 1000), some (.ref 0), some (.ref 34), some (iv ((i : Int)))]) (pc' := 241) (g_d dtbL_law_1 12 rfl) lk_L_22 okX11_bill (by decide) rfl rfl rfl rfl (Nat.le_of_ble_eq_true rfl) (Nat.le_of_ble_eq_true rfl) ⟨Nat.le_of_ble_eq_true rfl, Nat.le_of_ble_eq_true rfl⟩ rfl (b_bill G W1 A B (hM.fm hf1) hA (gX G ((i) + 1)) (gX G ((i) + 2)) (gX G ((i) + 3)) (gX_in _ _) (gX_in _ _) (gX_in _ _)) ?_
  rintro _ W2 ⟨rfl, hM2, hg2⟩
  refine nz_same (tgt := 981) (g_d dtbL_law_1 13 rfl) rfl ?_
  exact hk W2 _ (hC1.fc hg2) hM2 (ao_Bill hA hbb (gX G ((i) + 1)) (gX G ((i) + 2)) (gX G ((i) + 3)))

set_option maxRecDepth 20000 in
set_option maxHeartbeats 4000000 in
theorem lw_2 (G : Wd) (nm : String) (Z : ZS) (A : AS) (B : Int) (hC : CS Z A) (hM : MS Z A) (hA : AO B A) (hbb : B + 700000 ≤ 60000000) (hL : g_L G ≤ 384) (i : Nat) (hi : i + 6 ≤ g_L G) (Q : Option Value → ZS → Prop) (hk : ∀ (W : ZS) (A2 : AS), CS W A2 → MS W A2 → AO (B + 700000) A2 → Cn G (mLw nm) 981 [some (.ref 1000), some (.ref 0), some (.ref 34), some (iv (i : Int))] [] W Q) : Cn G (mLw nm) 246 [some (.ref 1000), some (.ref 0), some (.ref 34), some (iv (i : Int))] [] Z Q := by
  refine cz_aload_n (pc' := 247) (g_d dtbL_law_1 16 rfl) rfl rfl ?_
  refine cz_aload_n (pc' := 248) (g_d dtbL_law_1 17 rfl) rfl rfl ?_
  refine cz_iload_n (pc' := 249) (g_d dtbL_law_1 18 rfl) rfl rfl ?_
  refine nz_iconst (pc' := 250) (g_d dtbL_law_1 19 rfl) rfl ?_
  refine nz_iadd (pc' := 251) (g_d dtbL_law_1 20 rfl) rfl ?_
  refine nz_sld ((i) + 1) (pc' := 252) (g_d dtbL_law_1 21 rfl) (by omega) (by omega) hL rfl ?_
  refine nz_cVi (M' := mX10_type) (k := 0) (As := [iv (gX G ((i) + 1))]) (S := []) (L := [some (.ref 1000), some (.ref 0), some (.ref 34), some (iv ((i : Int)))]) (pc' := 255) (g_d dtbL_law_1 22 rfl) lk_L_23 okX10_type (by decide) rfl rfl rfl rfl (Nat.le_of_ble_eq_true rfl) (Nat.le_of_ble_eq_true rfl) ⟨Nat.le_of_ble_eq_true rfl, Nat.le_of_ble_eq_true rfl⟩ rfl (a_type G Z A B hC hA (gX G ((i) + 1)) (gX_in _ _)) ?_
  rintro _ W1 ⟨rfl, hC1, hf1⟩
  refine cz_aload_n (pc' := 256) (g_d dtbL_law_1 23 rfl) rfl rfl ?_
  refine cz_aload_n (pc' := 257) (g_d dtbL_law_1 24 rfl) rfl rfl ?_
  refine cz_iload_n (pc' := 258) (g_d dtbL_law_1 25 rfl) rfl rfl ?_
  refine nz_iconst (pc' := 259) (g_d dtbL_law_1 26 rfl) rfl ?_
  refine nz_iadd (pc' := 260) (g_d dtbL_law_1 27 rfl) rfl ?_
  refine nz_sld ((i) + 1) (pc' := 261) (g_d dtbL_law_1 28 rfl) (by omega) (by omega) hL rfl ?_
  refine nz_cVi (M' := mX11_type) (k := 34) (As := [iv (gX G ((i) + 1))]) (S := [iv ((xType A (gX G ((i) + 1))).1)]) (L := [some (.ref 1000), some (.ref 0), some (.ref 34), some (iv ((i : Int)))]) (pc' := 264) (g_d dtbL_law_1 29 rfl) lk_L_26 okX11_type (by decide) rfl rfl rfl rfl (Nat.le_of_ble_eq_true rfl) (Nat.le_of_ble_eq_true rfl) ⟨Nat.le_of_ble_eq_true rfl, Nat.le_of_ble_eq_true rfl⟩ rfl (b_type G W1 A B (hM.fm hf1) hA (gX G ((i) + 1)) (gX_in _ _)) ?_
  rintro _ W2 ⟨rfl, hM2, hg2⟩
  refine nz_same (tgt := 981) (g_d dtbL_law_1 30 rfl) rfl ?_
  exact hk W2 _ (hC1.fc hg2) hM2 (ao_Type hA hbb (gX G ((i) + 1)))

set_option maxRecDepth 20000 in
set_option maxHeartbeats 4000000 in
theorem lw_3 (G : Wd) (nm : String) (Z : ZS) (A : AS) (B : Int) (hC : CS Z A) (hM : MS Z A) (hA : AO B A) (hbb : B + 700000 ≤ 60000000) (hL : g_L G ≤ 384) (i : Nat) (hi : i + 6 ≤ g_L G) (Q : Option Value → ZS → Prop) (hk : ∀ (W : ZS) (A2 : AS), CS W A2 → MS W A2 → AO (B + 700000) A2 → Cn G (mLw nm) 981 [some (.ref 1000), some (.ref 0), some (.ref 34), some (iv (i : Int))] [] W Q) : Cn G (mLw nm) 269 [some (.ref 1000), some (.ref 0), some (.ref 34), some (iv (i : Int))] [] Z Q := by
  refine cz_aload_n (pc' := 270) (g_d dtbL_law_1 33 rfl) rfl rfl ?_
  refine nz_cVi (M' := mX10_clear) (k := 0) (As := []) (S := []) (L := [some (.ref 1000), some (.ref 0), some (.ref 34), some (iv ((i : Int)))]) (pc' := 273) (g_d dtbL_law_1 34 rfl) lk_L_27 okX10_clear (by decide) rfl rfl rfl rfl (Nat.le_of_ble_eq_true rfl) (Nat.le_of_ble_eq_true rfl) ⟨Nat.le_of_ble_eq_true rfl, Nat.le_of_ble_eq_true rfl⟩ rfl (a_clear G Z A B hC hA) ?_
  rintro _ W1 ⟨rfl, hC1, hf1⟩
  refine cz_aload_n (pc' := 274) (g_d dtbL_law_1 35 rfl) rfl rfl ?_
  refine nz_cVi (M' := mX11_clear) (k := 34) (As := []) (S := [iv ((xClear A).1)]) (L := [some (.ref 1000), some (.ref 0), some (.ref 34), some (iv ((i : Int)))]) (pc' := 277) (g_d dtbL_law_1 36 rfl) lk_L_31 okX11_clear (by decide) rfl rfl rfl rfl (Nat.le_of_ble_eq_true rfl) (Nat.le_of_ble_eq_true rfl) ⟨Nat.le_of_ble_eq_true rfl, Nat.le_of_ble_eq_true rfl⟩ rfl (b_clear G W1 A B (hM.fm hf1) hA) ?_
  rintro _ W2 ⟨rfl, hM2, hg2⟩
  refine nz_same (tgt := 981) (g_d dtbL_law_1 37 rfl) rfl ?_
  exact hk W2 _ (hC1.fc hg2) hM2 (ao_Clear hA hbb)

set_option maxRecDepth 20000 in
set_option maxHeartbeats 4000000 in
theorem lw_4 (G : Wd) (nm : String) (Z : ZS) (A : AS) (B : Int) (hC : CS Z A) (hM : MS Z A) (hA : AO B A) (hbb : B + 700000 ≤ 60000000) (hL : g_L G ≤ 384) (i : Nat) (hi : i + 6 ≤ g_L G) (Q : Option Value → ZS → Prop) (hk : ∀ (W : ZS) (A2 : AS), CS W A2 → MS W A2 → AO (B + 700000) A2 → Cn G (mLw nm) 981 [some (.ref 1000), some (.ref 0), some (.ref 34), some (iv (i : Int))] [] W Q) : Cn G (mLw nm) 282 [some (.ref 1000), some (.ref 0), some (.ref 34), some (iv (i : Int))] [] Z Q := by
  refine cz_aload_n (pc' := 283) (g_d dtbL_law_1 40 rfl) rfl rfl ?_
  refine nz_cVi (M' := mX10_read) (k := 0) (As := []) (S := []) (L := [some (.ref 1000), some (.ref 0), some (.ref 34), some (iv ((i : Int)))]) (pc' := 286) (g_d dtbL_law_1 41 rfl) lk_L_32 okX10_read (by decide) rfl rfl rfl rfl (Nat.le_of_ble_eq_true rfl) (Nat.le_of_ble_eq_true rfl) ⟨Nat.le_of_ble_eq_true rfl, Nat.le_of_ble_eq_true rfl⟩ rfl (a_read G Z A B hC hA) ?_
  rintro _ W1 ⟨rfl, hC1, hf1⟩
  refine cz_aload_n (pc' := 287) (g_d dtbL_law_1 42 rfl) rfl rfl ?_
  refine nz_cVi (M' := mX11_read) (k := 34) (As := []) (S := [iv ((xRead A).1)]) (L := [some (.ref 1000), some (.ref 0), some (.ref 34), some (iv ((i : Int)))]) (pc' := 290) (g_d dtbL_law_1 43 rfl) lk_L_35 okX11_read (by decide) rfl rfl rfl rfl (Nat.le_of_ble_eq_true rfl) (Nat.le_of_ble_eq_true rfl) ⟨Nat.le_of_ble_eq_true rfl, Nat.le_of_ble_eq_true rfl⟩ rfl (b_read G W1 A B (hM.fm hf1) hA) ?_
  rintro _ W2 ⟨rfl, hM2, hg2⟩
  refine nz_same (tgt := 981) (g_d dtbL_law_1 44 rfl) rfl ?_
  exact hk W2 _ (hC1.fc hg2) hM2 (ao_Read hA hbb)

set_option maxRecDepth 20000 in
set_option maxHeartbeats 4000000 in
theorem lw_5 (G : Wd) (nm : String) (Z : ZS) (A : AS) (B : Int) (hC : CS Z A) (hM : MS Z A) (hA : AO B A) (hbb : B + 700000 ≤ 60000000) (hL : g_L G ≤ 384) (i : Nat) (hi : i + 6 ≤ g_L G) (Q : Option Value → ZS → Prop) (hk : ∀ (W : ZS) (A2 : AS), CS W A2 → MS W A2 → AO (B + 700000) A2 → Cn G (mLw nm) 981 [some (.ref 1000), some (.ref 0), some (.ref 34), some (iv (i : Int))] [] W Q) : Cn G (mLw nm) 295 [some (.ref 1000), some (.ref 0), some (.ref 34), some (iv (i : Int))] [] Z Q := by
  refine cz_aload_n (pc' := 296) (g_d dtbL_law_1 47 rfl) rfl rfl ?_
  refine cz_aload_n (pc' := 297) (g_d dtbL_law_1 48 rfl) rfl rfl ?_
  refine cz_iload_n (pc' := 298) (g_d dtbL_law_1 49 rfl) rfl rfl ?_
  refine nz_iconst (pc' := 299) (g_d dtbL_law_1 50 rfl) rfl ?_
  refine nz_iadd (pc' := 300) (g_d dtbL_law_1 51 rfl) rfl ?_
  refine nz_sld ((i) + 1) (pc' := 301) (g_d dtbL_law_1 52 rfl) (by omega) (by omega) hL rfl ?_
  refine nz_cVi (M' := mX10_days) (k := 0) (As := [iv (gX G ((i) + 1))]) (S := []) (L := [some (.ref 1000), some (.ref 0), some (.ref 34), some (iv ((i : Int)))]) (pc' := 304) (g_d dtbL_law_1 53 rfl) lk_L_36 okX10_days (by decide) rfl rfl rfl rfl (Nat.le_of_ble_eq_true rfl) (Nat.le_of_ble_eq_true rfl) ⟨Nat.le_of_ble_eq_true rfl, Nat.le_of_ble_eq_true rfl⟩ rfl (a_days G Z A B hC hA (gX G ((i) + 1)) (gX_in _ _) hbb) ?_
  rintro _ W1 ⟨rfl, hC1, hf1⟩
  refine cz_aload_n (pc' := 305) (g_d dtbL_law_1 54 rfl) rfl rfl ?_
  refine cz_aload_n (pc' := 306) (g_d dtbL_law_1 55 rfl) rfl rfl ?_
  refine cz_iload_n (pc' := 307) (g_d dtbL_law_1 56 rfl) rfl rfl ?_
  refine nz_iconst (pc' := 308) (g_d dtbL_law_1 57 rfl) rfl ?_
  refine nz_iadd (pc' := 309) (g_d dtbL_law_1 58 rfl) rfl ?_
  refine nz_sld ((i) + 1) (pc' := 310) (g_d dtbL_law_1 59 rfl) (by omega) (by omega) hL rfl ?_
  refine nz_cVi (M' := mX11_days) (k := 34) (As := [iv (gX G ((i) + 1))]) (S := [iv ((xDays A (gX G ((i) + 1))).1)]) (L := [some (.ref 1000), some (.ref 0), some (.ref 34), some (iv ((i : Int)))]) (pc' := 313) (g_d dtbL_law_2 0 rfl) lk_L_39 okX11_days (by decide) rfl rfl rfl rfl (Nat.le_of_ble_eq_true rfl) (Nat.le_of_ble_eq_true rfl) ⟨Nat.le_of_ble_eq_true rfl, Nat.le_of_ble_eq_true rfl⟩ rfl (b_days G W1 A B (hM.fm hf1) hA (gX G ((i) + 1)) (gX_in _ _) hbb) ?_
  rintro _ W2 ⟨rfl, hM2, hg2⟩
  refine nz_same (tgt := 981) (g_d dtbL_law_2 1 rfl) rfl ?_
  exact hk W2 _ (hC1.fc hg2) hM2 (ao_Days hA hbb (gX G ((i) + 1)))

set_option maxRecDepth 20000 in
set_option maxHeartbeats 4000000 in
theorem lw_6 (G : Wd) (nm : String) (Z : ZS) (A : AS) (B : Int) (hC : CS Z A) (hM : MS Z A) (hA : AO B A) (hbb : B + 700000 ≤ 60000000) (hL : g_L G ≤ 384) (i : Nat) (hi : i + 6 ≤ g_L G) (Q : Option Value → ZS → Prop) (hk : ∀ (W : ZS) (A2 : AS), CS W A2 → MS W A2 → AO (B + 700000) A2 → Cn G (mLw nm) 981 [some (.ref 1000), some (.ref 0), some (.ref 34), some (iv (i : Int))] [] W Q) : Cn G (mLw nm) 318 [some (.ref 1000), some (.ref 0), some (.ref 34), some (iv (i : Int))] [] Z Q := by
  refine cz_aload_n (pc' := 319) (g_d dtbL_law_2 4 rfl) rfl rfl ?_
  refine cz_aload_n (pc' := 320) (g_d dtbL_law_2 5 rfl) rfl rfl ?_
  refine cz_iload_n (pc' := 321) (g_d dtbL_law_2 6 rfl) rfl rfl ?_
  refine nz_iconst (pc' := 322) (g_d dtbL_law_2 7 rfl) rfl ?_
  refine nz_iadd (pc' := 323) (g_d dtbL_law_2 8 rfl) rfl ?_
  refine nz_sld ((i) + 1) (pc' := 324) (g_d dtbL_law_2 9 rfl) (by omega) (by omega) hL rfl ?_
  refine nz_cVi (M' := mX10_spend) (k := 0) (As := [iv (gX G ((i) + 1))]) (S := []) (L := [some (.ref 1000), some (.ref 0), some (.ref 34), some (iv ((i : Int)))]) (pc' := 327) (g_d dtbL_law_2 10 rfl) lk_L_40 okX10_spend (by decide) rfl rfl rfl rfl (Nat.le_of_ble_eq_true rfl) (Nat.le_of_ble_eq_true rfl) ⟨Nat.le_of_ble_eq_true rfl, Nat.le_of_ble_eq_true rfl⟩ rfl (a_spend G Z A B hC hA (gX G ((i) + 1)) (gX_in _ _)) ?_
  rintro _ W1 ⟨rfl, hC1, hf1⟩
  refine cz_aload_n (pc' := 328) (g_d dtbL_law_2 11 rfl) rfl rfl ?_
  refine cz_aload_n (pc' := 329) (g_d dtbL_law_2 12 rfl) rfl rfl ?_
  refine cz_iload_n (pc' := 330) (g_d dtbL_law_2 13 rfl) rfl rfl ?_
  refine nz_iconst (pc' := 331) (g_d dtbL_law_2 14 rfl) rfl ?_
  refine nz_iadd (pc' := 332) (g_d dtbL_law_2 15 rfl) rfl ?_
  refine nz_sld ((i) + 1) (pc' := 333) (g_d dtbL_law_2 16 rfl) (by omega) (by omega) hL rfl ?_
  refine nz_cVi (M' := mX11_spend) (k := 34) (As := [iv (gX G ((i) + 1))]) (S := [iv ((xSpend A (gX G ((i) + 1))).1)]) (L := [some (.ref 1000), some (.ref 0), some (.ref 34), some (iv ((i : Int)))]) (pc' := 336) (g_d dtbL_law_2 17 rfl) lk_L_43 okX11_spend (by decide) rfl rfl rfl rfl (Nat.le_of_ble_eq_true rfl) (Nat.le_of_ble_eq_true rfl) ⟨Nat.le_of_ble_eq_true rfl, Nat.le_of_ble_eq_true rfl⟩ rfl (b_spend G W1 A B (hM.fm hf1) hA (gX G ((i) + 1)) (gX_in _ _)) ?_
  rintro _ W2 ⟨rfl, hM2, hg2⟩
  refine nz_same (tgt := 981) (g_d dtbL_law_2 18 rfl) rfl ?_
  exact hk W2 _ (hC1.fc hg2) hM2 (ao_Spend hA hbb (gX G ((i) + 1)))

set_option maxRecDepth 20000 in
set_option maxHeartbeats 4000000 in
theorem lw_7 (G : Wd) (nm : String) (Z : ZS) (A : AS) (B : Int) (hC : CS Z A) (hM : MS Z A) (hA : AO B A) (hbb : B + 700000 ≤ 60000000) (hL : g_L G ≤ 384) (i : Nat) (hi : i + 6 ≤ g_L G) (Q : Option Value → ZS → Prop) (hk : ∀ (W : ZS) (A2 : AS), CS W A2 → MS W A2 → AO (B + 700000) A2 → Cn G (mLw nm) 981 [some (.ref 1000), some (.ref 0), some (.ref 34), some (iv (i : Int))] [] W Q) : Cn G (mLw nm) 341 [some (.ref 1000), some (.ref 0), some (.ref 34), some (iv (i : Int))] [] Z Q := by
  refine cz_aload_n (pc' := 342) (g_d dtbL_law_2 21 rfl) rfl rfl ?_
  refine cz_aload_n (pc' := 343) (g_d dtbL_law_2 22 rfl) rfl rfl ?_
  refine cz_iload_n (pc' := 344) (g_d dtbL_law_2 23 rfl) rfl rfl ?_
  refine nz_iconst (pc' := 345) (g_d dtbL_law_2 24 rfl) rfl ?_
  refine nz_iadd (pc' := 346) (g_d dtbL_law_2 25 rfl) rfl ?_
  refine nz_sld ((i) + 1) (pc' := 347) (g_d dtbL_law_2 26 rfl) (by omega) (by omega) hL rfl ?_
  refine nz_cVi (M' := mX10_jar) (k := 0) (As := [iv (gX G ((i) + 1))]) (S := []) (L := [some (.ref 1000), some (.ref 0), some (.ref 34), some (iv ((i : Int)))]) (pc' := 350) (g_d dtbL_law_2 27 rfl) lk_L_44 okX10_jar (by decide) rfl rfl rfl rfl (Nat.le_of_ble_eq_true rfl) (Nat.le_of_ble_eq_true rfl) ⟨Nat.le_of_ble_eq_true rfl, Nat.le_of_ble_eq_true rfl⟩ rfl (a_jar G Z A B hC hA (gX G ((i) + 1)) (gX_in _ _)) ?_
  rintro _ W1 ⟨rfl, hC1, hf1⟩
  refine cz_aload_n (pc' := 351) (g_d dtbL_law_2 28 rfl) rfl rfl ?_
  refine cz_aload_n (pc' := 352) (g_d dtbL_law_2 29 rfl) rfl rfl ?_
  refine cz_iload_n (pc' := 353) (g_d dtbL_law_2 30 rfl) rfl rfl ?_
  refine nz_iconst (pc' := 354) (g_d dtbL_law_2 31 rfl) rfl ?_
  refine nz_iadd (pc' := 355) (g_d dtbL_law_2 32 rfl) rfl ?_
  refine nz_sld ((i) + 1) (pc' := 356) (g_d dtbL_law_2 33 rfl) (by omega) (by omega) hL rfl ?_
  refine nz_cVi (M' := mX11_jar) (k := 34) (As := [iv (gX G ((i) + 1))]) (S := [iv ((xJar A (gX G ((i) + 1))).1)]) (L := [some (.ref 1000), some (.ref 0), some (.ref 34), some (iv ((i : Int)))]) (pc' := 359) (g_d dtbL_law_2 34 rfl) lk_L_47 okX11_jar (by decide) rfl rfl rfl rfl (Nat.le_of_ble_eq_true rfl) (Nat.le_of_ble_eq_true rfl) ⟨Nat.le_of_ble_eq_true rfl, Nat.le_of_ble_eq_true rfl⟩ rfl (b_jar G W1 A B (hM.fm hf1) hA (gX G ((i) + 1)) (gX_in _ _)) ?_
  rintro _ W2 ⟨rfl, hM2, hg2⟩
  refine nz_same (tgt := 981) (g_d dtbL_law_2 35 rfl) rfl ?_
  exact hk W2 _ (hC1.fc hg2) hM2 (ao_Jar hA hbb (gX G ((i) + 1)))

set_option maxRecDepth 20000 in
set_option maxHeartbeats 4000000 in
theorem lw_8 (G : Wd) (nm : String) (Z : ZS) (A : AS) (B : Int) (hC : CS Z A) (hM : MS Z A) (hA : AO B A) (hbb : B + 700000 ≤ 60000000) (hL : g_L G ≤ 384) (i : Nat) (hi : i + 6 ≤ g_L G) (Q : Option Value → ZS → Prop) (hk : ∀ (W : ZS) (A2 : AS), CS W A2 → MS W A2 → AO (B + 700000) A2 → Cn G (mLw nm) 981 [some (.ref 1000), some (.ref 0), some (.ref 34), some (iv (i : Int))] [] W Q) : Cn G (mLw nm) 364 [some (.ref 1000), some (.ref 0), some (.ref 34), some (iv (i : Int))] [] Z Q := by
  refine cz_aload_n (pc' := 365) (g_d dtbL_law_2 38 rfl) rfl rfl ?_
  refine nz_cVi (M' := mX10_undo) (k := 0) (As := []) (S := []) (L := [some (.ref 1000), some (.ref 0), some (.ref 34), some (iv ((i : Int)))]) (pc' := 368) (g_d dtbL_law_2 39 rfl) lk_L_48 okX10_undo (by decide) rfl rfl rfl rfl (Nat.le_of_ble_eq_true rfl) (Nat.le_of_ble_eq_true rfl) ⟨Nat.le_of_ble_eq_true rfl, Nat.le_of_ble_eq_true rfl⟩ rfl (a_undo G Z A B hC hA) ?_
  rintro _ W1 ⟨rfl, hC1, hf1⟩
  refine cz_aload_n (pc' := 369) (g_d dtbL_law_2 40 rfl) rfl rfl ?_
  refine nz_cVi (M' := mX11_undo) (k := 34) (As := []) (S := [iv ((xUndo A).1)]) (L := [some (.ref 1000), some (.ref 0), some (.ref 34), some (iv ((i : Int)))]) (pc' := 372) (g_d dtbL_law_2 41 rfl) lk_L_51 okX11_undo (by decide) rfl rfl rfl rfl (Nat.le_of_ble_eq_true rfl) (Nat.le_of_ble_eq_true rfl) ⟨Nat.le_of_ble_eq_true rfl, Nat.le_of_ble_eq_true rfl⟩ rfl (b_undo G W1 A B (hM.fm hf1) hA) ?_
  rintro _ W2 ⟨rfl, hM2, hg2⟩
  refine nz_same (tgt := 981) (g_d dtbL_law_2 42 rfl) rfl ?_
  exact hk W2 _ (hC1.fc hg2) hM2 (ao_Undo hA hbb)

set_option maxRecDepth 20000 in
set_option maxHeartbeats 4000000 in
theorem lw_9 (G : Wd) (nm : String) (Z : ZS) (A : AS) (B : Int) (hC : CS Z A) (hM : MS Z A) (hA : AO B A) (hbb : B + 700000 ≤ 60000000) (hL : g_L G ≤ 384) (i : Nat) (hi : i + 6 ≤ g_L G) (Q : Option Value → ZS → Prop) (hk : ∀ (W : ZS) (A2 : AS), CS W A2 → MS W A2 → AO (B + 700000) A2 → Cn G (mLw nm) 981 [some (.ref 1000), some (.ref 0), some (.ref 34), some (iv (i : Int))] [] W Q) : Cn G (mLw nm) 377 [some (.ref 1000), some (.ref 0), some (.ref 34), some (iv (i : Int))] [] Z Q := by
  refine cz_aload_n (pc' := 378) (g_d dtbL_law_2 45 rfl) rfl rfl ?_
  refine cz_aload_n (pc' := 379) (g_d dtbL_law_2 46 rfl) rfl rfl ?_
  refine cz_iload_n (pc' := 380) (g_d dtbL_law_2 47 rfl) rfl rfl ?_
  refine nz_iconst (pc' := 381) (g_d dtbL_law_2 48 rfl) rfl ?_
  refine nz_iadd (pc' := 382) (g_d dtbL_law_2 49 rfl) rfl ?_
  refine nz_sld ((i) + 1) (pc' := 383) (g_d dtbL_law_2 50 rfl) (by omega) (by omega) hL rfl ?_
  refine cz_aload_n (pc' := 384) (g_d dtbL_law_2 51 rfl) rfl rfl ?_
  refine cz_iload_n (pc' := 385) (g_d dtbL_law_2 52 rfl) rfl rfl ?_
  refine nz_iconst (pc' := 386) (g_d dtbL_law_2 53 rfl) rfl ?_
  refine nz_iadd (pc' := 387) (g_d dtbL_law_2 54 rfl) rfl ?_
  refine nz_sld ((i) + 2) (pc' := 388) (g_d dtbL_law_2 55 rfl) (by omega) (by omega) hL rfl ?_
  refine nz_cVi (M' := mX10_of) (k := 0) (As := [iv (gX G ((i) + 1)), iv (gX G ((i) + 2))]) (S := []) (L := [some (.ref 1000), some (.ref 0), some (.ref 34), some (iv ((i : Int)))]) (pc' := 391) (g_d dtbL_law_2 56 rfl) lk_L_52 okX10_of (by decide) rfl rfl rfl rfl (Nat.le_of_ble_eq_true rfl) (Nat.le_of_ble_eq_true rfl) ⟨Nat.le_of_ble_eq_true rfl, Nat.le_of_ble_eq_true rfl⟩ rfl (a_of G Z A B hC hA (gX G ((i) + 1)) (gX G ((i) + 2)) (gX_in _ _) (gX_in _ _)) ?_
  rintro _ W1 ⟨rfl, hC1, hf1⟩
  refine cz_aload_n (pc' := 392) (g_d dtbL_law_2 57 rfl) rfl rfl ?_
  refine cz_aload_n (pc' := 393) (g_d dtbL_law_2 58 rfl) rfl rfl ?_
  refine cz_iload_n (pc' := 394) (g_d dtbL_law_2 59 rfl) rfl rfl ?_
  refine nz_iconst (pc' := 395) (g_d dtbL_law_3 0 rfl) rfl ?_
  refine nz_iadd (pc' := 396) (g_d dtbL_law_3 1 rfl) rfl ?_
  refine nz_sld ((i) + 1) (pc' := 397) (g_d dtbL_law_3 2 rfl) (by omega) (by omega) hL rfl ?_
  refine cz_aload_n (pc' := 398) (g_d dtbL_law_3 3 rfl) rfl rfl ?_
  refine cz_iload_n (pc' := 399) (g_d dtbL_law_3 4 rfl) rfl rfl ?_
  refine nz_iconst (pc' := 400) (g_d dtbL_law_3 5 rfl) rfl ?_
  refine nz_iadd (pc' := 401) (g_d dtbL_law_3 6 rfl) rfl ?_
  refine nz_sld ((i) + 2) (pc' := 402) (g_d dtbL_law_3 7 rfl) (by omega) (by omega) hL rfl ?_
  refine nz_cVi (M' := mX11_of) (k := 34) (As := [iv (gX G ((i) + 1)), iv (gX G ((i) + 2))]) (S := [iv ((xOf A (gX G ((i) + 1)) (gX G ((i) + 2))).1)]) (L := [some (.ref 1000), some (.ref 0), some (.ref 34), some (iv ((i : Int)))]) (pc' := 405) (g_d dtbL_law_3 8 rfl) lk_L_56 okX11_of (by decide) rfl rfl rfl rfl (Nat.le_of_ble_eq_true rfl) (Nat.le_of_ble_eq_true rfl) ⟨Nat.le_of_ble_eq_true rfl, Nat.le_of_ble_eq_true rfl⟩ rfl (b_of G W1 A B (hM.fm hf1) hA (gX G ((i) + 1)) (gX G ((i) + 2)) (gX_in _ _) (gX_in _ _)) ?_
  rintro _ W2 ⟨rfl, hM2, hg2⟩
  refine nz_same (tgt := 981) (g_d dtbL_law_3 9 rfl) rfl ?_
  exact hk W2 _ (hC1.fc hg2) hM2 (ao_Of hA hbb (gX G ((i) + 1)) (gX G ((i) + 2)))

set_option maxRecDepth 20000 in
set_option maxHeartbeats 4000000 in
theorem lw_10 (G : Wd) (nm : String) (Z : ZS) (A : AS) (B : Int) (hC : CS Z A) (hM : MS Z A) (hA : AO B A) (hbb : B + 700000 ≤ 60000000) (hL : g_L G ≤ 384) (i : Nat) (hi : i + 6 ≤ g_L G) (Q : Option Value → ZS → Prop) (hk : ∀ (W : ZS) (A2 : AS), CS W A2 → MS W A2 → AO (B + 700000) A2 → Cn G (mLw nm) 981 [some (.ref 1000), some (.ref 0), some (.ref 34), some (iv (i : Int))] [] W Q) : Cn G (mLw nm) 410 [some (.ref 1000), some (.ref 0), some (.ref 34), some (iv (i : Int))] [] Z Q := by
  refine cz_aload_n (pc' := 411) (g_d dtbL_law_3 12 rfl) rfl rfl ?_
  refine cz_aload_n (pc' := 412) (g_d dtbL_law_3 13 rfl) rfl rfl ?_
  refine cz_iload_n (pc' := 413) (g_d dtbL_law_3 14 rfl) rfl rfl ?_
  refine nz_iconst (pc' := 414) (g_d dtbL_law_3 15 rfl) rfl ?_
  refine nz_iadd (pc' := 415) (g_d dtbL_law_3 16 rfl) rfl ?_
  refine nz_sld ((i) + 1) (pc' := 416) (g_d dtbL_law_3 17 rfl) (by omega) (by omega) hL rfl ?_
  refine nz_cVi (M' := mX10_now) (k := 0) (As := [iv (gX G ((i) + 1))]) (S := []) (L := [some (.ref 1000), some (.ref 0), some (.ref 34), some (iv ((i : Int)))]) (pc' := 419) (g_d dtbL_law_3 18 rfl) lk_L_57 okX10_now (by decide) rfl rfl rfl rfl (Nat.le_of_ble_eq_true rfl) (Nat.le_of_ble_eq_true rfl) ⟨Nat.le_of_ble_eq_true rfl, Nat.le_of_ble_eq_true rfl⟩ rfl (a_now G Z A B hC hA (gX G ((i) + 1)) (gX_in _ _)) ?_
  rintro _ W1 ⟨rfl, hC1, hf1⟩
  refine cz_aload_n (pc' := 420) (g_d dtbL_law_3 19 rfl) rfl rfl ?_
  refine cz_aload_n (pc' := 421) (g_d dtbL_law_3 20 rfl) rfl rfl ?_
  refine cz_iload_n (pc' := 422) (g_d dtbL_law_3 21 rfl) rfl rfl ?_
  refine nz_iconst (pc' := 423) (g_d dtbL_law_3 22 rfl) rfl ?_
  refine nz_iadd (pc' := 424) (g_d dtbL_law_3 23 rfl) rfl ?_
  refine nz_sld ((i) + 1) (pc' := 425) (g_d dtbL_law_3 24 rfl) (by omega) (by omega) hL rfl ?_
  refine nz_cVi (M' := mX11_now) (k := 34) (As := [iv (gX G ((i) + 1))]) (S := [iv ((xNow A (gX G ((i) + 1))).1)]) (L := [some (.ref 1000), some (.ref 0), some (.ref 34), some (iv ((i : Int)))]) (pc' := 428) (g_d dtbL_law_3 25 rfl) lk_L_60 okX11_now (by decide) rfl rfl rfl rfl (Nat.le_of_ble_eq_true rfl) (Nat.le_of_ble_eq_true rfl) ⟨Nat.le_of_ble_eq_true rfl, Nat.le_of_ble_eq_true rfl⟩ rfl (b_now G W1 A B (hM.fm hf1) hA (gX G ((i) + 1)) (gX_in _ _)) ?_
  rintro _ W2 ⟨rfl, hM2, hg2⟩
  refine nz_same (tgt := 981) (g_d dtbL_law_3 26 rfl) rfl ?_
  exact hk W2 _ (hC1.fc hg2) hM2 (ao_Now hA hbb (gX G ((i) + 1)))

set_option maxRecDepth 20000 in
set_option maxHeartbeats 4000000 in
theorem lw_11 (G : Wd) (nm : String) (Z : ZS) (A : AS) (B : Int) (hC : CS Z A) (hM : MS Z A) (hA : AO B A) (hbb : B + 700000 ≤ 60000000) (hL : g_L G ≤ 384) (i : Nat) (hi : i + 6 ≤ g_L G) (Q : Option Value → ZS → Prop) (hk : ∀ (W : ZS) (A2 : AS), CS W A2 → MS W A2 → AO (B + 700000) A2 → Cn G (mLw nm) 981 [some (.ref 1000), some (.ref 0), some (.ref 34), some (iv (i : Int))] [] W Q) : Cn G (mLw nm) 433 [some (.ref 1000), some (.ref 0), some (.ref 34), some (iv (i : Int))] [] Z Q := by
  refine cz_aload_n (pc' := 434) (g_d dtbL_law_3 29 rfl) rfl rfl ?_
  refine nz_cVi (M' := mX10_truly) (k := 0) (As := []) (S := []) (L := [some (.ref 1000), some (.ref 0), some (.ref 34), some (iv ((i : Int)))]) (pc' := 437) (g_d dtbL_law_3 30 rfl) lk_L_61 okX10_truly (by decide) rfl rfl rfl rfl (Nat.le_of_ble_eq_true rfl) (Nat.le_of_ble_eq_true rfl) ⟨Nat.le_of_ble_eq_true rfl, Nat.le_of_ble_eq_true rfl⟩ rfl (a_truly G Z A B hC hA) ?_
  rintro _ W1 ⟨rfl, hC1, hf1⟩
  refine cz_aload_n (pc' := 438) (g_d dtbL_law_3 31 rfl) rfl rfl ?_
  refine nz_cVi (M' := mX11_truly) (k := 34) (As := []) (S := [iv ((xTruly A).1)]) (L := [some (.ref 1000), some (.ref 0), some (.ref 34), some (iv ((i : Int)))]) (pc' := 441) (g_d dtbL_law_3 32 rfl) lk_L_64 okX11_truly (by decide) rfl rfl rfl rfl (Nat.le_of_ble_eq_true rfl) (Nat.le_of_ble_eq_true rfl) ⟨Nat.le_of_ble_eq_true rfl, Nat.le_of_ble_eq_true rfl⟩ rfl (b_truly G W1 A B (hM.fm hf1) hA) ?_
  rintro _ W2 ⟨rfl, hM2, hg2⟩
  refine nz_same (tgt := 981) (g_d dtbL_law_3 33 rfl) rfl ?_
  exact hk W2 _ (hC1.fc hg2) hM2 (ao_Truly hA hbb)

set_option maxRecDepth 20000 in
set_option maxHeartbeats 4000000 in
theorem lw_12 (G : Wd) (nm : String) (Z : ZS) (A : AS) (B : Int) (hC : CS Z A) (hM : MS Z A) (hA : AO B A) (hbb : B + 700000 ≤ 60000000) (hL : g_L G ≤ 384) (i : Nat) (hi : i + 6 ≤ g_L G) (Q : Option Value → ZS → Prop) (hk : ∀ (W : ZS) (A2 : AS), CS W A2 → MS W A2 → AO (B + 700000) A2 → Cn G (mLw nm) 981 [some (.ref 1000), some (.ref 0), some (.ref 34), some (iv (i : Int))] [] W Q) : Cn G (mLw nm) 446 [some (.ref 1000), some (.ref 0), some (.ref 34), some (iv (i : Int))] [] Z Q := by
  refine cz_aload_n (pc' := 447) (g_d dtbL_law_3 36 rfl) rfl rfl ?_
  refine cz_aload_n (pc' := 448) (g_d dtbL_law_3 37 rfl) rfl rfl ?_
  refine cz_iload_n (pc' := 449) (g_d dtbL_law_3 38 rfl) rfl rfl ?_
  refine nz_iconst (pc' := 450) (g_d dtbL_law_3 39 rfl) rfl ?_
  refine nz_iadd (pc' := 451) (g_d dtbL_law_3 40 rfl) rfl ?_
  refine nz_sld ((i) + 1) (pc' := 452) (g_d dtbL_law_3 41 rfl) (by omega) (by omega) hL rfl ?_
  refine cz_aload_n (pc' := 453) (g_d dtbL_law_3 42 rfl) rfl rfl ?_
  refine cz_iload_n (pc' := 454) (g_d dtbL_law_3 43 rfl) rfl rfl ?_
  refine nz_iconst (pc' := 455) (g_d dtbL_law_3 44 rfl) rfl ?_
  refine nz_iadd (pc' := 456) (g_d dtbL_law_3 45 rfl) rfl ?_
  refine nz_sld ((i) + 2) (pc' := 457) (g_d dtbL_law_3 46 rfl) (by omega) (by omega) hL rfl ?_
  refine nz_cVi (M' := mX10_then) (k := 0) (As := [iv (gX G ((i) + 1)), iv (gX G ((i) + 2))]) (S := []) (L := [some (.ref 1000), some (.ref 0), some (.ref 34), some (iv ((i : Int)))]) (pc' := 460) (g_d dtbL_law_3 47 rfl) lk_L_65 okX10_then (by decide) rfl rfl rfl rfl (Nat.le_of_ble_eq_true rfl) (Nat.le_of_ble_eq_true rfl) ⟨Nat.le_of_ble_eq_true rfl, Nat.le_of_ble_eq_true rfl⟩ rfl (a_then G Z A B hC hA (gX G ((i) + 1)) (gX G ((i) + 2)) (gX_in _ _) (gX_in _ _)) ?_
  rintro _ W1 ⟨rfl, hC1, hf1⟩
  refine cz_aload_n (pc' := 461) (g_d dtbL_law_3 48 rfl) rfl rfl ?_
  refine cz_aload_n (pc' := 462) (g_d dtbL_law_3 49 rfl) rfl rfl ?_
  refine cz_iload_n (pc' := 463) (g_d dtbL_law_3 50 rfl) rfl rfl ?_
  refine nz_iconst (pc' := 464) (g_d dtbL_law_3 51 rfl) rfl ?_
  refine nz_iadd (pc' := 465) (g_d dtbL_law_3 52 rfl) rfl ?_
  refine nz_sld ((i) + 1) (pc' := 466) (g_d dtbL_law_3 53 rfl) (by omega) (by omega) hL rfl ?_
  refine cz_aload_n (pc' := 467) (g_d dtbL_law_3 54 rfl) rfl rfl ?_
  refine cz_iload_n (pc' := 468) (g_d dtbL_law_3 55 rfl) rfl rfl ?_
  refine nz_iconst (pc' := 469) (g_d dtbL_law_3 56 rfl) rfl ?_
  refine nz_iadd (pc' := 470) (g_d dtbL_law_3 57 rfl) rfl ?_
  refine nz_sld ((i) + 2) (pc' := 471) (g_d dtbL_law_3 58 rfl) (by omega) (by omega) hL rfl ?_
  refine nz_cVi (M' := mX11_then) (k := 34) (As := [iv (gX G ((i) + 1)), iv (gX G ((i) + 2))]) (S := [iv ((xThen A (gX G ((i) + 1)) (gX G ((i) + 2))).1)]) (L := [some (.ref 1000), some (.ref 0), some (.ref 34), some (iv ((i : Int)))]) (pc' := 474) (g_d dtbL_law_3 59 rfl) lk_L_68 okX11_then (by decide) rfl rfl rfl rfl (Nat.le_of_ble_eq_true rfl) (Nat.le_of_ble_eq_true rfl) ⟨Nat.le_of_ble_eq_true rfl, Nat.le_of_ble_eq_true rfl⟩ rfl (b_then G W1 A B (hM.fm hf1) hA (gX G ((i) + 1)) (gX G ((i) + 2)) (gX_in _ _) (gX_in _ _) hbb) ?_
  rintro _ W2 ⟨rfl, hM2, hg2⟩
  refine nz_same (tgt := 981) (g_d dtbL_law_4 0 rfl) rfl ?_
  exact hk W2 _ (hC1.fc hg2) hM2 (ao_Then hA hbb (gX G ((i) + 1)) (gX G ((i) + 2)))

set_option maxRecDepth 20000 in
set_option maxHeartbeats 4000000 in
theorem lw_13 (G : Wd) (nm : String) (Z : ZS) (A : AS) (B : Int) (hC : CS Z A) (hM : MS Z A) (hA : AO B A) (hbb : B + 700000 ≤ 60000000) (hL : g_L G ≤ 384) (i : Nat) (hi : i + 6 ≤ g_L G) (Q : Option Value → ZS → Prop) (hk : ∀ (W : ZS) (A2 : AS), CS W A2 → MS W A2 → AO (B + 700000) A2 → Cn G (mLw nm) 981 [some (.ref 1000), some (.ref 0), some (.ref 34), some (iv (i : Int))] [] W Q) : Cn G (mLw nm) 479 [some (.ref 1000), some (.ref 0), some (.ref 34), some (iv (i : Int))] [] Z Q := by
  refine cz_aload_n (pc' := 480) (g_d dtbL_law_4 3 rfl) rfl rfl ?_
  refine cz_aload_n (pc' := 481) (g_d dtbL_law_4 4 rfl) rfl rfl ?_
  refine cz_iload_n (pc' := 482) (g_d dtbL_law_4 5 rfl) rfl rfl ?_
  refine nz_iconst (pc' := 483) (g_d dtbL_law_4 6 rfl) rfl ?_
  refine nz_iadd (pc' := 484) (g_d dtbL_law_4 7 rfl) rfl ?_
  refine nz_sld ((i) + 1) (pc' := 485) (g_d dtbL_law_4 8 rfl) (by omega) (by omega) hL rfl ?_
  refine cz_aload_n (pc' := 486) (g_d dtbL_law_4 9 rfl) rfl rfl ?_
  refine cz_iload_n (pc' := 487) (g_d dtbL_law_4 10 rfl) rfl rfl ?_
  refine nz_iconst (pc' := 488) (g_d dtbL_law_4 11 rfl) rfl ?_
  refine nz_iadd (pc' := 489) (g_d dtbL_law_4 12 rfl) rfl ?_
  refine nz_sld ((i) + 2) (pc' := 490) (g_d dtbL_law_4 13 rfl) (by omega) (by omega) hL rfl ?_
  refine nz_cVi (M' := mX10_low) (k := 0) (As := [iv (gX G ((i) + 1)), iv (gX G ((i) + 2))]) (S := []) (L := [some (.ref 1000), some (.ref 0), some (.ref 34), some (iv ((i : Int)))]) (pc' := 493) (g_d dtbL_law_4 14 rfl) lk_L_69 okX10_low (by decide) rfl rfl rfl rfl (Nat.le_of_ble_eq_true rfl) (Nat.le_of_ble_eq_true rfl) ⟨Nat.le_of_ble_eq_true rfl, Nat.le_of_ble_eq_true rfl⟩ rfl (a_low G Z A B hC hA (gX G ((i) + 1)) (gX G ((i) + 2)) (gX_in _ _) (gX_in _ _)) ?_
  rintro _ W1 ⟨rfl, hC1, hf1⟩
  refine cz_aload_n (pc' := 494) (g_d dtbL_law_4 15 rfl) rfl rfl ?_
  refine cz_aload_n (pc' := 495) (g_d dtbL_law_4 16 rfl) rfl rfl ?_
  refine cz_iload_n (pc' := 496) (g_d dtbL_law_4 17 rfl) rfl rfl ?_
  refine nz_iconst (pc' := 497) (g_d dtbL_law_4 18 rfl) rfl ?_
  refine nz_iadd (pc' := 498) (g_d dtbL_law_4 19 rfl) rfl ?_
  refine nz_sld ((i) + 1) (pc' := 499) (g_d dtbL_law_4 20 rfl) (by omega) (by omega) hL rfl ?_
  refine cz_aload_n (pc' := 500) (g_d dtbL_law_4 21 rfl) rfl rfl ?_
  refine cz_iload_n (pc' := 501) (g_d dtbL_law_4 22 rfl) rfl rfl ?_
  refine nz_iconst (pc' := 502) (g_d dtbL_law_4 23 rfl) rfl ?_
  refine nz_iadd (pc' := 503) (g_d dtbL_law_4 24 rfl) rfl ?_
  refine nz_sld ((i) + 2) (pc' := 504) (g_d dtbL_law_4 25 rfl) (by omega) (by omega) hL rfl ?_
  refine nz_cVi (M' := mX11_low) (k := 34) (As := [iv (gX G ((i) + 1)), iv (gX G ((i) + 2))]) (S := [iv ((xLow A (gX G ((i) + 1)) (gX G ((i) + 2))).1)]) (L := [some (.ref 1000), some (.ref 0), some (.ref 34), some (iv ((i : Int)))]) (pc' := 507) (g_d dtbL_law_4 26 rfl) lk_L_72 okX11_low (by decide) rfl rfl rfl rfl (Nat.le_of_ble_eq_true rfl) (Nat.le_of_ble_eq_true rfl) ⟨Nat.le_of_ble_eq_true rfl, Nat.le_of_ble_eq_true rfl⟩ rfl (b_low G W1 A B (hM.fm hf1) hA (gX G ((i) + 1)) (gX G ((i) + 2)) (gX_in _ _) (gX_in _ _) hbb) ?_
  rintro _ W2 ⟨rfl, hM2, hg2⟩
  refine nz_same (tgt := 981) (g_d dtbL_law_4 27 rfl) rfl ?_
  exact hk W2 _ (hC1.fc hg2) hM2 (ao_Low hA hbb (gX G ((i) + 1)) (gX G ((i) + 2)))

set_option maxRecDepth 20000 in
set_option maxHeartbeats 4000000 in
theorem lw_14 (G : Wd) (nm : String) (Z : ZS) (A : AS) (B : Int) (hC : CS Z A) (hM : MS Z A) (hA : AO B A) (hbb : B + 700000 ≤ 60000000) (hL : g_L G ≤ 384) (i : Nat) (hi : i + 6 ≤ g_L G) (Q : Option Value → ZS → Prop) (hk : ∀ (W : ZS) (A2 : AS), CS W A2 → MS W A2 → AO (B + 700000) A2 → Cn G (mLw nm) 981 [some (.ref 1000), some (.ref 0), some (.ref 34), some (iv (i : Int))] [] W Q) : Cn G (mLw nm) 512 [some (.ref 1000), some (.ref 0), some (.ref 34), some (iv (i : Int))] [] Z Q := by
  refine cz_aload_n (pc' := 513) (g_d dtbL_law_4 30 rfl) rfl rfl ?_
  refine nz_cVi (M' := mX10_below) (k := 0) (As := []) (S := []) (L := [some (.ref 1000), some (.ref 0), some (.ref 34), some (iv ((i : Int)))]) (pc' := 516) (g_d dtbL_law_4 31 rfl) lk_L_73 okX10_below (by decide) rfl rfl rfl rfl (Nat.le_of_ble_eq_true rfl) (Nat.le_of_ble_eq_true rfl) ⟨Nat.le_of_ble_eq_true rfl, Nat.le_of_ble_eq_true rfl⟩ rfl (a_below G Z A B hC hA) ?_
  rintro _ W1 ⟨rfl, hC1, hf1⟩
  refine cz_aload_n (pc' := 517) (g_d dtbL_law_4 32 rfl) rfl rfl ?_
  refine nz_cVi (M' := mX11_below) (k := 34) (As := []) (S := [iv ((xBelow A).1)]) (L := [some (.ref 1000), some (.ref 0), some (.ref 34), some (iv ((i : Int)))]) (pc' := 520) (g_d dtbL_law_4 33 rfl) lk_L_76 okX11_below (by decide) rfl rfl rfl rfl (Nat.le_of_ble_eq_true rfl) (Nat.le_of_ble_eq_true rfl) ⟨Nat.le_of_ble_eq_true rfl, Nat.le_of_ble_eq_true rfl⟩ rfl (b_below G W1 A B (hM.fm hf1) hA hbb) ?_
  rintro _ W2 ⟨rfl, hM2, hg2⟩
  refine nz_same (tgt := 981) (g_d dtbL_law_4 34 rfl) rfl ?_
  exact hk W2 _ (hC1.fc hg2) hM2 (ao_Below hA hbb)

set_option maxRecDepth 20000 in
set_option maxHeartbeats 4000000 in
theorem lw_15 (G : Wd) (nm : String) (Z : ZS) (A : AS) (B : Int) (hC : CS Z A) (hM : MS Z A) (hA : AO B A) (hbb : B + 700000 ≤ 60000000) (hL : g_L G ≤ 384) (i : Nat) (hi : i + 6 ≤ g_L G) (Q : Option Value → ZS → Prop) (hk : ∀ (W : ZS) (A2 : AS), CS W A2 → MS W A2 → AO (B + 700000) A2 → Cn G (mLw nm) 981 [some (.ref 1000), some (.ref 0), some (.ref 34), some (iv (i : Int))] [] W Q) : Cn G (mLw nm) 525 [some (.ref 1000), some (.ref 0), some (.ref 34), some (iv (i : Int))] [] Z Q := by
  refine cz_aload_n (pc' := 526) (g_d dtbL_law_4 37 rfl) rfl rfl ?_
  refine cz_aload_n (pc' := 527) (g_d dtbL_law_4 38 rfl) rfl rfl ?_
  refine cz_iload_n (pc' := 528) (g_d dtbL_law_4 39 rfl) rfl rfl ?_
  refine nz_iconst (pc' := 529) (g_d dtbL_law_4 40 rfl) rfl ?_
  refine nz_iadd (pc' := 530) (g_d dtbL_law_4 41 rfl) rfl ?_
  refine nz_sld ((i) + 1) (pc' := 531) (g_d dtbL_law_4 42 rfl) (by omega) (by omega) hL rfl ?_
  refine nz_cVi (M' := mX10_most) (k := 0) (As := [iv (gX G ((i) + 1))]) (S := []) (L := [some (.ref 1000), some (.ref 0), some (.ref 34), some (iv ((i : Int)))]) (pc' := 534) (g_d dtbL_law_4 43 rfl) lk_L_77 okX10_most (by decide) rfl rfl rfl rfl (Nat.le_of_ble_eq_true rfl) (Nat.le_of_ble_eq_true rfl) ⟨Nat.le_of_ble_eq_true rfl, Nat.le_of_ble_eq_true rfl⟩ rfl (a_most G Z A B hC hA (gX G ((i) + 1)) (gX_in _ _)) ?_
  rintro _ W1 ⟨rfl, hC1, hf1⟩
  refine cz_aload_n (pc' := 535) (g_d dtbL_law_4 44 rfl) rfl rfl ?_
  refine cz_aload_n (pc' := 536) (g_d dtbL_law_4 45 rfl) rfl rfl ?_
  refine cz_iload_n (pc' := 537) (g_d dtbL_law_4 46 rfl) rfl rfl ?_
  refine nz_iconst (pc' := 538) (g_d dtbL_law_4 47 rfl) rfl ?_
  refine nz_iadd (pc' := 539) (g_d dtbL_law_4 48 rfl) rfl ?_
  refine nz_sld ((i) + 1) (pc' := 540) (g_d dtbL_law_4 49 rfl) (by omega) (by omega) hL rfl ?_
  refine nz_cVi (M' := mX11_most) (k := 34) (As := [iv (gX G ((i) + 1))]) (S := [iv ((xMost A (gX G ((i) + 1))).1)]) (L := [some (.ref 1000), some (.ref 0), some (.ref 34), some (iv ((i : Int)))]) (pc' := 543) (g_d dtbL_law_4 50 rfl) lk_L_80 okX11_most (by decide) rfl rfl rfl rfl (Nat.le_of_ble_eq_true rfl) (Nat.le_of_ble_eq_true rfl) ⟨Nat.le_of_ble_eq_true rfl, Nat.le_of_ble_eq_true rfl⟩ rfl (b_most G W1 A B (hM.fm hf1) hA (gX G ((i) + 1)) (gX_in _ _) hbb) ?_
  rintro _ W2 ⟨rfl, hM2, hg2⟩
  refine nz_same (tgt := 981) (g_d dtbL_law_4 51 rfl) rfl ?_
  exact hk W2 _ (hC1.fc hg2) hM2 (ao_Most hA hbb (gX G ((i) + 1)))

set_option maxRecDepth 20000 in
set_option maxHeartbeats 4000000 in
theorem lw_16 (G : Wd) (nm : String) (Z : ZS) (A : AS) (B : Int) (hC : CS Z A) (hM : MS Z A) (hA : AO B A) (hbb : B + 700000 ≤ 60000000) (hL : g_L G ≤ 384) (i : Nat) (hi : i + 6 ≤ g_L G) (Q : Option Value → ZS → Prop) (hk : ∀ (W : ZS) (A2 : AS), CS W A2 → MS W A2 → AO (B + 700000) A2 → Cn G (mLw nm) 981 [some (.ref 1000), some (.ref 0), some (.ref 34), some (iv (i : Int))] [] W Q) : Cn G (mLw nm) 548 [some (.ref 1000), some (.ref 0), some (.ref 34), some (iv (i : Int))] [] Z Q := by
  refine cz_aload_n (pc' := 549) (g_d dtbL_law_4 54 rfl) rfl rfl ?_
  refine cz_aload_n (pc' := 550) (g_d dtbL_law_4 55 rfl) rfl rfl ?_
  refine cz_iload_n (pc' := 551) (g_d dtbL_law_4 56 rfl) rfl rfl ?_
  refine nz_iconst (pc' := 552) (g_d dtbL_law_4 57 rfl) rfl ?_
  refine nz_iadd (pc' := 553) (g_d dtbL_law_4 58 rfl) rfl ?_
  refine nz_sld ((i) + 1) (pc' := 554) (g_d dtbL_law_4 59 rfl) (by omega) (by omega) hL rfl ?_
  refine nz_cVi (M' := mX10_need) (k := 0) (As := [iv (gX G ((i) + 1))]) (S := []) (L := [some (.ref 1000), some (.ref 0), some (.ref 34), some (iv ((i : Int)))]) (pc' := 557) (g_d dtbL_law_5 0 rfl) lk_L_81 okX10_need (by decide) rfl rfl rfl rfl (Nat.le_of_ble_eq_true rfl) (Nat.le_of_ble_eq_true rfl) ⟨Nat.le_of_ble_eq_true rfl, Nat.le_of_ble_eq_true rfl⟩ rfl (a_need G Z A B hC hA (gX G ((i) + 1)) (gX_in _ _)) ?_
  rintro _ W1 ⟨rfl, hC1, hf1⟩
  refine cz_aload_n (pc' := 558) (g_d dtbL_law_5 1 rfl) rfl rfl ?_
  refine cz_aload_n (pc' := 559) (g_d dtbL_law_5 2 rfl) rfl rfl ?_
  refine cz_iload_n (pc' := 560) (g_d dtbL_law_5 3 rfl) rfl rfl ?_
  refine nz_iconst (pc' := 561) (g_d dtbL_law_5 4 rfl) rfl ?_
  refine nz_iadd (pc' := 562) (g_d dtbL_law_5 5 rfl) rfl ?_
  refine nz_sld ((i) + 1) (pc' := 563) (g_d dtbL_law_5 6 rfl) (by omega) (by omega) hL rfl ?_
  refine nz_cVi (M' := mX11_need) (k := 34) (As := [iv (gX G ((i) + 1))]) (S := [iv ((xNeed A (gX G ((i) + 1))).1)]) (L := [some (.ref 1000), some (.ref 0), some (.ref 34), some (iv ((i : Int)))]) (pc' := 566) (g_d dtbL_law_5 7 rfl) lk_L_84 okX11_need (by decide) rfl rfl rfl rfl (Nat.le_of_ble_eq_true rfl) (Nat.le_of_ble_eq_true rfl) ⟨Nat.le_of_ble_eq_true rfl, Nat.le_of_ble_eq_true rfl⟩ rfl (b_need G W1 A B (hM.fm hf1) hA (gX G ((i) + 1)) (gX_in _ _) hbb) ?_
  rintro _ W2 ⟨rfl, hM2, hg2⟩
  refine nz_same (tgt := 981) (g_d dtbL_law_5 8 rfl) rfl ?_
  exact hk W2 _ (hC1.fc hg2) hM2 (ao_Need hA hbb (gX G ((i) + 1)))

set_option maxRecDepth 20000 in
set_option maxHeartbeats 4000000 in
theorem lw_17 (G : Wd) (nm : String) (Z : ZS) (A : AS) (B : Int) (hC : CS Z A) (hM : MS Z A) (hA : AO B A) (hbb : B + 700000 ≤ 60000000) (hL : g_L G ≤ 384) (i : Nat) (hi : i + 6 ≤ g_L G) (Q : Option Value → ZS → Prop) (hk : ∀ (W : ZS) (A2 : AS), CS W A2 → MS W A2 → AO (B + 700000) A2 → Cn G (mLw nm) 981 [some (.ref 1000), some (.ref 0), some (.ref 34), some (iv (i : Int))] [] W Q) : Cn G (mLw nm) 571 [some (.ref 1000), some (.ref 0), some (.ref 34), some (iv (i : Int))] [] Z Q := by
  refine cz_aload_n (pc' := 572) (g_d dtbL_law_5 11 rfl) rfl rfl ?_
  refine nz_cVi (M' := mX10_move) (k := 0) (As := []) (S := []) (L := [some (.ref 1000), some (.ref 0), some (.ref 34), some (iv ((i : Int)))]) (pc' := 575) (g_d dtbL_law_5 12 rfl) lk_L_85 okX10_move (by decide) rfl rfl rfl rfl (Nat.le_of_ble_eq_true rfl) (Nat.le_of_ble_eq_true rfl) ⟨Nat.le_of_ble_eq_true rfl, Nat.le_of_ble_eq_true rfl⟩ rfl (a_move G Z A B hC hA) ?_
  rintro _ W1 ⟨rfl, hC1, hf1⟩
  refine cz_aload_n (pc' := 576) (g_d dtbL_law_5 13 rfl) rfl rfl ?_
  refine nz_cVi (M' := mX11_move) (k := 34) (As := []) (S := [iv ((xMove A).1)]) (L := [some (.ref 1000), some (.ref 0), some (.ref 34), some (iv ((i : Int)))]) (pc' := 579) (g_d dtbL_law_5 14 rfl) lk_L_88 okX11_move (by decide) rfl rfl rfl rfl (Nat.le_of_ble_eq_true rfl) (Nat.le_of_ble_eq_true rfl) ⟨Nat.le_of_ble_eq_true rfl, Nat.le_of_ble_eq_true rfl⟩ rfl (b_move G W1 A B (hM.fm hf1) hA hbb) ?_
  rintro _ W2 ⟨rfl, hM2, hg2⟩
  refine nz_same (tgt := 981) (g_d dtbL_law_5 15 rfl) rfl ?_
  exact hk W2 _ (hC1.fc hg2) hM2 (ao_Move hA hbb)

set_option maxRecDepth 20000 in
set_option maxHeartbeats 4000000 in
theorem lw_18 (G : Wd) (nm : String) (Z : ZS) (A : AS) (B : Int) (hC : CS Z A) (hM : MS Z A) (hA : AO B A) (hbb : B + 700000 ≤ 60000000) (hL : g_L G ≤ 384) (i : Nat) (hi : i + 6 ≤ g_L G) (Q : Option Value → ZS → Prop) (hk : ∀ (W : ZS) (A2 : AS), CS W A2 → MS W A2 → AO (B + 700000) A2 → Cn G (mLw nm) 981 [some (.ref 1000), some (.ref 0), some (.ref 34), some (iv (i : Int))] [] W Q) : Cn G (mLw nm) 584 [some (.ref 1000), some (.ref 0), some (.ref 34), some (iv (i : Int))] [] Z Q := by
  refine cz_aload_n (pc' := 585) (g_d dtbL_law_5 18 rfl) rfl rfl ?_
  refine cz_aload_n (pc' := 586) (g_d dtbL_law_5 19 rfl) rfl rfl ?_
  refine cz_iload_n (pc' := 587) (g_d dtbL_law_5 20 rfl) rfl rfl ?_
  refine nz_iconst (pc' := 588) (g_d dtbL_law_5 21 rfl) rfl ?_
  refine nz_iadd (pc' := 589) (g_d dtbL_law_5 22 rfl) rfl ?_
  refine nz_sld ((i) + 1) (pc' := 590) (g_d dtbL_law_5 23 rfl) (by omega) (by omega) hL rfl ?_
  refine nz_cVi (M' := mX10_monthly) (k := 0) (As := [iv (gX G ((i) + 1))]) (S := []) (L := [some (.ref 1000), some (.ref 0), some (.ref 34), some (iv ((i : Int)))]) (pc' := 593) (g_d dtbL_law_5 24 rfl) lk_L_89 okX10_monthly (by decide) rfl rfl rfl rfl (Nat.le_of_ble_eq_true rfl) (Nat.le_of_ble_eq_true rfl) ⟨Nat.le_of_ble_eq_true rfl, Nat.le_of_ble_eq_true rfl⟩ rfl (a_monthly G Z A B hC hA (gX G ((i) + 1)) (gX_in _ _)) ?_
  rintro _ W1 ⟨rfl, hC1, hf1⟩
  refine cz_aload_n (pc' := 594) (g_d dtbL_law_5 25 rfl) rfl rfl ?_
  refine cz_aload_n (pc' := 595) (g_d dtbL_law_5 26 rfl) rfl rfl ?_
  refine cz_iload_n (pc' := 596) (g_d dtbL_law_5 27 rfl) rfl rfl ?_
  refine nz_iconst (pc' := 597) (g_d dtbL_law_5 28 rfl) rfl ?_
  refine nz_iadd (pc' := 598) (g_d dtbL_law_5 29 rfl) rfl ?_
  refine nz_sld ((i) + 1) (pc' := 599) (g_d dtbL_law_5 30 rfl) (by omega) (by omega) hL rfl ?_
  refine nz_cVi (M' := mX11_monthly) (k := 34) (As := [iv (gX G ((i) + 1))]) (S := [iv ((xMonthly A (gX G ((i) + 1))).1)]) (L := [some (.ref 1000), some (.ref 0), some (.ref 34), some (iv ((i : Int)))]) (pc' := 602) (g_d dtbL_law_5 31 rfl) lk_L_92 okX11_monthly (by decide) rfl rfl rfl rfl (Nat.le_of_ble_eq_true rfl) (Nat.le_of_ble_eq_true rfl) ⟨Nat.le_of_ble_eq_true rfl, Nat.le_of_ble_eq_true rfl⟩ rfl (b_monthly G W1 A B (hM.fm hf1) hA (gX G ((i) + 1)) (gX_in _ _)) ?_
  rintro _ W2 ⟨rfl, hM2, hg2⟩
  refine nz_same (tgt := 981) (g_d dtbL_law_5 32 rfl) rfl ?_
  exact hk W2 _ (hC1.fc hg2) hM2 (ao_Monthly hA hbb (gX G ((i) + 1)))

set_option maxRecDepth 20000 in
set_option maxHeartbeats 4000000 in
theorem lw_19 (G : Wd) (nm : String) (Z : ZS) (A : AS) (B : Int) (hC : CS Z A) (hM : MS Z A) (hA : AO B A) (hbb : B + 700000 ≤ 60000000) (hL : g_L G ≤ 384) (i : Nat) (hi : i + 6 ≤ g_L G) (Q : Option Value → ZS → Prop) (hk : ∀ (W : ZS) (A2 : AS), CS W A2 → MS W A2 → AO (B + 700000) A2 → Cn G (mLw nm) 981 [some (.ref 1000), some (.ref 0), some (.ref 34), some (iv (i : Int))] [] W Q) : Cn G (mLw nm) 607 [some (.ref 1000), some (.ref 0), some (.ref 34), some (iv (i : Int))] [] Z Q := by
  refine cz_aload_n (pc' := 608) (g_d dtbL_law_5 35 rfl) rfl rfl ?_
  refine nz_cVi (M' := mX10_dear) (k := 0) (As := []) (S := []) (L := [some (.ref 1000), some (.ref 0), some (.ref 34), some (iv ((i : Int)))]) (pc' := 611) (g_d dtbL_law_5 36 rfl) lk_L_93 okX10_dear (by decide) rfl rfl rfl rfl (Nat.le_of_ble_eq_true rfl) (Nat.le_of_ble_eq_true rfl) ⟨Nat.le_of_ble_eq_true rfl, Nat.le_of_ble_eq_true rfl⟩ rfl (a_dear G Z A B hC hA) ?_
  rintro _ W1 ⟨rfl, hC1, hf1⟩
  refine cz_aload_n (pc' := 612) (g_d dtbL_law_5 37 rfl) rfl rfl ?_
  refine nz_cVi (M' := mX11_dear) (k := 34) (As := []) (S := [iv ((xDear A).1)]) (L := [some (.ref 1000), some (.ref 0), some (.ref 34), some (iv ((i : Int)))]) (pc' := 615) (g_d dtbL_law_5 38 rfl) lk_L_96 okX11_dear (by decide) rfl rfl rfl rfl (Nat.le_of_ble_eq_true rfl) (Nat.le_of_ble_eq_true rfl) ⟨Nat.le_of_ble_eq_true rfl, Nat.le_of_ble_eq_true rfl⟩ rfl (b_dear G W1 A B (hM.fm hf1) hA hbb) ?_
  rintro _ W2 ⟨rfl, hM2, hg2⟩
  refine nz_same (tgt := 981) (g_d dtbL_law_5 39 rfl) rfl ?_
  exact hk W2 _ (hC1.fc hg2) hM2 (ao_Dear hA hbb)

set_option maxRecDepth 20000 in
set_option maxHeartbeats 4000000 in
theorem lw_20 (G : Wd) (nm : String) (Z : ZS) (A : AS) (B : Int) (hC : CS Z A) (hM : MS Z A) (hA : AO B A) (hbb : B + 700000 ≤ 60000000) (hL : g_L G ≤ 384) (i : Nat) (hi : i + 6 ≤ g_L G) (Q : Option Value → ZS → Prop) (hk : ∀ (W : ZS) (A2 : AS), CS W A2 → MS W A2 → AO (B + 700000) A2 → Cn G (mLw nm) 981 [some (.ref 1000), some (.ref 0), some (.ref 34), some (iv (i : Int))] [] W Q) : Cn G (mLw nm) 620 [some (.ref 1000), some (.ref 0), some (.ref 34), some (iv (i : Int))] [] Z Q := by
  refine cz_aload_n (pc' := 621) (g_d dtbL_law_5 42 rfl) rfl rfl ?_
  refine cz_aload_n (pc' := 622) (g_d dtbL_law_5 43 rfl) rfl rfl ?_
  refine cz_iload_n (pc' := 623) (g_d dtbL_law_5 44 rfl) rfl rfl ?_
  refine nz_iconst (pc' := 624) (g_d dtbL_law_5 45 rfl) rfl ?_
  refine nz_iadd (pc' := 625) (g_d dtbL_law_5 46 rfl) rfl ?_
  refine nz_sld ((i) + 1) (pc' := 626) (g_d dtbL_law_5 47 rfl) (by omega) (by omega) hL rfl ?_
  refine cz_aload_n (pc' := 627) (g_d dtbL_law_5 48 rfl) rfl rfl ?_
  refine cz_iload_n (pc' := 628) (g_d dtbL_law_5 49 rfl) rfl rfl ?_
  refine nz_iconst (pc' := 629) (g_d dtbL_law_5 50 rfl) rfl ?_
  refine nz_iadd (pc' := 630) (g_d dtbL_law_5 51 rfl) rfl ?_
  refine nz_sld ((i) + 2) (pc' := 631) (g_d dtbL_law_5 52 rfl) (by omega) (by omega) hL rfl ?_
  refine cz_aload_n (pc' := 632) (g_d dtbL_law_5 53 rfl) rfl rfl ?_
  refine cz_iload_n (pc' := 633) (g_d dtbL_law_5 54 rfl) rfl rfl ?_
  refine nz_iconst (pc' := 634) (g_d dtbL_law_5 55 rfl) rfl ?_
  refine nz_iadd (pc' := 635) (g_d dtbL_law_5 56 rfl) rfl ?_
  refine nz_sld ((i) + 3) (pc' := 636) (g_d dtbL_law_5 57 rfl) (by omega) (by omega) hL rfl ?_
  refine cz_aload_n (pc' := 637) (g_d dtbL_law_5 58 rfl) rfl rfl ?_
  refine cz_iload_n (pc' := 638) (g_d dtbL_law_5 59 rfl) rfl rfl ?_
  refine nz_iconst (pc' := 639) (g_d dtbL_law_6 0 rfl) rfl ?_
  refine nz_iadd (pc' := 640) (g_d dtbL_law_6 1 rfl) rfl ?_
  refine nz_sld ((i) + 4) (pc' := 641) (g_d dtbL_law_6 2 rfl) (by omega) (by omega) hL rfl ?_
  refine cz_aload_n (pc' := 642) (g_d dtbL_law_6 3 rfl) rfl rfl ?_
  refine cz_iload_n (pc' := 643) (g_d dtbL_law_6 4 rfl) rfl rfl ?_
  refine nz_iconst (pc' := 644) (g_d dtbL_law_6 5 rfl) rfl ?_
  refine nz_iadd (pc' := 645) (g_d dtbL_law_6 6 rfl) rfl ?_
  refine nz_sld ((i) + 5) (pc' := 646) (g_d dtbL_law_6 7 rfl) (by omega) (by omega) hL rfl ?_
  refine nz_cVi (M' := mX10_note) (k := 0) (As := [iv (gX G ((i) + 1)), iv (gX G ((i) + 2)), iv (gX G ((i) + 3)), iv (gX G ((i) + 4)), iv (gX G ((i) + 5))]) (S := []) (L := [some (.ref 1000), some (.ref 0), some (.ref 34), some (iv ((i : Int)))]) (pc' := 649) (g_d dtbL_law_6 8 rfl) lk_L_97 okX10_note (by decide) rfl rfl rfl rfl (Nat.le_of_ble_eq_true rfl) (Nat.le_of_ble_eq_true rfl) ⟨Nat.le_of_ble_eq_true rfl, Nat.le_of_ble_eq_true rfl⟩ rfl (a_note G Z A B hC hA (gX G ((i) + 1)) (gX G ((i) + 2)) (gX G ((i) + 3)) (gX G ((i) + 4)) (gX G ((i) + 5)) (gX_in _ _) (gX_in _ _) (gX_in _ _) (gX_in _ _) (gX_in _ _)) ?_
  rintro _ W1 ⟨rfl, hC1, hf1⟩
  refine cz_aload_n (pc' := 650) (g_d dtbL_law_6 9 rfl) rfl rfl ?_
  refine cz_aload_n (pc' := 651) (g_d dtbL_law_6 10 rfl) rfl rfl ?_
  refine cz_iload_n (pc' := 652) (g_d dtbL_law_6 11 rfl) rfl rfl ?_
  refine nz_iconst (pc' := 653) (g_d dtbL_law_6 12 rfl) rfl ?_
  refine nz_iadd (pc' := 654) (g_d dtbL_law_6 13 rfl) rfl ?_
  refine nz_sld ((i) + 1) (pc' := 655) (g_d dtbL_law_6 14 rfl) (by omega) (by omega) hL rfl ?_
  refine cz_aload_n (pc' := 656) (g_d dtbL_law_6 15 rfl) rfl rfl ?_
  refine cz_iload_n (pc' := 657) (g_d dtbL_law_6 16 rfl) rfl rfl ?_
  refine nz_iconst (pc' := 658) (g_d dtbL_law_6 17 rfl) rfl ?_
  refine nz_iadd (pc' := 659) (g_d dtbL_law_6 18 rfl) rfl ?_
  refine nz_sld ((i) + 2) (pc' := 660) (g_d dtbL_law_6 19 rfl) (by omega) (by omega) hL rfl ?_
  refine cz_aload_n (pc' := 661) (g_d dtbL_law_6 20 rfl) rfl rfl ?_
  refine cz_iload_n (pc' := 662) (g_d dtbL_law_6 21 rfl) rfl rfl ?_
  refine nz_iconst (pc' := 663) (g_d dtbL_law_6 22 rfl) rfl ?_
  refine nz_iadd (pc' := 664) (g_d dtbL_law_6 23 rfl) rfl ?_
  refine nz_sld ((i) + 3) (pc' := 665) (g_d dtbL_law_6 24 rfl) (by omega) (by omega) hL rfl ?_
  refine cz_aload_n (pc' := 666) (g_d dtbL_law_6 25 rfl) rfl rfl ?_
  refine cz_iload_n (pc' := 667) (g_d dtbL_law_6 26 rfl) rfl rfl ?_
  refine nz_iconst (pc' := 668) (g_d dtbL_law_6 27 rfl) rfl ?_
  refine nz_iadd (pc' := 669) (g_d dtbL_law_6 28 rfl) rfl ?_
  refine nz_sld ((i) + 4) (pc' := 670) (g_d dtbL_law_6 29 rfl) (by omega) (by omega) hL rfl ?_
  refine cz_aload_n (pc' := 671) (g_d dtbL_law_6 30 rfl) rfl rfl ?_
  refine cz_iload_n (pc' := 672) (g_d dtbL_law_6 31 rfl) rfl rfl ?_
  refine nz_iconst (pc' := 673) (g_d dtbL_law_6 32 rfl) rfl ?_
  refine nz_iadd (pc' := 674) (g_d dtbL_law_6 33 rfl) rfl ?_
  refine nz_sld ((i) + 5) (pc' := 675) (g_d dtbL_law_6 34 rfl) (by omega) (by omega) hL rfl ?_
  refine nz_cVi (M' := mX11_note) (k := 34) (As := [iv (gX G ((i) + 1)), iv (gX G ((i) + 2)), iv (gX G ((i) + 3)), iv (gX G ((i) + 4)), iv (gX G ((i) + 5))]) (S := [iv ((xNote A (gX G ((i) + 1)) (gX G ((i) + 2)) (gX G ((i) + 3)) (gX G ((i) + 4)) (gX G ((i) + 5))).1)]) (L := [some (.ref 1000), some (.ref 0), some (.ref 34), some (iv ((i : Int)))]) (pc' := 678) (g_d dtbL_law_6 35 rfl) lk_L_101 okX11_note (by decide) rfl rfl rfl rfl (Nat.le_of_ble_eq_true rfl) (Nat.le_of_ble_eq_true rfl) ⟨Nat.le_of_ble_eq_true rfl, Nat.le_of_ble_eq_true rfl⟩ rfl (b_note G W1 A B (hM.fm hf1) hA (gX G ((i) + 1)) (gX G ((i) + 2)) (gX G ((i) + 3)) (gX G ((i) + 4)) (gX G ((i) + 5)) (gX_in _ _) (gX_in _ _) (gX_in _ _) (gX_in _ _) (gX_in _ _)) ?_
  rintro _ W2 ⟨rfl, hM2, hg2⟩
  refine nz_same (tgt := 981) (g_d dtbL_law_6 36 rfl) rfl ?_
  exact hk W2 _ (hC1.fc hg2) hM2 (ao_Note hA hbb (gX G ((i) + 1)) (gX G ((i) + 2)) (gX G ((i) + 3)) (gX G ((i) + 4)) (gX G ((i) + 5)))

set_option maxRecDepth 20000 in
set_option maxHeartbeats 4000000 in
theorem lw_21 (G : Wd) (nm : String) (Z : ZS) (A : AS) (B : Int) (hC : CS Z A) (hM : MS Z A) (hA : AO B A) (hbb : B + 700000 ≤ 60000000) (hL : g_L G ≤ 384) (i : Nat) (hi : i + 6 ≤ g_L G) (Q : Option Value → ZS → Prop) (hk : ∀ (W : ZS) (A2 : AS), CS W A2 → MS W A2 → AO (B + 700000) A2 → Cn G (mLw nm) 981 [some (.ref 1000), some (.ref 0), some (.ref 34), some (iv (i : Int))] [] W Q) : Cn G (mLw nm) 683 [some (.ref 1000), some (.ref 0), some (.ref 34), some (iv (i : Int))] [] Z Q := by
  refine cz_aload_n (pc' := 684) (g_d dtbL_law_6 39 rfl) rfl rfl ?_
  refine nz_cVi (M' := mX10_forget) (k := 0) (As := []) (S := []) (L := [some (.ref 1000), some (.ref 0), some (.ref 34), some (iv ((i : Int)))]) (pc' := 687) (g_d dtbL_law_6 40 rfl) lk_L_102 okX10_forget (by decide) rfl rfl rfl rfl (Nat.le_of_ble_eq_true rfl) (Nat.le_of_ble_eq_true rfl) ⟨Nat.le_of_ble_eq_true rfl, Nat.le_of_ble_eq_true rfl⟩ rfl (a_forget G Z A B hC hA) ?_
  rintro _ W1 ⟨rfl, hC1, hf1⟩
  refine cz_aload_n (pc' := 688) (g_d dtbL_law_6 41 rfl) rfl rfl ?_
  refine nz_cVi (M' := mX11_forget) (k := 34) (As := []) (S := [iv ((xForget A).1)]) (L := [some (.ref 1000), some (.ref 0), some (.ref 34), some (iv ((i : Int)))]) (pc' := 691) (g_d dtbL_law_6 42 rfl) lk_L_105 okX11_forget (by decide) rfl rfl rfl rfl (Nat.le_of_ble_eq_true rfl) (Nat.le_of_ble_eq_true rfl) ⟨Nat.le_of_ble_eq_true rfl, Nat.le_of_ble_eq_true rfl⟩ rfl (b_forget G W1 A B (hM.fm hf1) hA) ?_
  rintro _ W2 ⟨rfl, hM2, hg2⟩
  refine nz_same (tgt := 981) (g_d dtbL_law_6 43 rfl) rfl ?_
  exact hk W2 _ (hC1.fc hg2) hM2 (ao_Forget hA hbb)

set_option maxRecDepth 20000 in
set_option maxHeartbeats 4000000 in
theorem lw_22 (G : Wd) (nm : String) (Z : ZS) (A : AS) (B : Int) (hC : CS Z A) (hM : MS Z A) (hA : AO B A) (hbb : B + 700000 ≤ 60000000) (hL : g_L G ≤ 384) (i : Nat) (hi : i + 6 ≤ g_L G) (Q : Option Value → ZS → Prop) (hk : ∀ (W : ZS) (A2 : AS), CS W A2 → MS W A2 → AO (B + 700000) A2 → Cn G (mLw nm) 981 [some (.ref 1000), some (.ref 0), some (.ref 34), some (iv (i : Int))] [] W Q) : Cn G (mLw nm) 696 [some (.ref 1000), some (.ref 0), some (.ref 34), some (iv (i : Int))] [] Z Q := by
  refine cz_aload_n (pc' := 697) (g_d dtbL_law_6 46 rfl) rfl rfl ?_
  refine cz_aload_n (pc' := 698) (g_d dtbL_law_6 47 rfl) rfl rfl ?_
  refine cz_iload_n (pc' := 699) (g_d dtbL_law_6 48 rfl) rfl rfl ?_
  refine nz_iconst (pc' := 700) (g_d dtbL_law_6 49 rfl) rfl ?_
  refine nz_iadd (pc' := 701) (g_d dtbL_law_6 50 rfl) rfl ?_
  refine nz_sld ((i) + 1) (pc' := 702) (g_d dtbL_law_6 51 rfl) (by omega) (by omega) hL rfl ?_
  refine nz_cVi (M' := mX10_is) (k := 0) (As := [iv (gX G ((i) + 1))]) (S := []) (L := [some (.ref 1000), some (.ref 0), some (.ref 34), some (iv ((i : Int)))]) (pc' := 705) (g_d dtbL_law_6 52 rfl) lk_L_106 okX10_is (by decide) rfl rfl rfl rfl (Nat.le_of_ble_eq_true rfl) (Nat.le_of_ble_eq_true rfl) ⟨Nat.le_of_ble_eq_true rfl, Nat.le_of_ble_eq_true rfl⟩ rfl (a_is G Z A B hC hA (gX G ((i) + 1)) (gX_in _ _)) ?_
  rintro _ W1 ⟨rfl, hC1, hf1⟩
  refine cz_aload_n (pc' := 706) (g_d dtbL_law_6 53 rfl) rfl rfl ?_
  refine cz_aload_n (pc' := 707) (g_d dtbL_law_6 54 rfl) rfl rfl ?_
  refine cz_iload_n (pc' := 708) (g_d dtbL_law_6 55 rfl) rfl rfl ?_
  refine nz_iconst (pc' := 709) (g_d dtbL_law_6 56 rfl) rfl ?_
  refine nz_iadd (pc' := 710) (g_d dtbL_law_6 57 rfl) rfl ?_
  refine nz_sld ((i) + 1) (pc' := 711) (g_d dtbL_law_6 58 rfl) (by omega) (by omega) hL rfl ?_
  refine nz_cVi (M' := mX11_is) (k := 34) (As := [iv (gX G ((i) + 1))]) (S := [iv ((xIs A (gX G ((i) + 1))).1)]) (L := [some (.ref 1000), some (.ref 0), some (.ref 34), some (iv ((i : Int)))]) (pc' := 714) (g_d dtbL_law_6 59 rfl) lk_L_109 okX11_is (by decide) rfl rfl rfl rfl (Nat.le_of_ble_eq_true rfl) (Nat.le_of_ble_eq_true rfl) ⟨Nat.le_of_ble_eq_true rfl, Nat.le_of_ble_eq_true rfl⟩ rfl (b_is G W1 A B (hM.fm hf1) hA (gX G ((i) + 1)) (gX_in _ _)) ?_
  rintro _ W2 ⟨rfl, hM2, hg2⟩
  refine nz_same (tgt := 981) (g_d dtbL_law_7 0 rfl) rfl ?_
  exact hk W2 _ (hC1.fc hg2) hM2 (ao_Is hA hbb (gX G ((i) + 1)))

set_option maxRecDepth 20000 in
set_option maxHeartbeats 4000000 in
theorem lw_23 (G : Wd) (nm : String) (Z : ZS) (A : AS) (B : Int) (hC : CS Z A) (hM : MS Z A) (hA : AO B A) (hbb : B + 700000 ≤ 60000000) (hL : g_L G ≤ 384) (i : Nat) (hi : i + 6 ≤ g_L G) (Q : Option Value → ZS → Prop) (hk : ∀ (W : ZS) (A2 : AS), CS W A2 → MS W A2 → AO (B + 700000) A2 → Cn G (mLw nm) 981 [some (.ref 1000), some (.ref 0), some (.ref 34), some (iv (i : Int))] [] W Q) : Cn G (mLw nm) 719 [some (.ref 1000), some (.ref 0), some (.ref 34), some (iv (i : Int))] [] Z Q := by
  refine cz_aload_n (pc' := 720) (g_d dtbL_law_7 3 rfl) rfl rfl ?_
  refine cz_aload_n (pc' := 721) (g_d dtbL_law_7 4 rfl) rfl rfl ?_
  refine cz_iload_n (pc' := 722) (g_d dtbL_law_7 5 rfl) rfl rfl ?_
  refine nz_iconst (pc' := 723) (g_d dtbL_law_7 6 rfl) rfl ?_
  refine nz_iadd (pc' := 724) (g_d dtbL_law_7 7 rfl) rfl ?_
  refine nz_sld ((i) + 1) (pc' := 725) (g_d dtbL_law_7 8 rfl) (by omega) (by omega) hL rfl ?_
  refine nz_cVi (M' := mX10_look) (k := 0) (As := [iv (gX G ((i) + 1))]) (S := []) (L := [some (.ref 1000), some (.ref 0), some (.ref 34), some (iv ((i : Int)))]) (pc' := 728) (g_d dtbL_law_7 9 rfl) lk_L_110 okX10_look (by decide) rfl rfl rfl rfl (Nat.le_of_ble_eq_true rfl) (Nat.le_of_ble_eq_true rfl) ⟨Nat.le_of_ble_eq_true rfl, Nat.le_of_ble_eq_true rfl⟩ rfl (a_look G Z A B hC hA (gX G ((i) + 1)) (gX_in _ _)) ?_
  rintro _ W1 ⟨rfl, hC1, hf1⟩
  refine cz_aload_n (pc' := 729) (g_d dtbL_law_7 10 rfl) rfl rfl ?_
  refine cz_aload_n (pc' := 730) (g_d dtbL_law_7 11 rfl) rfl rfl ?_
  refine cz_iload_n (pc' := 731) (g_d dtbL_law_7 12 rfl) rfl rfl ?_
  refine nz_iconst (pc' := 732) (g_d dtbL_law_7 13 rfl) rfl ?_
  refine nz_iadd (pc' := 733) (g_d dtbL_law_7 14 rfl) rfl ?_
  refine nz_sld ((i) + 1) (pc' := 734) (g_d dtbL_law_7 15 rfl) (by omega) (by omega) hL rfl ?_
  refine nz_cVi (M' := mX11_look) (k := 34) (As := [iv (gX G ((i) + 1))]) (S := [iv ((xLook A (gX G ((i) + 1))).1)]) (L := [some (.ref 1000), some (.ref 0), some (.ref 34), some (iv ((i : Int)))]) (pc' := 737) (g_d dtbL_law_7 16 rfl) lk_L_113 okX11_look (by decide) rfl rfl rfl rfl (Nat.le_of_ble_eq_true rfl) (Nat.le_of_ble_eq_true rfl) ⟨Nat.le_of_ble_eq_true rfl, Nat.le_of_ble_eq_true rfl⟩ rfl (b_look G W1 A B (hM.fm hf1) hA (gX G ((i) + 1)) (gX_in _ _)) ?_
  rintro _ W2 ⟨rfl, hM2, hg2⟩
  refine nz_same (tgt := 981) (g_d dtbL_law_7 17 rfl) rfl ?_
  exact hk W2 _ (hC1.fc hg2) hM2 (ao_Look hA hbb (gX G ((i) + 1)))

set_option maxRecDepth 20000 in
set_option maxHeartbeats 4000000 in
theorem lw_24 (G : Wd) (nm : String) (Z : ZS) (A : AS) (B : Int) (hC : CS Z A) (hM : MS Z A) (hA : AO B A) (hbb : B + 700000 ≤ 60000000) (hL : g_L G ≤ 384) (i : Nat) (hi : i + 6 ≤ g_L G) (Q : Option Value → ZS → Prop) (hk : ∀ (W : ZS) (A2 : AS), CS W A2 → MS W A2 → AO (B + 700000) A2 → Cn G (mLw nm) 981 [some (.ref 1000), some (.ref 0), some (.ref 34), some (iv (i : Int))] [] W Q) : Cn G (mLw nm) 742 [some (.ref 1000), some (.ref 0), some (.ref 34), some (iv (i : Int))] [] Z Q := by
  refine cz_aload_n (pc' := 743) (g_d dtbL_law_7 20 rfl) rfl rfl ?_
  refine cz_aload_n (pc' := 744) (g_d dtbL_law_7 21 rfl) rfl rfl ?_
  refine cz_iload_n (pc' := 745) (g_d dtbL_law_7 22 rfl) rfl rfl ?_
  refine nz_iconst (pc' := 746) (g_d dtbL_law_7 23 rfl) rfl ?_
  refine nz_iadd (pc' := 747) (g_d dtbL_law_7 24 rfl) rfl ?_
  refine nz_sld ((i) + 1) (pc' := 748) (g_d dtbL_law_7 25 rfl) (by omega) (by omega) hL rfl ?_
  refine cz_aload_n (pc' := 749) (g_d dtbL_law_7 26 rfl) rfl rfl ?_
  refine cz_iload_n (pc' := 750) (g_d dtbL_law_7 27 rfl) rfl rfl ?_
  refine nz_iconst (pc' := 751) (g_d dtbL_law_7 28 rfl) rfl ?_
  refine nz_iadd (pc' := 752) (g_d dtbL_law_7 29 rfl) rfl ?_
  refine nz_sld ((i) + 2) (pc' := 753) (g_d dtbL_law_7 30 rfl) (by omega) (by omega) hL rfl ?_
  refine nz_cVi (M' := mX10_two) (k := 0) (As := [iv (gX G ((i) + 1)), iv (gX G ((i) + 2))]) (S := []) (L := [some (.ref 1000), some (.ref 0), some (.ref 34), some (iv ((i : Int)))]) (pc' := 756) (g_d dtbL_law_7 31 rfl) lk_L_114 okX10_two (by decide) rfl rfl rfl rfl (Nat.le_of_ble_eq_true rfl) (Nat.le_of_ble_eq_true rfl) ⟨Nat.le_of_ble_eq_true rfl, Nat.le_of_ble_eq_true rfl⟩ rfl (a_two G Z A B hC hA (gX G ((i) + 1)) (gX G ((i) + 2)) (gX_in _ _) (gX_in _ _)) ?_
  rintro r1 W1 (⟨hq1, ht1, hC1, hf1⟩ | ⟨hq1, rfl, hC1, hf1⟩)
  · refine cz_aload_n (pc' := 757) (g_d dtbL_law_7 32 rfl) rfl rfl ?_
    refine cz_aload_n (pc' := 758) (g_d dtbL_law_7 33 rfl) rfl rfl ?_
    refine cz_iload_n (pc' := 759) (g_d dtbL_law_7 34 rfl) rfl rfl ?_
    refine nz_iconst (pc' := 760) (g_d dtbL_law_7 35 rfl) rfl ?_
    refine nz_iadd (pc' := 761) (g_d dtbL_law_7 36 rfl) rfl ?_
    refine nz_sld ((i) + 1) (pc' := 762) (g_d dtbL_law_7 37 rfl) (by omega) (by omega) hL rfl ?_
    refine cz_aload_n (pc' := 763) (g_d dtbL_law_7 38 rfl) rfl rfl ?_
    refine cz_iload_n (pc' := 764) (g_d dtbL_law_7 39 rfl) rfl rfl ?_
    refine nz_iconst (pc' := 765) (g_d dtbL_law_7 40 rfl) rfl ?_
    refine nz_iadd (pc' := 766) (g_d dtbL_law_7 41 rfl) rfl ?_
    refine nz_sld ((i) + 2) (pc' := 767) (g_d dtbL_law_7 42 rfl) (by omega) (by omega) hL rfl ?_
    refine nz_cVi (M' := mX11_two) (k := 34) (As := [iv (gX G ((i) + 1)), iv (gX G ((i) + 2))]) (S := [iv (r1)]) (L := [some (.ref 1000), some (.ref 0), some (.ref 34), some (iv ((i : Int)))]) (pc' := 770) (g_d dtbL_law_7 43 rfl) lk_L_117 okX11_two (by decide) rfl rfl rfl rfl (Nat.le_of_ble_eq_true rfl) (Nat.le_of_ble_eq_true rfl) ⟨Nat.le_of_ble_eq_true rfl, Nat.le_of_ble_eq_true rfl⟩ rfl (b_two G W1 A B (hM.fm hf1) hA (gX G ((i) + 1)) (gX G ((i) + 2)) (gX_in _ _) (gX_in _ _) hbb) ?_
    rintro r2 W2 (⟨hq2, ht2, hM2, hg2⟩ | ⟨hq2, rfl, hM2, hg2⟩)
    · obtain rfl := twP_u ht1 ht2
      refine nz_same (tgt := 981) (g_d dtbL_law_7 44 rfl) rfl ?_
      exact hk W2 _ (hC1.fc hg2) hM2 (by first | exact ao_up hA hbb | exact ao_bad hA hbb)
    · exact absurd hq1 hq2
  · refine cz_aload_n (pc' := 757) (g_d dtbL_law_7 32 rfl) rfl rfl ?_
    refine cz_aload_n (pc' := 758) (g_d dtbL_law_7 33 rfl) rfl rfl ?_
    refine cz_iload_n (pc' := 759) (g_d dtbL_law_7 34 rfl) rfl rfl ?_
    refine nz_iconst (pc' := 760) (g_d dtbL_law_7 35 rfl) rfl ?_
    refine nz_iadd (pc' := 761) (g_d dtbL_law_7 36 rfl) rfl ?_
    refine nz_sld ((i) + 1) (pc' := 762) (g_d dtbL_law_7 37 rfl) (by omega) (by omega) hL rfl ?_
    refine cz_aload_n (pc' := 763) (g_d dtbL_law_7 38 rfl) rfl rfl ?_
    refine cz_iload_n (pc' := 764) (g_d dtbL_law_7 39 rfl) rfl rfl ?_
    refine nz_iconst (pc' := 765) (g_d dtbL_law_7 40 rfl) rfl ?_
    refine nz_iadd (pc' := 766) (g_d dtbL_law_7 41 rfl) rfl ?_
    refine nz_sld ((i) + 2) (pc' := 767) (g_d dtbL_law_7 42 rfl) (by omega) (by omega) hL rfl ?_
    refine nz_cVi (M' := mX11_two) (k := 34) (As := [iv (gX G ((i) + 1)), iv (gX G ((i) + 2))]) (S := [iv (-10)]) (L := [some (.ref 1000), some (.ref 0), some (.ref 34), some (iv ((i : Int)))]) (pc' := 770) (g_d dtbL_law_7 43 rfl) lk_L_117 okX11_two (by decide) rfl rfl rfl rfl (Nat.le_of_ble_eq_true rfl) (Nat.le_of_ble_eq_true rfl) ⟨Nat.le_of_ble_eq_true rfl, Nat.le_of_ble_eq_true rfl⟩ rfl (b_two G W1 A B (hM.fm hf1) hA (gX G ((i) + 1)) (gX G ((i) + 2)) (gX_in _ _) (gX_in _ _) hbb) ?_
    rintro r2 W2 (⟨hq2, ht2, hM2, hg2⟩ | ⟨hq2, rfl, hM2, hg2⟩)
    · exact absurd hq2 hq1
    · refine nz_same (tgt := 981) (g_d dtbL_law_7 44 rfl) rfl ?_
      exact hk W2 _ (hC1.fc hg2) hM2 (by first | exact ao_up hA hbb | exact ao_bad hA hbb)

set_option maxRecDepth 20000 in
set_option maxHeartbeats 4000000 in
theorem lw_25 (G : Wd) (nm : String) (Z : ZS) (A : AS) (B : Int) (hC : CS Z A) (hM : MS Z A) (hA : AO B A) (hbb : B + 700000 ≤ 60000000) (hL : g_L G ≤ 384) (i : Nat) (hi : i + 6 ≤ g_L G) (Q : Option Value → ZS → Prop) (hk : ∀ (W : ZS) (A2 : AS), CS W A2 → MS W A2 → AO (B + 700000) A2 → Cn G (mLw nm) 981 [some (.ref 1000), some (.ref 0), some (.ref 34), some (iv (i : Int))] [] W Q) : Cn G (mLw nm) 775 [some (.ref 1000), some (.ref 0), some (.ref 34), some (iv (i : Int))] [] Z Q := by
  refine cz_aload_n (pc' := 776) (g_d dtbL_law_7 47 rfl) rfl rfl ?_
  refine cz_aload_n (pc' := 777) (g_d dtbL_law_7 48 rfl) rfl rfl ?_
  refine cz_iload_n (pc' := 778) (g_d dtbL_law_7 49 rfl) rfl rfl ?_
  refine nz_iconst (pc' := 779) (g_d dtbL_law_7 50 rfl) rfl ?_
  refine nz_iadd (pc' := 780) (g_d dtbL_law_7 51 rfl) rfl ?_
  refine nz_sld ((i) + 1) (pc' := 781) (g_d dtbL_law_7 52 rfl) (by omega) (by omega) hL rfl ?_
  refine cz_aload_n (pc' := 782) (g_d dtbL_law_7 53 rfl) rfl rfl ?_
  refine cz_iload_n (pc' := 783) (g_d dtbL_law_7 54 rfl) rfl rfl ?_
  refine nz_iconst (pc' := 784) (g_d dtbL_law_7 55 rfl) rfl ?_
  refine nz_iadd (pc' := 785) (g_d dtbL_law_7 56 rfl) rfl ?_
  refine nz_sld ((i) + 2) (pc' := 786) (g_d dtbL_law_7 57 rfl) (by omega) (by omega) hL rfl ?_
  refine cz_aload_n (pc' := 787) (g_d dtbL_law_7 58 rfl) rfl rfl ?_
  refine cz_iload_n (pc' := 788) (g_d dtbL_law_7 59 rfl) rfl rfl ?_
  refine nz_iconst (pc' := 789) (g_d dtbL_law_8 0 rfl) rfl ?_
  refine nz_iadd (pc' := 790) (g_d dtbL_law_8 1 rfl) rfl ?_
  refine nz_sld ((i) + 3) (pc' := 791) (g_d dtbL_law_8 2 rfl) (by omega) (by omega) hL rfl ?_
  refine nz_cVi (M' := mX10_boiler) (k := 0) (As := [iv (gX G ((i) + 1)), iv (gX G ((i) + 2)), iv (gX G ((i) + 3))]) (S := []) (L := [some (.ref 1000), some (.ref 0), some (.ref 34), some (iv ((i : Int)))]) (pc' := 794) (g_d dtbL_law_8 3 rfl) lk_L_118 okX10_boiler (by decide) rfl rfl rfl rfl (Nat.le_of_ble_eq_true rfl) (Nat.le_of_ble_eq_true rfl) ⟨Nat.le_of_ble_eq_true rfl, Nat.le_of_ble_eq_true rfl⟩ rfl (a_boiler G Z A B hC hA (gX G ((i) + 1)) (gX G ((i) + 2)) (gX G ((i) + 3)) (gX_in _ _) (gX_in _ _) (gX_in _ _)) ?_
  rintro _ W1 ⟨rfl, hC1, hf1⟩
  refine cz_aload_n (pc' := 795) (g_d dtbL_law_8 4 rfl) rfl rfl ?_
  refine cz_aload_n (pc' := 796) (g_d dtbL_law_8 5 rfl) rfl rfl ?_
  refine cz_iload_n (pc' := 797) (g_d dtbL_law_8 6 rfl) rfl rfl ?_
  refine nz_iconst (pc' := 798) (g_d dtbL_law_8 7 rfl) rfl ?_
  refine nz_iadd (pc' := 799) (g_d dtbL_law_8 8 rfl) rfl ?_
  refine nz_sld ((i) + 1) (pc' := 800) (g_d dtbL_law_8 9 rfl) (by omega) (by omega) hL rfl ?_
  refine cz_aload_n (pc' := 801) (g_d dtbL_law_8 10 rfl) rfl rfl ?_
  refine cz_iload_n (pc' := 802) (g_d dtbL_law_8 11 rfl) rfl rfl ?_
  refine nz_iconst (pc' := 803) (g_d dtbL_law_8 12 rfl) rfl ?_
  refine nz_iadd (pc' := 804) (g_d dtbL_law_8 13 rfl) rfl ?_
  refine nz_sld ((i) + 2) (pc' := 805) (g_d dtbL_law_8 14 rfl) (by omega) (by omega) hL rfl ?_
  refine cz_aload_n (pc' := 806) (g_d dtbL_law_8 15 rfl) rfl rfl ?_
  refine cz_iload_n (pc' := 807) (g_d dtbL_law_8 16 rfl) rfl rfl ?_
  refine nz_iconst (pc' := 808) (g_d dtbL_law_8 17 rfl) rfl ?_
  refine nz_iadd (pc' := 809) (g_d dtbL_law_8 18 rfl) rfl ?_
  refine nz_sld ((i) + 3) (pc' := 810) (g_d dtbL_law_8 19 rfl) (by omega) (by omega) hL rfl ?_
  refine nz_cVi (M' := mX11_boiler) (k := 34) (As := [iv (gX G ((i) + 1)), iv (gX G ((i) + 2)), iv (gX G ((i) + 3))]) (S := [iv ((xBoiler A (gX G ((i) + 1)) (gX G ((i) + 2)) (gX G ((i) + 3))).1)]) (L := [some (.ref 1000), some (.ref 0), some (.ref 34), some (iv ((i : Int)))]) (pc' := 813) (g_d dtbL_law_8 20 rfl) lk_L_121 okX11_boiler (by decide) rfl rfl rfl rfl (Nat.le_of_ble_eq_true rfl) (Nat.le_of_ble_eq_true rfl) ⟨Nat.le_of_ble_eq_true rfl, Nat.le_of_ble_eq_true rfl⟩ rfl (b_boiler G W1 A B (hM.fm hf1) hA (gX G ((i) + 1)) (gX G ((i) + 2)) (gX G ((i) + 3)) (gX_in _ _) (gX_in _ _) (gX_in _ _) hbb) ?_
  rintro _ W2 ⟨rfl, hM2, hg2⟩
  refine nz_same (tgt := 981) (g_d dtbL_law_8 21 rfl) rfl ?_
  exact hk W2 _ (hC1.fc hg2) hM2 (ao_Boiler hA hbb (gX G ((i) + 1)) (gX G ((i) + 2)) (gX G ((i) + 3)))

set_option maxRecDepth 20000 in
set_option maxHeartbeats 4000000 in
theorem lw_26 (G : Wd) (nm : String) (Z : ZS) (A : AS) (B : Int) (hC : CS Z A) (hM : MS Z A) (hA : AO B A) (hbb : B + 700000 ≤ 60000000) (hL : g_L G ≤ 384) (i : Nat) (hi : i + 6 ≤ g_L G) (Q : Option Value → ZS → Prop) (hk : ∀ (W : ZS) (A2 : AS), CS W A2 → MS W A2 → AO (B + 700000) A2 → Cn G (mLw nm) 981 [some (.ref 1000), some (.ref 0), some (.ref 34), some (iv (i : Int))] [] W Q) : Cn G (mLw nm) 818 [some (.ref 1000), some (.ref 0), some (.ref 34), some (iv (i : Int))] [] Z Q := by
  refine cz_aload_n (pc' := 819) (g_d dtbL_law_8 24 rfl) rfl rfl ?_
  refine cz_aload_n (pc' := 820) (g_d dtbL_law_8 25 rfl) rfl rfl ?_
  refine cz_iload_n (pc' := 821) (g_d dtbL_law_8 26 rfl) rfl rfl ?_
  refine nz_iconst (pc' := 822) (g_d dtbL_law_8 27 rfl) rfl ?_
  refine nz_iadd (pc' := 823) (g_d dtbL_law_8 28 rfl) rfl ?_
  refine nz_sld ((i) + 1) (pc' := 824) (g_d dtbL_law_8 29 rfl) (by omega) (by omega) hL rfl ?_
  refine cz_aload_n (pc' := 825) (g_d dtbL_law_8 30 rfl) rfl rfl ?_
  refine cz_iload_n (pc' := 826) (g_d dtbL_law_8 31 rfl) rfl rfl ?_
  refine nz_iconst (pc' := 827) (g_d dtbL_law_8 32 rfl) rfl ?_
  refine nz_iadd (pc' := 828) (g_d dtbL_law_8 33 rfl) rfl ?_
  refine nz_sld ((i) + 2) (pc' := 829) (g_d dtbL_law_8 34 rfl) (by omega) (by omega) hL rfl ?_
  refine nz_cVi (M' := mX10_years) (k := 0) (As := [iv (gX G ((i) + 1)), iv (gX G ((i) + 2))]) (S := []) (L := [some (.ref 1000), some (.ref 0), some (.ref 34), some (iv ((i : Int)))]) (pc' := 832) (g_d dtbL_law_8 35 rfl) lk_L_122 okX10_years (by decide) rfl rfl rfl rfl (Nat.le_of_ble_eq_true rfl) (Nat.le_of_ble_eq_true rfl) ⟨Nat.le_of_ble_eq_true rfl, Nat.le_of_ble_eq_true rfl⟩ rfl (a_years G Z A B hC hA (gX G ((i) + 1)) (gX G ((i) + 2)) (gX_in _ _) (gX_in _ _)) ?_
  rintro _ W1 ⟨rfl, hC1, hf1⟩
  refine cz_aload_n (pc' := 833) (g_d dtbL_law_8 36 rfl) rfl rfl ?_
  refine cz_aload_n (pc' := 834) (g_d dtbL_law_8 37 rfl) rfl rfl ?_
  refine cz_iload_n (pc' := 835) (g_d dtbL_law_8 38 rfl) rfl rfl ?_
  refine nz_iconst (pc' := 836) (g_d dtbL_law_8 39 rfl) rfl ?_
  refine nz_iadd (pc' := 837) (g_d dtbL_law_8 40 rfl) rfl ?_
  refine nz_sld ((i) + 1) (pc' := 838) (g_d dtbL_law_8 41 rfl) (by omega) (by omega) hL rfl ?_
  refine cz_aload_n (pc' := 839) (g_d dtbL_law_8 42 rfl) rfl rfl ?_
  refine cz_iload_n (pc' := 840) (g_d dtbL_law_8 43 rfl) rfl rfl ?_
  refine nz_iconst (pc' := 841) (g_d dtbL_law_8 44 rfl) rfl ?_
  refine nz_iadd (pc' := 842) (g_d dtbL_law_8 45 rfl) rfl ?_
  refine nz_sld ((i) + 2) (pc' := 843) (g_d dtbL_law_8 46 rfl) (by omega) (by omega) hL rfl ?_
  refine nz_cVi (M' := mX11_years) (k := 34) (As := [iv (gX G ((i) + 1)), iv (gX G ((i) + 2))]) (S := [iv ((xYears A (gX G ((i) + 1)) (gX G ((i) + 2))).1)]) (L := [some (.ref 1000), some (.ref 0), some (.ref 34), some (iv ((i : Int)))]) (pc' := 846) (g_d dtbL_law_8 47 rfl) lk_L_125 okX11_years (by decide) rfl rfl rfl rfl (Nat.le_of_ble_eq_true rfl) (Nat.le_of_ble_eq_true rfl) ⟨Nat.le_of_ble_eq_true rfl, Nat.le_of_ble_eq_true rfl⟩ rfl (b_years G W1 A B (hM.fm hf1) hA (gX G ((i) + 1)) (gX G ((i) + 2)) (gX_in _ _) (gX_in _ _) hbb) ?_
  rintro _ W2 ⟨rfl, hM2, hg2⟩
  refine nz_same (tgt := 981) (g_d dtbL_law_8 48 rfl) rfl ?_
  exact hk W2 _ (hC1.fc hg2) hM2 (ao_Years hA hbb (gX G ((i) + 1)) (gX G ((i) + 2)))

set_option maxRecDepth 20000 in
set_option maxHeartbeats 4000000 in
theorem lw_27 (G : Wd) (nm : String) (Z : ZS) (A : AS) (B : Int) (hC : CS Z A) (hM : MS Z A) (hA : AO B A) (hbb : B + 700000 ≤ 60000000) (hL : g_L G ≤ 384) (i : Nat) (hi : i + 6 ≤ g_L G) (Q : Option Value → ZS → Prop) (hk : ∀ (W : ZS) (A2 : AS), CS W A2 → MS W A2 → AO (B + 700000) A2 → Cn G (mLw nm) 981 [some (.ref 1000), some (.ref 0), some (.ref 34), some (iv (i : Int))] [] W Q) : Cn G (mLw nm) 851 [some (.ref 1000), some (.ref 0), some (.ref 34), some (iv (i : Int))] [] Z Q := by
  refine cz_aload_n (pc' := 852) (g_d dtbL_law_8 51 rfl) rfl rfl ?_
  refine cz_aload_n (pc' := 853) (g_d dtbL_law_8 52 rfl) rfl rfl ?_
  refine cz_iload_n (pc' := 854) (g_d dtbL_law_8 53 rfl) rfl rfl ?_
  refine nz_iconst (pc' := 855) (g_d dtbL_law_8 54 rfl) rfl ?_
  refine nz_iadd (pc' := 856) (g_d dtbL_law_8 55 rfl) rfl ?_
  refine nz_sld ((i) + 1) (pc' := 857) (g_d dtbL_law_8 56 rfl) (by omega) (by omega) hL rfl ?_
  refine nz_cVl (M' := mX10_part) (k := 0) (As := [iv (gX G ((i) + 1))]) (S := []) (L := [some (.ref 1000), some (.ref 0), some (.ref 34), some (iv ((i : Int)))]) (pc' := 860) (g_d dtbL_law_8 57 rfl) lk_L_126 okX10_part (by decide) rfl rfl rfl rfl (Nat.le_of_ble_eq_true rfl) (Nat.le_of_ble_eq_true rfl) ⟨Nat.le_of_ble_eq_true rfl, Nat.le_of_ble_eq_true rfl⟩ rfl (a_part G Z A B hC hA (gX G ((i) + 1)) (gX_in _ _)) ?_
  rintro _ W1 ⟨rfl, hC1, hf1⟩
  refine cz_aload_n (pc' := 861) (g_d dtbL_law_8 58 rfl) rfl rfl ?_
  refine cz_aload_n (pc' := 862) (g_d dtbL_law_8 59 rfl) rfl rfl ?_
  refine cz_iload_n (pc' := 863) (g_d dtbL_law_9 0 rfl) rfl rfl ?_
  refine nz_iconst (pc' := 864) (g_d dtbL_law_9 1 rfl) rfl ?_
  refine nz_iadd (pc' := 865) (g_d dtbL_law_9 2 rfl) rfl ?_
  refine nz_sld ((i) + 1) (pc' := 866) (g_d dtbL_law_9 3 rfl) (by omega) (by omega) hL rfl ?_
  refine nz_cVl (M' := mX11_part) (k := 34) (As := [iv (gX G ((i) + 1))]) (S := [il ((xPart A (gX G ((i) + 1))).1)]) (L := [some (.ref 1000), some (.ref 0), some (.ref 34), some (iv ((i : Int)))]) (pc' := 869) (g_d dtbL_law_9 4 rfl) lk_L_130 okX11_part (by decide) rfl rfl rfl rfl (Nat.le_of_ble_eq_true rfl) (Nat.le_of_ble_eq_true rfl) ⟨Nat.le_of_ble_eq_true rfl, Nat.le_of_ble_eq_true rfl⟩ rfl (b_part G W1 A B (hM.fm hf1) hA (gX G ((i) + 1)) (gX_in _ _)) ?_
  rintro _ W2 ⟨rfl, hM2, hg2⟩
  refine nz_lsame (pc' := 870) (g_d dtbL_law_9 5 rfl) rfl ?_
  refine nz_if_eq_t (tgt := 981) (g_d dtbL_law_9 6 rfl) (by omega) rfl (by omega) ?_
  exact hk W2 _ (hC1.fc hg2) hM2 (ao_Part hA hbb (gX G ((i) + 1)))

set_option maxRecDepth 20000 in
set_option maxHeartbeats 4000000 in
theorem lw_28 (G : Wd) (nm : String) (Z : ZS) (A : AS) (B : Int) (hC : CS Z A) (hM : MS Z A) (hA : AO B A) (hbb : B + 700000 ≤ 60000000) (hL : g_L G ≤ 384) (i : Nat) (hi : i + 6 ≤ g_L G) (Q : Option Value → ZS → Prop) (hk : ∀ (W : ZS) (A2 : AS), CS W A2 → MS W A2 → AO (B + 700000) A2 → Cn G (mLw nm) 981 [some (.ref 1000), some (.ref 0), some (.ref 34), some (iv (i : Int))] [] W Q) : Cn G (mLw nm) 875 [some (.ref 1000), some (.ref 0), some (.ref 34), some (iv (i : Int))] [] Z Q := by
  refine cz_aload_n (pc' := 876) (g_d dtbL_law_9 9 rfl) rfl rfl ?_
  refine cz_aload_n (pc' := 877) (g_d dtbL_law_9 10 rfl) rfl rfl ?_
  refine cz_iload_n (pc' := 878) (g_d dtbL_law_9 11 rfl) rfl rfl ?_
  refine nz_iconst (pc' := 879) (g_d dtbL_law_9 12 rfl) rfl ?_
  refine nz_iadd (pc' := 880) (g_d dtbL_law_9 13 rfl) rfl ?_
  refine nz_sld ((i) + 1) (pc' := 881) (g_d dtbL_law_9 14 rfl) (by omega) (by omega) hL rfl ?_
  refine nz_cVi (M' := mX10_image) (k := 0) (As := [iv (gX G ((i) + 1))]) (S := []) (L := [some (.ref 1000), some (.ref 0), some (.ref 34), some (iv ((i : Int)))]) (pc' := 884) (g_d dtbL_law_9 15 rfl) lk_L_131 okX10_image (by decide) rfl rfl rfl rfl (Nat.le_of_ble_eq_true rfl) (Nat.le_of_ble_eq_true rfl) ⟨Nat.le_of_ble_eq_true rfl, Nat.le_of_ble_eq_true rfl⟩ rfl (a_image G Z A B hC hA (gX G ((i) + 1)) (gX_in _ _)) ?_
  rintro _ W1 ⟨rfl, hC1, hf1⟩
  refine cz_aload_n (pc' := 885) (g_d dtbL_law_9 16 rfl) rfl rfl ?_
  refine cz_aload_n (pc' := 886) (g_d dtbL_law_9 17 rfl) rfl rfl ?_
  refine cz_iload_n (pc' := 887) (g_d dtbL_law_9 18 rfl) rfl rfl ?_
  refine nz_iconst (pc' := 888) (g_d dtbL_law_9 19 rfl) rfl ?_
  refine nz_iadd (pc' := 889) (g_d dtbL_law_9 20 rfl) rfl ?_
  refine nz_sld ((i) + 1) (pc' := 890) (g_d dtbL_law_9 21 rfl) (by omega) (by omega) hL rfl ?_
  refine nz_cVi (M' := mX11_image) (k := 34) (As := [iv (gX G ((i) + 1))]) (S := [iv ((xImage A (gX G ((i) + 1))).1)]) (L := [some (.ref 1000), some (.ref 0), some (.ref 34), some (iv ((i : Int)))]) (pc' := 893) (g_d dtbL_law_9 22 rfl) lk_L_134 okX11_image (by decide) rfl rfl rfl rfl (Nat.le_of_ble_eq_true rfl) (Nat.le_of_ble_eq_true rfl) ⟨Nat.le_of_ble_eq_true rfl, Nat.le_of_ble_eq_true rfl⟩ rfl (b_image G W1 A B (hM.fm hf1) hA (gX G ((i) + 1)) (gX_in _ _)) ?_
  rintro _ W2 ⟨rfl, hM2, hg2⟩
  refine nz_same (tgt := 981) (g_d dtbL_law_9 23 rfl) rfl ?_
  exact hk W2 _ (hC1.fc hg2) hM2 (ao_Image hA hbb (gX G ((i) + 1)))

set_option maxRecDepth 20000 in
set_option maxHeartbeats 4000000 in
theorem lw_29 (G : Wd) (nm : String) (Z : ZS) (A : AS) (B : Int) (hC : CS Z A) (hM : MS Z A) (hA : AO B A) (hbb : B + 700000 ≤ 60000000) (hL : g_L G ≤ 384) (i : Nat) (hi : i + 6 ≤ g_L G) (Q : Option Value → ZS → Prop) (hk : ∀ (W : ZS) (A2 : AS), CS W A2 → MS W A2 → AO (B + 700000) A2 → Cn G (mLw nm) 981 [some (.ref 1000), some (.ref 0), some (.ref 34), some (iv (i : Int))] [] W Q) : Cn G (mLw nm) 898 [some (.ref 1000), some (.ref 0), some (.ref 34), some (iv (i : Int))] [] Z Q := by
  refine cz_aload_n (pc' := 899) (g_d dtbL_law_9 26 rfl) rfl rfl ?_
  refine cz_aload_n (pc' := 900) (g_d dtbL_law_9 27 rfl) rfl rfl ?_
  refine cz_iload_n (pc' := 901) (g_d dtbL_law_9 28 rfl) rfl rfl ?_
  refine nz_iconst (pc' := 902) (g_d dtbL_law_9 29 rfl) rfl ?_
  refine nz_iadd (pc' := 903) (g_d dtbL_law_9 30 rfl) rfl ?_
  refine nz_sld ((i) + 1) (pc' := 904) (g_d dtbL_law_9 31 rfl) (by omega) (by omega) hL rfl ?_
  refine nz_cVi (M' := mX10_from) (k := 0) (As := [iv (gX G ((i) + 1))]) (S := []) (L := [some (.ref 1000), some (.ref 0), some (.ref 34), some (iv ((i : Int)))]) (pc' := 907) (g_d dtbL_law_9 32 rfl) lk_L_135 okX10_from (by decide) rfl rfl rfl rfl (Nat.le_of_ble_eq_true rfl) (Nat.le_of_ble_eq_true rfl) ⟨Nat.le_of_ble_eq_true rfl, Nat.le_of_ble_eq_true rfl⟩ rfl (a_from G Z A B hC hA (gX G ((i) + 1)) (gX_in _ _)) ?_
  rintro _ W1 ⟨rfl, hC1, hf1⟩
  refine cz_aload_n (pc' := 908) (g_d dtbL_law_9 33 rfl) rfl rfl ?_
  refine cz_aload_n (pc' := 909) (g_d dtbL_law_9 34 rfl) rfl rfl ?_
  refine cz_iload_n (pc' := 910) (g_d dtbL_law_9 35 rfl) rfl rfl ?_
  refine nz_iconst (pc' := 911) (g_d dtbL_law_9 36 rfl) rfl ?_
  refine nz_iadd (pc' := 912) (g_d dtbL_law_9 37 rfl) rfl ?_
  refine nz_sld ((i) + 1) (pc' := 913) (g_d dtbL_law_9 38 rfl) (by omega) (by omega) hL rfl ?_
  refine nz_cVi (M' := mX11_from) (k := 34) (As := [iv (gX G ((i) + 1))]) (S := [iv ((xFrom A (gX G ((i) + 1))).1)]) (L := [some (.ref 1000), some (.ref 0), some (.ref 34), some (iv ((i : Int)))]) (pc' := 916) (g_d dtbL_law_9 39 rfl) lk_L_138 okX11_from (by decide) rfl rfl rfl rfl (Nat.le_of_ble_eq_true rfl) (Nat.le_of_ble_eq_true rfl) ⟨Nat.le_of_ble_eq_true rfl, Nat.le_of_ble_eq_true rfl⟩ rfl (b_from G W1 A B (hM.fm hf1) hA (gX G ((i) + 1)) (gX_in _ _)) ?_
  rintro _ W2 ⟨rfl, hM2, hg2⟩
  refine nz_same (tgt := 981) (g_d dtbL_law_9 40 rfl) rfl ?_
  exact hk W2 _ (hC1.fc hg2) hM2 (ao_From hA hbb (gX G ((i) + 1)))

set_option maxRecDepth 20000 in
set_option maxHeartbeats 4000000 in
theorem lw_30 (G : Wd) (nm : String) (Z : ZS) (A : AS) (B : Int) (hC : CS Z A) (hM : MS Z A) (hA : AO B A) (hbb : B + 700000 ≤ 60000000) (hL : g_L G ≤ 384) (i : Nat) (hi : i + 6 ≤ g_L G) (Q : Option Value → ZS → Prop) (hk : ∀ (W : ZS) (A2 : AS), CS W A2 → MS W A2 → AO (B + 700000) A2 → Cn G (mLw nm) 981 [some (.ref 1000), some (.ref 0), some (.ref 34), some (iv (i : Int))] [] W Q) : Cn G (mLw nm) 921 [some (.ref 1000), some (.ref 0), some (.ref 34), some (iv (i : Int))] [] Z Q := by
  refine cz_aload_n (pc' := 922) (g_d dtbL_law_9 43 rfl) rfl rfl ?_
  refine cz_aload_n (pc' := 923) (g_d dtbL_law_9 44 rfl) rfl rfl ?_
  refine cz_iload_n (pc' := 924) (g_d dtbL_law_9 45 rfl) rfl rfl ?_
  refine nz_iconst (pc' := 925) (g_d dtbL_law_9 46 rfl) rfl ?_
  refine nz_iadd (pc' := 926) (g_d dtbL_law_9 47 rfl) rfl ?_
  refine nz_sld ((i) + 1) (pc' := 927) (g_d dtbL_law_9 48 rfl) (by omega) (by omega) hL rfl ?_
  refine nz_cVi (M' := mX10_status) (k := 0) (As := [iv (gX G ((i) + 1))]) (S := []) (L := [some (.ref 1000), some (.ref 0), some (.ref 34), some (iv ((i : Int)))]) (pc' := 930) (g_d dtbL_law_9 49 rfl) lk_L_139 okX10_status (by decide) rfl rfl rfl rfl (Nat.le_of_ble_eq_true rfl) (Nat.le_of_ble_eq_true rfl) ⟨Nat.le_of_ble_eq_true rfl, Nat.le_of_ble_eq_true rfl⟩ rfl (a_status G Z A B hC hA (gX G ((i) + 1)) (gX_in _ _)) ?_
  rintro _ W1 ⟨rfl, hC1, hf1⟩
  refine cz_aload_n (pc' := 931) (g_d dtbL_law_9 50 rfl) rfl rfl ?_
  refine cz_aload_n (pc' := 932) (g_d dtbL_law_9 51 rfl) rfl rfl ?_
  refine cz_iload_n (pc' := 933) (g_d dtbL_law_9 52 rfl) rfl rfl ?_
  refine nz_iconst (pc' := 934) (g_d dtbL_law_9 53 rfl) rfl ?_
  refine nz_iadd (pc' := 935) (g_d dtbL_law_9 54 rfl) rfl ?_
  refine nz_sld ((i) + 1) (pc' := 936) (g_d dtbL_law_9 55 rfl) (by omega) (by omega) hL rfl ?_
  refine nz_cVi (M' := mX11_status) (k := 34) (As := [iv (gX G ((i) + 1))]) (S := [iv ((xStatus A (gX G ((i) + 1))).1)]) (L := [some (.ref 1000), some (.ref 0), some (.ref 34), some (iv ((i : Int)))]) (pc' := 939) (g_d dtbL_law_9 56 rfl) lk_L_142 okX11_status (by decide) rfl rfl rfl rfl (Nat.le_of_ble_eq_true rfl) (Nat.le_of_ble_eq_true rfl) ⟨Nat.le_of_ble_eq_true rfl, Nat.le_of_ble_eq_true rfl⟩ rfl (b_status G W1 A B (hM.fm hf1) hA (gX G ((i) + 1)) (gX_in _ _)) ?_
  rintro _ W2 ⟨rfl, hM2, hg2⟩
  refine nz_same (tgt := 981) (g_d dtbL_law_9 57 rfl) rfl ?_
  exact hk W2 _ (hC1.fc hg2) hM2 (ao_Status hA hbb (gX G ((i) + 1)))

set_option maxRecDepth 20000 in
set_option maxHeartbeats 4000000 in
theorem lw_31 (G : Wd) (nm : String) (Z : ZS) (A : AS) (B : Int) (hC : CS Z A) (hM : MS Z A) (hA : AO B A) (hbb : B + 700000 ≤ 60000000) (hL : g_L G ≤ 384) (i : Nat) (hi : i + 6 ≤ g_L G) (Q : Option Value → ZS → Prop) (hk : ∀ (W : ZS) (A2 : AS), CS W A2 → MS W A2 → AO (B + 700000) A2 → Cn G (mLw nm) 981 [some (.ref 1000), some (.ref 0), some (.ref 34), some (iv (i : Int))] [] W Q) : Cn G (mLw nm) 944 [some (.ref 1000), some (.ref 0), some (.ref 34), some (iv (i : Int))] [] Z Q := by
  refine cz_aload_n (pc' := 945) (g_d dtbL_law_10 0 rfl) rfl rfl ?_
  refine cz_aload_n (pc' := 946) (g_d dtbL_law_10 1 rfl) rfl rfl ?_
  refine cz_iload_n (pc' := 947) (g_d dtbL_law_10 2 rfl) rfl rfl ?_
  refine nz_iconst (pc' := 948) (g_d dtbL_law_10 3 rfl) rfl ?_
  refine nz_iadd (pc' := 949) (g_d dtbL_law_10 4 rfl) rfl ?_
  refine nz_sld ((i) + 1) (pc' := 950) (g_d dtbL_law_10 5 rfl) (by omega) (by omega) hL rfl ?_
  refine nz_cVi (M' := mX10_count) (k := 0) (As := [iv (gX G ((i) + 1))]) (S := []) (L := [some (.ref 1000), some (.ref 0), some (.ref 34), some (iv ((i : Int)))]) (pc' := 953) (g_d dtbL_law_10 6 rfl) lk_L_143 okX10_count (by decide) rfl rfl rfl rfl (Nat.le_of_ble_eq_true rfl) (Nat.le_of_ble_eq_true rfl) ⟨Nat.le_of_ble_eq_true rfl, Nat.le_of_ble_eq_true rfl⟩ rfl (a_count G Z A B hC hA (gX G ((i) + 1)) (gX_in _ _)) ?_
  rintro _ W1 ⟨rfl, hC1, hf1⟩
  refine cz_aload_n (pc' := 954) (g_d dtbL_law_10 7 rfl) rfl rfl ?_
  refine cz_aload_n (pc' := 955) (g_d dtbL_law_10 8 rfl) rfl rfl ?_
  refine cz_iload_n (pc' := 956) (g_d dtbL_law_10 9 rfl) rfl rfl ?_
  refine nz_iconst (pc' := 957) (g_d dtbL_law_10 10 rfl) rfl ?_
  refine nz_iadd (pc' := 958) (g_d dtbL_law_10 11 rfl) rfl ?_
  refine nz_sld ((i) + 1) (pc' := 959) (g_d dtbL_law_10 12 rfl) (by omega) (by omega) hL rfl ?_
  refine nz_cVi (M' := mX11_count) (k := 34) (As := [iv (gX G ((i) + 1))]) (S := [iv ((xCount A (gX G ((i) + 1))).1)]) (L := [some (.ref 1000), some (.ref 0), some (.ref 34), some (iv ((i : Int)))]) (pc' := 962) (g_d dtbL_law_10 13 rfl) lk_L_146 okX11_count (by decide) rfl rfl rfl rfl (Nat.le_of_ble_eq_true rfl) (Nat.le_of_ble_eq_true rfl) ⟨Nat.le_of_ble_eq_true rfl, Nat.le_of_ble_eq_true rfl⟩ rfl (b_count G W1 A B (hM.fm hf1) hA (gX G ((i) + 1)) (gX_in _ _)) ?_
  rintro _ W2 ⟨rfl, hM2, hg2⟩
  refine nz_same (tgt := 981) (g_d dtbL_law_10 14 rfl) rfl ?_
  exact hk W2 _ (hC1.fc hg2) hM2 (ao_Count hA hbb (gX G ((i) + 1)))

set_option maxRecDepth 20000 in
set_option maxHeartbeats 4000000 in
theorem lw_32 (G : Wd) (nm : String) (Z : ZS) (A : AS) (B : Int) (hC : CS Z A) (hM : MS Z A) (hA : AO B A) (hbb : B + 700000 ≤ 60000000) (hL : g_L G ≤ 384) (i : Nat) (hi : i + 6 ≤ g_L G) (Q : Option Value → ZS → Prop) (hk : ∀ (W : ZS) (A2 : AS), CS W A2 → MS W A2 → AO (B + 700000) A2 → Cn G (mLw nm) 981 [some (.ref 1000), some (.ref 0), some (.ref 34), some (iv (i : Int))] [] W Q) : Cn G (mLw nm) 967 [some (.ref 1000), some (.ref 0), some (.ref 34), some (iv (i : Int))] [] Z Q := by
  refine cz_aload_n (pc' := 968) (g_d dtbL_law_10 17 rfl) rfl rfl ?_
  refine nz_cVl (M' := mX10_digest) (k := 0) (As := []) (S := []) (L := [some (.ref 1000), some (.ref 0), some (.ref 34), some (iv ((i : Int)))]) (pc' := 971) (g_d dtbL_law_10 18 rfl) lk_L_147 okX10_digest (by decide) rfl rfl rfl rfl (Nat.le_of_ble_eq_true rfl) (Nat.le_of_ble_eq_true rfl) ⟨Nat.le_of_ble_eq_true rfl, Nat.le_of_ble_eq_true rfl⟩ rfl (a_digest G Z A B hC hA) ?_
  rintro _ W1 ⟨rfl, hC1, hf1⟩
  refine cz_aload_n (pc' := 972) (g_d dtbL_law_10 19 rfl) rfl rfl ?_
  refine nz_cVl (M' := mX11_digest) (k := 34) (As := []) (S := [il (xDigest A)]) (L := [some (.ref 1000), some (.ref 0), some (.ref 34), some (iv ((i : Int)))]) (pc' := 975) (g_d dtbL_law_10 20 rfl) lk_L_151 okX11_digest (by decide) rfl rfl rfl rfl (Nat.le_of_ble_eq_true rfl) (Nat.le_of_ble_eq_true rfl) ⟨Nat.le_of_ble_eq_true rfl, Nat.le_of_ble_eq_true rfl⟩ rfl (b_digest G W1 A B (hM.fm hf1) hA) ?_
  rintro _ W2 ⟨rfl, hM2, hg2⟩
  refine nz_lsame (pc' := 976) (g_d dtbL_law_10 21 rfl) rfl ?_
  refine nz_if_eq_t (tgt := 981) (g_d dtbL_law_10 22 rfl) (by omega) rfl (by omega) ?_
  exact hk W2 _ (hC1.fc hg2) hM2 (ao_up hA hbb)
