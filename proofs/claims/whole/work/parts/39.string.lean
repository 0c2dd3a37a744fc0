/-! the literals: length, charAt -/
theorem qs_379 : Cond.fieldLink RJ0 38 RJ0 "COMPACT_STRINGS" "Z" ∈ gw := gw_in 379 (by decide +kernel) (by decide +kernel)
theorem qs_395 : Cond.fieldLink RJ0 1053 RJ3 "SIOOBE_FORMATTER" "Ljava/util/function/BiFunction;" ∈ gw := gw_in 395 (by decide +kernel) (by decide +kernel)
theorem qs_1069 : Cond.fieldLink RJ0 9 RJ0 "value" "[B" ∈ gw := gw_in 1069 (by decide +kernel) (by decide +kernel)
theorem qs_1070 : Cond.fieldLink RJ0 15 RJ0 "coder" "B" ∈ gw := gw_in 1070 (by decide +kernel) (by decide +kernel)
theorem g_below {G : Wd} {s : State} (hh : ∀ q : Nat, q < g_a G → s.heap[q]? = (g_H G)[q]?) : ∀ a : Nat, a < (g_H G).size → ¬ g_A G a → s.heap[a]? = (g_H G)[a]? := fun a _ h2 => hh a (by unfold g_A at h2; omega)
section
variable {G : Wd} {M : MD} {nE pc pc' : Nat} {L : List (Option Value)} {S : List Value} {σ : St} {Q : Option Value → St → Prop}
theorem cz_gcs (hd : decode M.2.1 pc = .ok (.getstatic 38, 3)) (ho : M.1.cls = RJ0) (hp : pc + 3 = pc') (h : Cc G M nE pc' L (.int 1 :: S) σ Q) : Cc G M nE pc L S σ Q := by
  subst hp
  intro p e R s m args below meth c H locs ls cells slots n0 QQ hF hU hR ha hh hK hc1 hc2 hW hS hL
  have hz : va_Z RJ0 "COMPACT_STRINGS" "Z" (.int 1) (g_A G) s s.heap := hU.2.2.1.2.2.1.kept (g_below hh)
  exact va_gets (own := RJ0) (ref := RJ0) (index := 38) hF.1 hF.2.1 hz hS (by rw [← ho]; exact hF.2.2.2.1) (hF.2.2.2.2.1 _ qs_379) (fun _ q => q) hd (h p e R s m args below meth c H locs ls cells slots n0 QQ hF hU hR ha hh hK hc1 hc2 hW hS hL)
theorem cz_gfm (hd : decode M.2.1 pc = .ok (.getstatic 1053, 3)) (ho : M.1.cls = RJ0) (hp : pc + 3 = pc') (h0 : Cc G M nE pc' L (.null :: S) σ Q) (h1 : Cc G M nE pc' L (.ref 4000 :: S) σ Q) : Cc G M nE pc L S σ Q := by
  subst hp
  intro p e R s m args below meth c H locs ls cells slots n0 QQ hF hU hR ha hh hK hc1 hc2 hW hS hL
  rcases hU.2.2.1.2.2.2 with hz | hz
  · exact va_gets (own := RJ0) (ref := RJ3) (index := 1053) hF.1 hF.2.1 (hz.kept (g_below hh)) hS (by rw [← ho]; exact hF.2.2.2.1) (hF.2.2.2.2.1 _ qs_395) (fun _ q => q) hd (h0 p e R s m args below meth c H locs ls cells slots n0 QQ hF hU hR ha hh hK hc1 hc2 hW hS hL)
  · exact va_gets (own := RJ0) (ref := RJ3) (index := 1053) hF.1 hF.2.1 (hz.kept (g_below hh)) hS (by rw [← ho]; exact hF.2.2.2.1) (hF.2.2.2.2.1 _ qs_395) (fun _ q => q) hd (h1 p e R s m args below meth c H locs ls cells slots n0 QQ hF hU hR ha hh hK hc1 hc2 hW hS hL)
theorem g_ads {i : Nat} : g_ad G (1001 + i) = g_s G (1 + i) := by unfold g_ad; rw [if_neg (by omega), show 1001 + i - 1000 = 1 + i by omega]
theorem g_adv {i : Nat} : g_ad G (2001 + i) = g_s G (1001 + i) := by unfold g_ad; rw [if_neg (by omega), show 2001 + i - 1000 = 1001 + i by omega]
theorem cz_sval {i : Nat} (hi : i < 4) (hd : decode M.2.1 pc = .ok (.getfield 9, 3)) (ho : M.1.cls = RJ0) (hp : pc + 3 = pc') (h : Cc G M nE pc' L (.ref (2001 + i) :: S) σ Q) : Cc G M nE pc L (.ref (1001 + i) :: S) σ Q := by
  subst hp
  intro p e R s m args below meth c H locs ls cells slots n0 QQ hF hU hR ha hh hK hc1 hc2 hW hS hL
  have hE := ((hU.2.2.1.1.kept (g_below hh)).1 i hi).2.2.1
  refine W.eq (g2 := F0 m pc ls (.ref (g_s G (1 + i)) :: S.map (g_tr G))) (by rw [List.map_cons]; show F0 m pc ls (Value.ref (g_ad G (1001 + i)) :: _) = _; rw [g_ads]) ?_
  refine vk_getf (own := RJ0) (ref := RJ0) (index := 9) hF.1 hF.2.1 hE hS (by rw [← ho]; exact hF.2.2.2.1) (hF.2.2.2.2.1 _ qs_1069) (fun _ q => q) hd ?_
  refine W.eq (congrArg (F0 m (pc + 3) ls) ?_) (h p e R s m args below meth c H locs ls cells slots n0 QQ hF hU hR ha hh hK hc1 hc2 hW hS hL)
  show _ = Value.ref (g_ad G (2001 + i)) :: _
  rw [g_adv]
theorem cz_scod {i : Nat} (hi : i < 4) (hd : decode M.2.1 pc = .ok (.getfield 15, 3)) (ho : M.1.cls = RJ0) (hp : pc + 3 = pc') (h : Cc G M nE pc' L (.int 0 :: S) σ Q) : Cc G M nE pc L (.ref (1001 + i) :: S) σ Q := by
  subst hp
  intro p e R s m args below meth c H locs ls cells slots n0 QQ hF hU hR ha hh hK hc1 hc2 hW hS hL
  have hE := ((hU.2.2.1.1.kept (g_below hh)).1 i hi).2.1
  refine W.eq (g2 := F0 m pc ls (.ref (g_s G (1 + i)) :: S.map (g_tr G))) (by rw [List.map_cons]; show F0 m pc ls (Value.ref (g_ad G (1001 + i)) :: _) = _; rw [g_ads]) ?_
  exact vk_getf (own := RJ0) (ref := RJ0) (index := 15) hF.1 hF.2.1 hE hS (by rw [← ho]; exact hF.2.2.2.1) (hF.2.2.2.2.1 _ qs_1070) (fun _ q => q) hd (h p e R s m args below meth c H locs ls cells slots n0 QQ hF hU hR ha hh hK hc1 hc2 hW hS hL)
theorem cz_strlen {i : Nat} (hi : i < 4) (hd : decode M.2.1 pc = .ok (.arraylength, 1)) (hp : pc + 1 = pc') (h : Cc G M nE pc' L (.int (Int32.ofNat (g_slen.getD i 0)) :: S) σ Q) : Cc G M nE pc L (.ref (2001 + i) :: S) σ Q := by
  subst hp
  intro p e R s m args below meth c H locs ls cells slots n0 QQ hF hU hR ha hh hK hc1 hc2 hW hS hL
  have hE := ((hU.2.2.1.1.kept (g_below hh)).1 i hi).2.2.2
  refine W.eq (g2 := F0 m pc ls (.ref (g_s G (1001 + i)) :: S.map (g_tr G))) (by rw [List.map_cons]; show F0 m pc ls (Value.ref (g_ad G (2001 + i)) :: _) = _; rw [g_adv]) ?_
  exact va_tlen hF.1 hF.2.1 hE hS rfl hd (h p e R s m args below meth c H locs ls cells slots n0 QQ hF hU hR ha hh hK hc1 hc2 hW hS hL)
theorem cz_strld {i j : Nat} {x : Int32} (hi : i < 4) (hd : decode M.2.1 pc = .ok (.baload, 1)) (hj : x.toInt = (j : Int)) (hn : j < g_slen.getD i 0) (hp : pc + 1 = pc') (h : Cc G M nE pc' L (.int ((g_sbyt.getD i []).getD j 0) :: S) σ Q) : Cc G M nE pc L (.int x :: .ref (2001 + i) :: S) σ Q := by
  subst hp
  intro p e R s m args below meth c H locs ls cells slots n0 QQ hF hU hR ha hh hK hc1 hc2 hW hS hL
  have hE := ((hU.2.2.1.1.kept (g_below hh)).1 i hi).2.2.2
  obtain ⟨h1, h2⟩ := g_in hj hn
  refine W.eq (g2 := F0 m pc ls (.int x :: .ref (g_s G (1001 + i)) :: S.map (g_tr G))) (by rw [List.map_cons, List.map_cons]; show F0 m pc ls (_ :: Value.ref (g_ad G (2001 + i)) :: _) = _; rw [g_adv]; rfl) ?_
  exact va_tb hF.1 hF.2.1 hE hS h1 (by rw [h2]; rfl) hd (h p e R s m args below meth c H locs ls cells slots n0 QQ hF hU hR ha hh hK hc1 hc2 hW hS hL)
theorem g_rcs {i : Nat} (hi : i < 4) : g_rc G σ (1001 + i) RJ0 := by
  intro s H locs hU hW hS hh ha
  rw [g_ads]
  exact vk_recv (adK := fun i => g_s G (1 + i)) (hU.2.2.1.1.kept (g_below hh)) hi hS
end

def sL (i : Nat) : Nat := g_slen.getD i 0
def sB (i j : Nat) : Int := ((g_sbyt.getD i []).getD j 0).toInt
theorem sL_shr : ∀ i, i < 4 → Int32.ofNat (g_slen.getD i 0) >>> ((0 : Int32) &&& 31) = Int32.ofInt ((sL i : Nat) : Int) := by decide
theorem sL_in : ∀ i, i < 4 → 3 ≤ sL i ∧ sL i ≤ 7 := by decide
theorem sL_of : ∀ i, i < 4 → Int32.ofNat (g_slen.getD i 0) = Int32.ofInt ((sL i : Nat) : Int) := by decide
theorem sB_ch : ∀ i, i < 4 → ∀ j, j < g_slen.getD i 0 → (((g_sbyt.getD i []).getD j 0 &&& Int32.ofInt 255).toUInt32 % 65536).toInt32 = Int32.ofInt (sB i j) := by decide
theorem sB_in : ∀ i, i < 4 → ∀ j, j < sL i → 97 ≤ sB i j ∧ sB i j ≤ 122 := by decide
theorem narc {a : Int} (ha : 0 ≤ a ∧ a ≤ 200) : narrow .char (iv a) = iv a := by
  have key : ∀ n, n ≤ 200 → narrow .char (iv ((n : Nat) : Int)) = iv ((n : Nat) : Int) := by decide +kernel
  have := key a.toNat (by omega)
  rw [show ((a.toNat : Nat) : Int) = a by omega] at this
  exact this
theorem c_coder (G : Wd) (Z : ZS) (i : Nat) (hi : i < 4) : Cn G mJ0_coder_7d493 0 [some (.ref (1001 + i))] [] Z (qi (fun r W => 0 = r ∧ Z = W)) := by
  refine cz_gcs (pc' := 3) (g_d dtbJ0_coder_7d493_0 0 rfl) rfl rfl ?_
  refine nz_if_eq_f (a := 1) (pc' := 6) (g_d dtbJ0_coder_7d493_0 1 rfl) (by decide) (by decide) rfl (by decide) ?_
  refine cz_aload_n (pc' := 7) (g_d dtbJ0_coder_7d493_0 2 rfl) rfl rfl ?_
  refine cz_scod hi (pc' := 10) (g_d dtbJ0_coder_7d493_0 3 rfl) rfl rfl ?_
  refine cz_goto (pc' := 14) (g_d dtbJ0_coder_7d493_0 4 rfl) rfl ?_
  exact nz_ri (a := 0) .byte (g_d dtbJ0_coder_7d493_0 6 rfl) rfl rfl ⟨rfl, rfl⟩
theorem c_isLatin1 (G : Wd) (Z : ZS) (i : Nat) (hi : i < 4) : Cn G mJ0_isLatin1_aae02 0 [some (.ref (1001 + i))] [] Z (qi (fun r W => 1 = r ∧ Z = W)) := by
  refine cz_gcs (pc' := 3) (g_d dtbJ0_isLatin1_aae02_0 0 rfl) rfl rfl ?_
  refine nz_if_eq_f (a := 1) (pc' := 6) (g_d dtbJ0_isLatin1_aae02_0 1 rfl) (by decide) (by decide) rfl (by decide) ?_
  refine cz_aload_n (pc' := 7) (g_d dtbJ0_isLatin1_aae02_0 2 rfl) rfl rfl ?_
  refine cz_scod hi (pc' := 10) (g_d dtbJ0_isLatin1_aae02_0 3 rfl) rfl rfl ?_
  refine nz_if_ne_f (a := 0) (pc' := 13) (g_d dtbJ0_isLatin1_aae02_0 4 rfl) (by decide) (by decide) rfl (by decide) ?_
  refine nz_iconst (pc' := 14) (g_d dtbJ0_isLatin1_aae02_0 5 rfl) rfl ?_
  refine cz_goto (pc' := 18) (g_d dtbJ0_isLatin1_aae02_0 6 rfl) rfl ?_
  exact nz_ri .boolean (g_d dtbJ0_isLatin1_aae02_0 8 rfl) rfl rfl ⟨rfl, rfl⟩
theorem c_length (G : Wd) (Z : ZS) (i : Nat) (hi : i < 4) : Cn G mJ0_length_8abf5 0 [some (.ref (1001 + i))] [] Z (qi (fun r W => ((sL i : Nat) : Int) = r ∧ Z = W)) := by
  refine cz_aload_n (pc' := 1) (g_d dtbJ0_length_8abf5_0 0 rfl) rfl rfl ?_
  refine cz_sval hi (pc' := 4) (g_d dtbJ0_length_8abf5_0 1 rfl) rfl rfl ?_
  refine cz_strlen hi (pc' := 5) (g_d dtbJ0_length_8abf5_0 2 rfl) rfl ?_
  refine cz_aload_n (pc' := 6) (g_d dtbJ0_length_8abf5_0 3 rfl) rfl rfl ?_
  refine nz_callV (M' := mJ0_coder_7d493) (As := []) (S := [.int (Int32.ofNat (g_slen.getD i 0))]) (pc' := 9) (g_d dtbJ0_length_8abf5_0 4 rfl) lk_J0_335 okJ0_coder_7d493 (g_rcs hi) rfl rfl (Nat.le_of_ble_eq_true rfl) (Nat.le_of_ble_eq_true rfl) (by decide) rfl (c_coder G Z i hi) ?_
  rintro _ _ ⟨_, rfl, rfl, rfl⟩
  refine cz_ishr (pc' := 10) (g_d dtbJ0_length_8abf5_0 5 rfl) rfl ?_
  rw [show Int32.ofNat (g_slen.getD i 0) >>> (Int32.ofInt 0 &&& 31) = Int32.ofInt ((sL i : Nat) : Int) from sL_shr i hi]
  exact nz_ri .int (g_d dtbJ0_length_8abf5_0 6 rfl) rfl rfl ⟨rfl, rfl⟩
theorem c_ckP0 (G : Wd) (Z : ZS) (a n : Int) (h : 0 ≤ a ∧ a < n ∧ n ≤ 1000) : Cn G mJ3_checkIndex_8e157 0 [some (iv a), some (iv n), some .null] [] Z (qi (fun r W => a = r ∧ Z = W)) := by
  refine cz_iload_n (pc' := 1) (g_d dtbJ3_checkIndex_8e157_0 0 rfl) rfl rfl ?_
  refine nz_if_lt_f (pc' := 4) (g_d dtbJ3_checkIndex_8e157_0 1 rfl) (by omega) (by decide) rfl (by omega) ?_
  refine cz_iload_n (pc' := 5) (g_d dtbJ3_checkIndex_8e157_0 2 rfl) rfl rfl ?_
  refine cz_iload_n (pc' := 6) (g_d dtbJ3_checkIndex_8e157_0 3 rfl) rfl rfl ?_
  refine nz_icmp_lt_t (tgt := 16) (g_d dtbJ3_checkIndex_8e157_0 4 rfl) (by omega) (by omega) rfl (by omega) ?_
  refine cz_iload_n (pc' := 17) (g_d dtbJ3_checkIndex_8e157_0 10 rfl) rfl rfl ?_
  exact nz_ri .int (g_d dtbJ3_checkIndex_8e157_0 11 rfl) rfl rfl ⟨rfl, rfl⟩
theorem c_ckP1 (G : Wd) (Z : ZS) (a n : Int) (h : 0 ≤ a ∧ a < n ∧ n ≤ 1000) : Cn G mJ3_checkIndex_8e157 0 [some (iv a), some (iv n), some (.ref 4000)] [] Z (qi (fun r W => a = r ∧ Z = W)) := by
  refine cz_iload_n (pc' := 1) (g_d dtbJ3_checkIndex_8e157_0 0 rfl) rfl rfl ?_
  refine nz_if_lt_f (pc' := 4) (g_d dtbJ3_checkIndex_8e157_0 1 rfl) (by omega) (by decide) rfl (by omega) ?_
  refine cz_iload_n (pc' := 5) (g_d dtbJ3_checkIndex_8e157_0 2 rfl) rfl rfl ?_
  refine cz_iload_n (pc' := 6) (g_d dtbJ3_checkIndex_8e157_0 3 rfl) rfl rfl ?_
  refine nz_icmp_lt_t (tgt := 16) (g_d dtbJ3_checkIndex_8e157_0 4 rfl) (by omega) (by omega) rfl (by omega) ?_
  refine cz_iload_n (pc' := 17) (g_d dtbJ3_checkIndex_8e157_0 10 rfl) rfl rfl ?_
  exact nz_ri .int (g_d dtbJ3_checkIndex_8e157_0 11 rfl) rfl rfl ⟨rfl, rfl⟩
theorem c_ckS (G : Wd) (Z : ZS) (a n : Int) (h : 0 ≤ a ∧ a < n ∧ n ≤ 1000) : Cn G mJ0_checkIndex_df160 0 [some (iv a), some (iv n)] [] Z (qv (fun W => Z = W)) := by
  refine cz_iload_n (pc' := 1) (g_d dtbJ0_checkIndex_df160_0 0 rfl) rfl rfl ?_
  refine cz_iload_n (pc' := 2) (g_d dtbJ0_checkIndex_df160_0 1 rfl) rfl rfl ?_
  refine cz_gfm (pc' := 5) (g_d dtbJ0_checkIndex_df160_0 2 rfl) rfl rfl ?_ ?_
  · refine nz_cSi (M' := mJ3_checkIndex_8e157) (As := [iv a, iv n, .null]) (S := []) (pc' := 8) (g_d dtbJ0_checkIndex_df160_0 3 rfl) lk_J0_1059 okJ3_checkIndex_8e157 rfl rfl (Nat.le_of_ble_eq_true rfl) (Nat.le_of_ble_eq_true rfl) (by decide) rfl (c_ckP0 G Z a n h) ?_
    rintro _ _ ⟨rfl, rfl⟩
    refine cz_pop (pc' := 9) (g_d dtbJ0_checkIndex_df160_0 4 rfl) rfl rfl ?_
    exact nz_rv (g_d dtbJ0_checkIndex_df160_0 5 rfl) rfl rfl
  · refine nz_cSi (M' := mJ3_checkIndex_8e157) (As := [iv a, iv n, .ref 4000]) (S := []) (pc' := 8) (g_d dtbJ0_checkIndex_df160_0 3 rfl) lk_J0_1059 okJ3_checkIndex_8e157 rfl rfl (Nat.le_of_ble_eq_true rfl) (Nat.le_of_ble_eq_true rfl) (by decide) rfl (c_ckP1 G Z a n h) ?_
    rintro _ _ ⟨rfl, rfl⟩
    refine cz_pop (pc' := 9) (g_d dtbJ0_checkIndex_df160_0 4 rfl) rfl rfl ?_
    exact nz_rv (g_d dtbJ0_checkIndex_df160_0 5 rfl) rfl rfl
theorem c_latinAt (G : Wd) (Z : ZS) (i j : Nat) (hi : i < 4) (hj : j < sL i) : Cn G mJ1_charAt_3b067 0 [some (.ref (2001 + i)), some (iv (j : Int))] [] Z (qi (fun r W => sB i j = r ∧ Z = W)) := by
  have hl := sL_in i hi
  have hb := sB_in i hi j hj
  refine cz_iload_n (pc' := 1) (g_d dtbJ1_charAt_3b067_0 0 rfl) rfl rfl ?_
  refine cz_aload_n (pc' := 2) (g_d dtbJ1_charAt_3b067_0 1 rfl) rfl rfl ?_
  refine cz_strlen hi (pc' := 3) (g_d dtbJ1_charAt_3b067_0 2 rfl) rfl ?_
  rw [sL_of i hi]
  refine nz_cSv (M' := mJ0_checkIndex_df160) (As := [iv (j : Int), iv ((sL i : Nat) : Int)]) (S := []) (pc' := 6) (g_d dtbJ1_charAt_3b067_0 3 rfl) lk_J1_9 okJ0_checkIndex_df160 rfl rfl (Nat.le_of_ble_eq_true rfl) (Nat.le_of_ble_eq_true rfl) (by decide) rfl (c_ckS G Z (j : Int) ((sL i : Nat) : Int) (by omega)) ?_
  rintro _ rfl
  refine cz_aload_n (pc' := 7) (g_d dtbJ1_charAt_3b067_0 4 rfl) rfl rfl ?_
  refine cz_iload_n (pc' := 8) (g_d dtbJ1_charAt_3b067_0 5 rfl) rfl rfl ?_
  refine cz_strld (j := j) hi (pc' := 9) (g_d dtbJ1_charAt_3b067_0 6 rfl) (by rw [t32 (by omega)]) hj rfl ?_
  refine nz_sipush (pc' := 12) (g_d dtbJ1_charAt_3b067_0 7 rfl) (by decide) rfl ?_
  refine cz_iand (pc' := 13) (g_d dtbJ1_charAt_3b067_0 8 rfl) rfl ?_
  refine cz_i2c (pc' := 14) (g_d dtbJ1_charAt_3b067_0 9 rfl) rfl ?_
  rw [sB_ch i hi j hj]
  exact nz_ri .char (g_d dtbJ1_charAt_3b067_0 10 rfl) rfl (narc (by omega)) ⟨rfl, rfl⟩
theorem c_charAt (G : Wd) (Z : ZS) (i j : Nat) (hi : i < 4) (hj : j < sL i) : Cn G mJ0_charAt_5068e 0 [some (.ref (1001 + i)), some (iv (j : Int))] [] Z (qi (fun r W => sB i j = r ∧ Z = W)) := by
  have hb := sB_in i hi j hj
  refine cz_aload_n (pc' := 1) (g_d dtbJ0_charAt_5068e_0 0 rfl) rfl rfl ?_
  refine nz_callV (M' := mJ0_isLatin1_aae02) (As := []) (S := []) (pc' := 4) (g_d dtbJ0_charAt_5068e_0 1 rfl) lk_J0_492 okJ0_isLatin1_aae02 (g_rcs hi) rfl rfl (Nat.le_of_ble_eq_true rfl) (Nat.le_of_ble_eq_true rfl) (by decide) rfl (c_isLatin1 G Z i hi) ?_
  rintro _ _ ⟨_, rfl, rfl, rfl⟩
  refine nz_if_eq_f (a := 1) (pc' := 7) (g_d dtbJ0_charAt_5068e_0 2 rfl) (by decide) (by decide) rfl (by decide) ?_
  refine cz_aload_n (pc' := 8) (g_d dtbJ0_charAt_5068e_0 3 rfl) rfl rfl ?_
  refine cz_sval hi (pc' := 11) (g_d dtbJ0_charAt_5068e_0 4 rfl) rfl rfl ?_
  refine cz_iload_n (pc' := 12) (g_d dtbJ0_charAt_5068e_0 5 rfl) rfl rfl ?_
  refine nz_cSi (M' := mJ1_charAt_3b067) (As := [.ref (2001 + i), iv (j : Int)]) (S := []) (pc' := 15) (g_d dtbJ0_charAt_5068e_0 6 rfl) lk_J0_495 okJ1_charAt_3b067 rfl rfl (Nat.le_of_ble_eq_true rfl) (Nat.le_of_ble_eq_true rfl) (by decide) rfl (c_latinAt G Z i j hi hj) ?_
  rintro _ _ ⟨rfl, rfl⟩
  exact nz_ri .char (g_d dtbJ0_charAt_5068e_0 7 rfl) rfl (narc (by omega)) ⟨rfl, rfl⟩
