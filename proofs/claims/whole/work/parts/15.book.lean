set_option maxRecDepth 20000 in
set_option maxHeartbeats 4000000 in
theorem c_notePart (G : Wd) (Z : ZS) (k i p : Nat) (hk : Bk k) (hi : i < 6) (hp : p < 5) : Cn G mX0_notePart 0 [some (.ref k), some (iv ((i : Int))), some (iv ((p : Int)))] [] Z (qi (fun r W => Z (k + 3) (i * 5 + p) = r ∧ Z = W)) := by
  refine cz_iload_n (pc' := 1) (g_d dtbX0_notePart_0 0 rfl) rfl rfl ?_
  refine nz_if_lt_f (pc' := 4) (g_d dtbX0_notePart_0 1 rfl) (by omega) (by decide) rfl (by omega) ?_
  refine cz_iload_n (pc' := 5) (g_d dtbX0_notePart_0 2 rfl) rfl rfl ?_
  refine nz_bipush (pc' := 7) (g_d dtbX0_notePart_0 3 rfl) (by decide) rfl ?_
  refine nz_icmp_ge_f (pc' := 10) (g_d dtbX0_notePart_0 4 rfl) (by omega) (by omega) (by decide) rfl (by omega) ?_
  refine cz_aload_n (pc' := 11) (g_d dtbX0_notePart_0 5 rfl) rfl rfl ?_
  refine nz_getf (v := .ref (k + 3)) (pc' := 14) (g_d dtbX0_notePart_0 6 rfl) gf_X0_18 (bk_l hk) (bk_s hk) (bk_r2 hk _) rfl ?_
  refine cz_iload_n (pc' := 15) (g_d dtbX0_notePart_0 7 rfl) rfl rfl ?_
  refine nz_iconst (pc' := 16) (g_d dtbX0_notePart_0 8 rfl) rfl ?_
  refine nz_imul (pc' := 17) (g_d dtbX0_notePart_0 9 rfl) rfl ?_
  refine cz_iload_n (pc' := 18) (g_d dtbX0_notePart_0 10 rfl) rfl rfl ?_
  refine nz_iadd (pc' := 19) (g_d dtbX0_notePart_0 11 rfl) rfl ?_
  refine nz_iald (i * 5 + p) (pc' := 20) (g_d dtbX0_notePart_0 12 rfl) (bk_l3 hk) (bk_s3 hk) (by omega) (by push_cast; omega) (by omega) rfl ?_
  refine cz_goto (pc' := 24) (g_d dtbX0_notePart_0 13 rfl) rfl ?_
  refine nz_ri .int (g_d dtbX0_notePart_0 15 rfl) rfl rfl ?_
  exact ⟨rfl, rfl⟩

set_option maxRecDepth 20000 in
set_option maxHeartbeats 4000000 in
theorem c_beginWith (G : Wd) (Z : ZS) (k : Nat) (n : Int) (hk : Bk k) : Cn G mX0_beginWith 0 [some (.ref k), some (iv (n))] [] Z (qv (fun W => BR W k (ru rBegin 0 n) ∧ Fb k Z W)) := by
  refine cz_aload_n (pc' := 1) (g_d dtbX0_beginWith_0 0 rfl) rfl rfl ?_
  refine nz_getf (v := .ref (k + 1)) (pc' := 4) (g_d dtbX0_beginWith_0 1 rfl) gf_X0_9 (bk_l hk) (bk_s hk) (bk_r0 hk _) rfl ?_
  refine nz_iconst (pc' := 5) (g_d dtbX0_beginWith_0 2 rfl) rfl ?_
  refine nz_cSv (M' := mJ7_fill_53178) (As := [.ref (k + 1), iv 0]) (S := []) (L := [some (.ref k), some (iv (n))]) (pc' := 8) (g_d dtbX0_beginWith_0 3 rfl) lk_X0_24 okJ7_fill_53178 rfl rfl (Nat.le_of_ble_eq_true rfl) (Nat.le_of_ble_eq_true rfl) (by decide) rfl (c_fill G Z (k + 1) _ _ (bk_l1 hk) (bk_s1 hk) (by decide)) ?_
  rintro _ rfl
  refine cz_aload_n (pc' := 9) (g_d dtbX0_beginWith_0 4 rfl) rfl rfl ?_
  refine nz_getf (v := .ref (k + 1)) (pc' := 12) (g_d dtbX0_beginWith_0 5 rfl) gf_X0_9 (bk_l hk) (bk_s hk) (bk_r0 hk _) rfl ?_
  refine nz_iconst (pc' := 13) (g_d dtbX0_beginWith_0 6 rfl) rfl ?_
  refine cz_iload_n (pc' := 14) (g_d dtbX0_beginWith_0 7 rfl) rfl rfl ?_
  refine nz_iast 0 (pc' := 15) (g_d dtbX0_beginWith_0 8 rfl) (bk_l1 hk) (bk_s1 hk) (by omega) (by rfl) (by omega) rfl ?_
  refine cz_aload_n (pc' := 16) (g_d dtbX0_beginWith_0 9 rfl) rfl rfl ?_
  refine nz_getf (v := .ref (k + 1)) (pc' := 19) (g_d dtbX0_beginWith_0 10 rfl) gf_X0_9 (bk_l hk) (bk_s hk) (bk_r0 hk _) rfl ?_
  refine nz_iconst (pc' := 20) (g_d dtbX0_beginWith_0 11 rfl) rfl ?_
  refine nz_iconst (pc' := 21) (g_d dtbX0_beginWith_0 12 rfl) rfl ?_
  refine nz_iast 3 (pc' := 22) (g_d dtbX0_beginWith_0 13 rfl) (bk_l1 hk) (bk_s1 hk) (by omega) (by rfl) (by omega) rfl ?_
  refine cz_aload_n (pc' := 23) (g_d dtbX0_beginWith_0 14 rfl) rfl rfl ?_
  refine nz_iconst (pc' := 24) (g_d dtbX0_beginWith_0 15 rfl) rfl ?_
  refine nz_puti (pc' := 27) (g_d dtbX0_beginWith_0 16 rfl) pf_X0_30 rfl (bk_l hk) (bk_s hk) rfl ?_
  refine cz_aload_n (pc' := 28) (g_d dtbX0_beginWith_0 17 rfl) rfl rfl ?_
  refine nz_iconst (pc' := 29) (g_d dtbX0_beginWith_0 18 rfl) rfl ?_
  refine nz_puti (pc' := 32) (g_d dtbX0_beginWith_0 19 rfl) pf_X0_34 rfl (bk_l hk) (bk_s hk) rfl ?_
  refine cz_aload_n (pc' := 33) (g_d dtbX0_beginWith_0 20 rfl) rfl rfl ?_
  refine nz_iconst (pc' := 34) (g_d dtbX0_beginWith_0 21 rfl) rfl ?_
  refine nz_puti (pc' := 37) (g_d dtbX0_beginWith_0 22 rfl) pf_X0_37 rfl (bk_l hk) (bk_s hk) rfl ?_
  refine nz_rv (g_d dtbX0_beginWith_0 23 rfl) rfl ?_
  exact ⟨br_begin hk, (Fb.u (Fb.u (Fb.u (Fb.u (Fb.u (Fb.r Fb.rf ⟨by omega, by omega⟩) ⟨by omega, by omega⟩) ⟨by omega, by omega⟩) ⟨by omega, by omega⟩) ⟨by omega, by omega⟩) ⟨by omega, by omega⟩)⟩

set_option maxRecDepth 20000 in
set_option maxHeartbeats 4000000 in
theorem c_addBill (G : Wd) (Z : ZS) (k c : Nat) (f : Row) (a d p : Int) (hk : Bk k) (hB : BR Z k f) (hc : f 6 = (c : Int)) (hc7 : c < 7) : Cn G mX0_addBill 0 [some (.ref k), some (iv (a)), some (iv (d)), some (iv (p)), none] [] Z (qv (fun W => BR W k (rBill f a d p) ∧ Fb k Z W)) := by
  have h4 : Z k 4 = (c : Int) := hB.2.1.trans hc
  refine cz_aload_n (pc' := 1) (g_d dtbX0_addBill_0 0 rfl) rfl rfl ?_
  refine nz_getf (v := iv ((c : Int))) (pc' := 4) (g_d dtbX0_addBill_0 1 rfl) gf_X0_30 (bk_l hk) (bk_s hk) (congrArg iv (by simp [zu, h4])) rfl ?_
  refine nz_bipush (pc' := 6) (g_d dtbX0_addBill_0 2 rfl) (by decide) rfl ?_
  refine nz_icmp_lt_t (tgt := 10) (g_d dtbX0_addBill_0 3 rfl) (by omega) (by omega) rfl (by omega) ?_
  refine cz_aload_n (pc' := 11) (g_d dtbX0_addBill_0 5 rfl) rfl rfl ?_
  refine nz_getf (v := iv ((c : Int))) (pc' := 14) (g_d dtbX0_addBill_0 6 rfl) gf_X0_30 (bk_l hk) (bk_s hk) (congrArg iv (by simp [zu, h4])) rfl ?_
  refine nz_iconst (pc' := 15) (g_d dtbX0_addBill_0 7 rfl) rfl ?_
  refine nz_imul (pc' := 16) (g_d dtbX0_addBill_0 8 rfl) rfl ?_
  refine cz_istore (L' := [some (.ref k), some (iv (a)), some (iv (d)), some (iv (p)), some (iv (((c : Int)) * 3))]) (pc' := 18) (g_d dtbX0_addBill_0 9 rfl) (by decide) rfl rfl ?_
  refine cz_aload_n (pc' := 19) (g_d dtbX0_addBill_0 10 rfl) rfl rfl ?_
  refine nz_getf (v := .ref (k + 2)) (pc' := 22) (g_d dtbX0_addBill_0 11 rfl) gf_X0_15 (bk_l hk) (bk_s hk) (bk_r1 hk _) rfl ?_
  refine cz_iload (pc' := 24) (g_d dtbX0_addBill_0 12 rfl) rfl rfl ?_
  refine cz_iload_n (pc' := 25) (g_d dtbX0_addBill_0 13 rfl) rfl rfl ?_
  refine nz_iast (c * 3) (pc' := 26) (g_d dtbX0_addBill_0 14 rfl) (bk_l2 hk) (bk_s2 hk) (by omega) (by push_cast; omega) (by omega) rfl ?_
  refine cz_aload_n (pc' := 27) (g_d dtbX0_addBill_0 15 rfl) rfl rfl ?_
  refine nz_getf (v := .ref (k + 2)) (pc' := 30) (g_d dtbX0_addBill_0 16 rfl) gf_X0_15 (bk_l hk) (bk_s hk) (bk_r1 hk _) rfl ?_
  refine cz_iload (pc' := 32) (g_d dtbX0_addBill_0 17 rfl) rfl rfl ?_
  refine nz_iconst (pc' := 33) (g_d dtbX0_addBill_0 18 rfl) rfl ?_
  refine nz_iadd (pc' := 34) (g_d dtbX0_addBill_0 19 rfl) rfl ?_
  refine cz_iload_n (pc' := 35) (g_d dtbX0_addBill_0 20 rfl) rfl rfl ?_
  refine nz_iast (c * 3 + 1) (pc' := 36) (g_d dtbX0_addBill_0 21 rfl) (bk_l2 hk) (bk_s2 hk) (by omega) (by push_cast; omega) (by omega) rfl ?_
  refine cz_aload_n (pc' := 37) (g_d dtbX0_addBill_0 22 rfl) rfl rfl ?_
  refine nz_getf (v := .ref (k + 2)) (pc' := 40) (g_d dtbX0_addBill_0 23 rfl) gf_X0_15 (bk_l hk) (bk_s hk) (bk_r1 hk _) rfl ?_
  refine cz_iload (pc' := 42) (g_d dtbX0_addBill_0 24 rfl) rfl rfl ?_
  refine nz_iconst (pc' := 43) (g_d dtbX0_addBill_0 25 rfl) rfl ?_
  refine nz_iadd (pc' := 44) (g_d dtbX0_addBill_0 26 rfl) rfl ?_
  refine cz_iload_n (pc' := 45) (g_d dtbX0_addBill_0 27 rfl) rfl rfl ?_
  refine nz_iast (c * 3 + 2) (pc' := 46) (g_d dtbX0_addBill_0 28 rfl) (bk_l2 hk) (bk_s2 hk) (by omega) (by push_cast; omega) (by omega) rfl ?_
  refine cz_aload_n (pc' := 47) (g_d dtbX0_addBill_0 29 rfl) rfl rfl ?_
  refine cz_dup (pc' := 48) (g_d dtbX0_addBill_0 30 rfl) rfl rfl ?_
  refine nz_getf (v := iv ((c : Int))) (pc' := 51) (g_d dtbX0_addBill_0 31 rfl) gf_X0_30 (bk_l hk) (bk_s hk) (congrArg iv (by simp [zu, h4])) rfl ?_
  refine nz_iconst (pc' := 52) (g_d dtbX0_addBill_0 32 rfl) rfl ?_
  refine nz_iadd (pc' := 53) (g_d dtbX0_addBill_0 33 rfl) rfl ?_
  refine nz_puti (pc' := 56) (g_d dtbX0_addBill_0 34 rfl) pf_X0_30 rfl (bk_l hk) (bk_s hk) rfl ?_
  refine cz_aload_n (pc' := 57) (g_d dtbX0_addBill_0 35 rfl) rfl rfl ?_
  refine nz_iconst (pc' := 58) (g_d dtbX0_addBill_0 36 rfl) rfl ?_
  refine nz_puti (pc' := 61) (g_d dtbX0_addBill_0 37 rfl) pf_X0_37 rfl (bk_l hk) (bk_s hk) rfl ?_
  refine nz_rv (g_d dtbX0_addBill_0 38 rfl) rfl ?_
  exact ⟨br_bill hB hc hc7, (Fb.u (Fb.u (Fb.u (Fb.u (Fb.u Fb.rf ⟨by omega, by omega⟩) ⟨by omega, by omega⟩) ⟨by omega, by omega⟩) ⟨by omega, by omega⟩) ⟨by omega, by omega⟩)⟩

set_option maxRecDepth 20000 in
set_option maxHeartbeats 4000000 in
theorem c_addNote (G : Wd) (Z : ZS) (k c : Nat) (f : Row) (b d e m q : Int) (hk : Bk k) (hB : BR Z k f) (hc : f 28 = (c : Int)) (hc6 : c < 6) : Cn G mX0_addNote 0 [some (.ref k), some (iv (b)), some (iv (d)), some (iv (e)), some (iv (m)), some (iv (q)), none] [] Z (qv (fun W => BR W k (rNote f b d e m q) ∧ Fb k Z W)) := by
  have h4 : Z k 5 = (c : Int) := hB.2.2.2.1.trans hc
  refine cz_aload_n (pc' := 1) (g_d dtbX0_addNote_0 0 rfl) rfl rfl ?_
  refine nz_getf (v := iv ((c : Int))) (pc' := 4) (g_d dtbX0_addNote_0 1 rfl) gf_X0_34 (bk_l hk) (bk_s hk) (congrArg iv (by simp [zu, h4])) rfl ?_
  refine nz_bipush (pc' := 6) (g_d dtbX0_addNote_0 2 rfl) (by decide) rfl ?_
  refine nz_icmp_lt_t (tgt := 10) (g_d dtbX0_addNote_0 3 rfl) (by omega) (by omega) rfl (by omega) ?_
  refine cz_aload_n (pc' := 11) (g_d dtbX0_addNote_0 5 rfl) rfl rfl ?_
  refine nz_getf (v := iv ((c : Int))) (pc' := 14) (g_d dtbX0_addNote_0 6 rfl) gf_X0_34 (bk_l hk) (bk_s hk) (congrArg iv (by simp [zu, h4])) rfl ?_
  refine nz_iconst (pc' := 15) (g_d dtbX0_addNote_0 7 rfl) rfl ?_
  refine nz_imul (pc' := 16) (g_d dtbX0_addNote_0 8 rfl) rfl ?_
  refine cz_istore (L' := [some (.ref k), some (iv (b)), some (iv (d)), some (iv (e)), some (iv (m)), some (iv (q)), some (iv (((c : Int)) * 5))]) (pc' := 18) (g_d dtbX0_addNote_0 9 rfl) (by decide) rfl rfl ?_
  refine cz_aload_n (pc' := 19) (g_d dtbX0_addNote_0 10 rfl) rfl rfl ?_
  refine nz_getf (v := .ref (k + 3)) (pc' := 22) (g_d dtbX0_addNote_0 11 rfl) gf_X0_18 (bk_l hk) (bk_s hk) (bk_r2 hk _) rfl ?_
  refine cz_iload (pc' := 24) (g_d dtbX0_addNote_0 12 rfl) rfl rfl ?_
  refine cz_iload_n (pc' := 25) (g_d dtbX0_addNote_0 13 rfl) rfl rfl ?_
  refine nz_iast (c * 5) (pc' := 26) (g_d dtbX0_addNote_0 14 rfl) (bk_l3 hk) (bk_s3 hk) (by omega) (by push_cast; omega) (by omega) rfl ?_
  refine cz_aload_n (pc' := 27) (g_d dtbX0_addNote_0 15 rfl) rfl rfl ?_
  refine nz_getf (v := .ref (k + 3)) (pc' := 30) (g_d dtbX0_addNote_0 16 rfl) gf_X0_18 (bk_l hk) (bk_s hk) (bk_r2 hk _) rfl ?_
  refine cz_iload (pc' := 32) (g_d dtbX0_addNote_0 17 rfl) rfl rfl ?_
  refine nz_iconst (pc' := 33) (g_d dtbX0_addNote_0 18 rfl) rfl ?_
  refine nz_iadd (pc' := 34) (g_d dtbX0_addNote_0 19 rfl) rfl ?_
  refine cz_iload_n (pc' := 35) (g_d dtbX0_addNote_0 20 rfl) rfl rfl ?_
  refine nz_iast (c * 5 + 1) (pc' := 36) (g_d dtbX0_addNote_0 21 rfl) (bk_l3 hk) (bk_s3 hk) (by omega) (by push_cast; omega) (by omega) rfl ?_
  refine cz_aload_n (pc' := 37) (g_d dtbX0_addNote_0 22 rfl) rfl rfl ?_
  refine nz_getf (v := .ref (k + 3)) (pc' := 40) (g_d dtbX0_addNote_0 23 rfl) gf_X0_18 (bk_l hk) (bk_s hk) (bk_r2 hk _) rfl ?_
  refine cz_iload (pc' := 42) (g_d dtbX0_addNote_0 24 rfl) rfl rfl ?_
  refine nz_iconst (pc' := 43) (g_d dtbX0_addNote_0 25 rfl) rfl ?_
  refine nz_iadd (pc' := 44) (g_d dtbX0_addNote_0 26 rfl) rfl ?_
  refine cz_iload_n (pc' := 45) (g_d dtbX0_addNote_0 27 rfl) rfl rfl ?_
  refine nz_iast (c * 5 + 2) (pc' := 46) (g_d dtbX0_addNote_0 28 rfl) (bk_l3 hk) (bk_s3 hk) (by omega) (by push_cast; omega) (by omega) rfl ?_
  refine cz_aload_n (pc' := 47) (g_d dtbX0_addNote_0 29 rfl) rfl rfl ?_
  refine nz_getf (v := .ref (k + 3)) (pc' := 50) (g_d dtbX0_addNote_0 30 rfl) gf_X0_18 (bk_l hk) (bk_s hk) (bk_r2 hk _) rfl ?_
  refine cz_iload (pc' := 52) (g_d dtbX0_addNote_0 31 rfl) rfl rfl ?_
  refine nz_iconst (pc' := 53) (g_d dtbX0_addNote_0 32 rfl) rfl ?_
  refine nz_iadd (pc' := 54) (g_d dtbX0_addNote_0 33 rfl) rfl ?_
  refine cz_iload (pc' := 56) (g_d dtbX0_addNote_0 34 rfl) rfl rfl ?_
  refine nz_iast (c * 5 + 3) (pc' := 57) (g_d dtbX0_addNote_0 35 rfl) (bk_l3 hk) (bk_s3 hk) (by omega) (by push_cast; omega) (by omega) rfl ?_
  refine cz_aload_n (pc' := 58) (g_d dtbX0_addNote_0 36 rfl) rfl rfl ?_
  refine nz_getf (v := .ref (k + 3)) (pc' := 61) (g_d dtbX0_addNote_0 37 rfl) gf_X0_18 (bk_l hk) (bk_s hk) (bk_r2 hk _) rfl ?_
  refine cz_iload (pc' := 63) (g_d dtbX0_addNote_0 38 rfl) rfl rfl ?_
  refine nz_iconst (pc' := 64) (g_d dtbX0_addNote_0 39 rfl) rfl ?_
  refine nz_iadd (pc' := 65) (g_d dtbX0_addNote_0 40 rfl) rfl ?_
  refine cz_iload (pc' := 67) (g_d dtbX0_addNote_0 41 rfl) rfl rfl ?_
  refine nz_iast (c * 5 + 4) (pc' := 68) (g_d dtbX0_addNote_0 42 rfl) (bk_l3 hk) (bk_s3 hk) (by omega) (by push_cast; omega) (by omega) rfl ?_
  refine cz_aload_n (pc' := 69) (g_d dtbX0_addNote_0 43 rfl) rfl rfl ?_
  refine cz_dup (pc' := 70) (g_d dtbX0_addNote_0 44 rfl) rfl rfl ?_
  refine nz_getf (v := iv ((c : Int))) (pc' := 73) (g_d dtbX0_addNote_0 45 rfl) gf_X0_34 (bk_l hk) (bk_s hk) (congrArg iv (by simp [zu, h4])) rfl ?_
  refine nz_iconst (pc' := 74) (g_d dtbX0_addNote_0 46 rfl) rfl ?_
  refine nz_iadd (pc' := 75) (g_d dtbX0_addNote_0 47 rfl) rfl ?_
  refine nz_puti (pc' := 78) (g_d dtbX0_addNote_0 48 rfl) pf_X0_34 rfl (bk_l hk) (bk_s hk) rfl ?_
  refine nz_rv (g_d dtbX0_addNote_0 49 rfl) rfl ?_
  exact ⟨br_note hB hc hc6, (Fb.u (Fb.u (Fb.u (Fb.u (Fb.u (Fb.u Fb.rf ⟨by omega, by omega⟩) ⟨by omega, by omega⟩) ⟨by omega, by omega⟩) ⟨by omega, by omega⟩) ⟨by omega, by omega⟩) ⟨by omega, by omega⟩)⟩

set_option maxRecDepth 20000 in
set_option maxHeartbeats 4000000 in
theorem c_keepPast2 (G : Wd) (Z : ZS) (k c : Nat) (f : Row) (hk : Bk k) (hB : BR Z k f) (hc : f 59 = (c : Int)) (hc8 : c < 8) : Cn G mX0_keepPast 31 [some (.ref k)] [] Z (qv (fun W => BR W k (rPut f) ∧ Fb k Z W)) := by
  have h4 : Z k 6 = (c : Int) := hB.2.2.2.2.2.1.trans hc
  refine cz_aload_n (pc' := 32) (g_d dtbX0_keepPast_0 15 rfl) rfl rfl ?_
  refine nz_getf (v := .ref (k + 1)) (pc' := 35) (g_d dtbX0_keepPast_0 16 rfl) gf_X0_9 (bk_l hk) (bk_s hk) (bk_r0 hk _) rfl ?_
  refine nz_iconst (pc' := 36) (g_d dtbX0_keepPast_0 17 rfl) rfl ?_
  refine cz_aload_n (pc' := 37) (g_d dtbX0_keepPast_0 18 rfl) rfl rfl ?_
  refine nz_getf (v := .ref (k + 4)) (pc' := 40) (g_d dtbX0_keepPast_0 19 rfl) gf_X0_21 (bk_l hk) (bk_s hk) (bk_r3 hk _) rfl ?_
  refine cz_aload_n (pc' := 41) (g_d dtbX0_keepPast_0 20 rfl) rfl rfl ?_
  refine nz_getf (v := iv ((c : Int))) (pc' := 44) (g_d dtbX0_keepPast_0 21 rfl) gf_X0_37 (bk_l hk) (bk_s hk) (congrArg iv (by simp [zu, zr, h4])) rfl ?_
  refine nz_bipush (pc' := 46) (g_d dtbX0_keepPast_0 22 rfl) (by decide) rfl ?_
  refine nz_imul (pc' := 47) (g_d dtbX0_keepPast_0 23 rfl) rfl ?_
  refine nz_bipush (pc' := 49) (g_d dtbX0_keepPast_0 24 rfl) (by decide) rfl ?_
  refine nz_acopy 0 (c * 6) 6 (pc' := 52) (g_d dtbX0_keepPast_0 25 rfl) la_X0_44 (bk_l1 hk) (bk_l4 hk) (bk_s1 hk) (bk_s4 hk) (by decide) (by rfl) (by push_cast; omega) (by rfl) (by omega) (by omega) (by decide) (by decide) rfl ?_
  refine cz_aload_n (pc' := 53) (g_d dtbX0_keepPast_0 26 rfl) rfl rfl ?_
  refine cz_dup (pc' := 54) (g_d dtbX0_keepPast_0 27 rfl) rfl rfl ?_
  refine nz_getf (v := iv ((c : Int))) (pc' := 57) (g_d dtbX0_keepPast_0 28 rfl) gf_X0_37 (bk_l hk) (bk_s hk) (congrArg iv (by simp [zu, zr, h4])) rfl ?_
  refine nz_iconst (pc' := 58) (g_d dtbX0_keepPast_0 29 rfl) rfl ?_
  refine nz_iadd (pc' := 59) (g_d dtbX0_keepPast_0 30 rfl) rfl ?_
  refine nz_puti (pc' := 62) (g_d dtbX0_keepPast_0 31 rfl) pf_X0_37 rfl (bk_l hk) (bk_s hk) rfl ?_
  refine nz_rv (g_d dtbX0_keepPast_0 32 rfl) rfl ?_
  exact ⟨br_put hB hc hc8, (Fb.u (Fb.r Fb.rf ⟨by omega, by omega⟩) ⟨by omega, by omega⟩)⟩

set_option maxRecDepth 20000 in
set_option maxHeartbeats 4000000 in
theorem c_keepPast (G : Wd) (Z : ZS) (k : Nat) (f : Row) (hk : Bk k) (hB : BR Z k f) (hc : 0 ≤ f 59 ∧ f 59 ≤ 8) : Cn G mX0_keepPast 0 [some (.ref k)] [] Z (qv (fun W => BR W k (rKeep f) ∧ Fb k Z W)) := by
  refine cz_aload_n (pc' := 1) (g_d dtbX0_keepPast_0 0 rfl) rfl rfl ?_
  refine nz_getf (v := iv (f 59)) (pc' := 4) (g_d dtbX0_keepPast_0 1 rfl) gf_X0_37 (bk_l hk) (bk_s hk) (congrArg iv (hB.2.2.2.2.2.1)) rfl ?_
  refine nz_bipush (pc' := 6) (g_d dtbX0_keepPast_0 2 rfl) (by decide) rfl ?_
  refine nz_icmp_lt (tgt := 31) (pc' := 9) (g_d dtbX0_keepPast_0 3 rfl) (by omega) (by omega) rfl rfl (fun h6 => ?_) (fun h6 => ?_)
  · have hs : rShift f = f := by rw [rShift, if_neg (show ¬ f 59 = 8 by omega)]
    rw [rKeep, hs]
    exact c_keepPast2 G Z k (f 59).toNat f hk hB (by omega) (by omega)
  · refine cz_aload_n (pc' := 10) (g_d dtbX0_keepPast_0 4 rfl) rfl rfl ?_
    refine nz_getf (v := .ref (k + 4)) (pc' := 13) (g_d dtbX0_keepPast_0 5 rfl) gf_X0_21 (bk_l hk) (bk_s hk) (bk_r3 hk _) rfl ?_
    refine nz_bipush (pc' := 15) (g_d dtbX0_keepPast_0 6 rfl) (by decide) rfl ?_
    refine cz_aload_n (pc' := 16) (g_d dtbX0_keepPast_0 7 rfl) rfl rfl ?_
    refine nz_getf (v := .ref (k + 4)) (pc' := 19) (g_d dtbX0_keepPast_0 8 rfl) gf_X0_21 (bk_l hk) (bk_s hk) (bk_r3 hk _) rfl ?_
    refine nz_iconst (pc' := 20) (g_d dtbX0_keepPast_0 9 rfl) rfl ?_
    refine nz_bipush (pc' := 22) (g_d dtbX0_keepPast_0 10 rfl) (by decide) rfl ?_
    refine nz_acopy 6 0 42 (pc' := 25) (g_d dtbX0_keepPast_0 11 rfl) la_X0_44 (bk_l4 hk) (bk_l4 hk) (bk_s4 hk) (bk_s4 hk) (by decide) (by rfl) (by rfl) (by rfl) (by omega) (by omega) (by decide) (by decide) rfl ?_
    refine cz_aload_n (pc' := 26) (g_d dtbX0_keepPast_0 12 rfl) rfl rfl ?_
    refine nz_bipush (pc' := 28) (g_d dtbX0_keepPast_0 13 rfl) (by decide) rfl ?_
    refine nz_puti (pc' := 31) (g_d dtbX0_keepPast_0 14 rfl) pf_X0_37 rfl (bk_l hk) (bk_s hk) rfl ?_
    have hB2 := br_shift hB (show f 59 = 8 by omega)
    refine nz_wv (c_keepPast2 G _ k 7 _ hk hB2 (by rw [rShift, if_pos (show f 59 = 8 by omega), ru_eq]; rfl) (by decide)) (fun W h => ⟨h.1, Fb.tr (Fb.u (Fb.r Fb.rf ⟨by omega, by omega⟩) ⟨by omega, by omega⟩) h.2⟩)

set_option maxRecDepth 20000 in
set_option maxHeartbeats 4000000 in
theorem c_stepBack (G : Wd) (Z : ZS) (k c : Nat) (f : Row) (hk : Bk k) (hB : BR Z k f) (hc : f 59 = (c : Int) + 1) (hc8 : c < 8) : Cn G mX0_stepBack 0 [some (.ref k)] [] Z (qv (fun W => BR W k (rUndo f) ∧ Fb k Z W)) := by
  have h4 : Z k 6 = (c : Int) + 1 := hB.2.2.2.2.2.1.trans hc
  refine cz_aload_n (pc' := 1) (g_d dtbX0_stepBack_0 0 rfl) rfl rfl ?_
  refine nz_getf (v := iv ((c : Int) + 1)) (pc' := 4) (g_d dtbX0_stepBack_0 1 rfl) gf_X0_37 (bk_l hk) (bk_s hk) (congrArg iv (by simp [zu, h4])) rfl ?_
  refine nz_if_gt_t (tgt := 8) (g_d dtbX0_stepBack_0 2 rfl) (by omega) rfl (by omega) ?_
  refine cz_aload_n (pc' := 9) (g_d dtbX0_stepBack_0 4 rfl) rfl rfl ?_
  refine cz_dup (pc' := 10) (g_d dtbX0_stepBack_0 5 rfl) rfl rfl ?_
  refine nz_getf (v := iv ((c : Int) + 1)) (pc' := 13) (g_d dtbX0_stepBack_0 6 rfl) gf_X0_37 (bk_l hk) (bk_s hk) (congrArg iv (by simp [zu, h4])) rfl ?_
  refine nz_iconst (pc' := 14) (g_d dtbX0_stepBack_0 7 rfl) rfl ?_
  refine nz_isub (pc' := 15) (g_d dtbX0_stepBack_0 8 rfl) rfl ?_
  refine nz_puti (pc' := 18) (g_d dtbX0_stepBack_0 9 rfl) pf_X0_37 rfl (bk_l hk) (bk_s hk) rfl ?_
  refine cz_aload_n (pc' := 19) (g_d dtbX0_stepBack_0 10 rfl) rfl rfl ?_
  refine nz_getf (v := .ref (k + 4)) (pc' := 22) (g_d dtbX0_stepBack_0 11 rfl) gf_X0_21 (bk_l hk) (bk_s hk) (bk_r3 hk _) rfl ?_
  refine cz_aload_n (pc' := 23) (g_d dtbX0_stepBack_0 12 rfl) rfl rfl ?_
  refine nz_getf (v := iv ((c : Int))) (pc' := 26) (g_d dtbX0_stepBack_0 13 rfl) gf_X0_37 (bk_l hk) (bk_s hk) (congrArg iv (by simp [zu, h4])) rfl ?_
  refine nz_bipush (pc' := 28) (g_d dtbX0_stepBack_0 14 rfl) (by decide) rfl ?_
  refine nz_imul (pc' := 29) (g_d dtbX0_stepBack_0 15 rfl) rfl ?_
  refine cz_aload_n (pc' := 30) (g_d dtbX0_stepBack_0 16 rfl) rfl rfl ?_
  refine nz_getf (v := .ref (k + 1)) (pc' := 33) (g_d dtbX0_stepBack_0 17 rfl) gf_X0_9 (bk_l hk) (bk_s hk) (bk_r0 hk _) rfl ?_
  refine nz_iconst (pc' := 34) (g_d dtbX0_stepBack_0 18 rfl) rfl ?_
  refine nz_bipush (pc' := 36) (g_d dtbX0_stepBack_0 19 rfl) (by decide) rfl ?_
  refine nz_acopy (c * 6) 0 6 (pc' := 39) (g_d dtbX0_stepBack_0 20 rfl) la_X0_44 (bk_l4 hk) (bk_l1 hk) (bk_s4 hk) (bk_s1 hk) (by decide) (by push_cast; omega) (by rfl) (by rfl) (by omega) (by omega) (by decide) (by decide) rfl ?_
  refine nz_rv (g_d dtbX0_stepBack_0 21 rfl) rfl ?_
  have q := br_undo hB hc hc8
  refine ⟨?_, (Fb.r (Fb.u Fb.rf ⟨by omega, by omega⟩) ⟨by omega, by omega⟩)⟩
  have e : (c : Int) + 1 - 1 = (c : Int) := by omega
  rw [e, zu_row (show k + 4 ≠ k by omega), zu_row (show k + 1 ≠ k by omega)]
  exact q

set_option maxRecDepth 20000 in
set_option maxHeartbeats 4000000 in
theorem c_copyFrom (G : Wd) (Z : ZS) (k j : Nat) (f : Row) (hk : Bk k) (hj : Bk j) (hkj : k ≠ j) (hB : BR Z j f) : Cn G mX0_copyFrom 0 [some (.ref k), some (.ref j)] [] Z (qv (fun W => BR W k f ∧ Fb k Z W)) := by
  refine cz_aload_n (pc' := 1) (g_d dtbX0_copyFrom_0 0 rfl) rfl rfl ?_
  refine nz_getf (v := .ref (j + 1)) (pc' := 4) (g_d dtbX0_copyFrom_0 1 rfl) gf_X0_9 (bk_l hj) (bk_s hj) (bk_r0 hj _) rfl ?_
  refine nz_iconst (pc' := 5) (g_d dtbX0_copyFrom_0 2 rfl) rfl ?_
  refine cz_aload_n (pc' := 6) (g_d dtbX0_copyFrom_0 3 rfl) rfl rfl ?_
  refine nz_getf (v := .ref (k + 1)) (pc' := 9) (g_d dtbX0_copyFrom_0 4 rfl) gf_X0_9 (bk_l hk) (bk_s hk) (bk_r0 hk _) rfl ?_
  refine nz_iconst (pc' := 10) (g_d dtbX0_copyFrom_0 5 rfl) rfl ?_
  refine nz_bipush (pc' := 12) (g_d dtbX0_copyFrom_0 6 rfl) (by decide) rfl ?_
  refine nz_acopy 0 0 6 (pc' := 15) (g_d dtbX0_copyFrom_0 7 rfl) la_X0_44 (bk_l1 hj) (bk_l1 hk) (bk_s1 hj) (bk_s1 hk) (by decide) (by rfl) (by rfl) (by rfl) (by omega) (by omega) (by decide) (by decide) rfl ?_
  refine cz_aload_n (pc' := 16) (g_d dtbX0_copyFrom_0 8 rfl) rfl rfl ?_
  refine nz_getf (v := .ref (j + 2)) (pc' := 19) (g_d dtbX0_copyFrom_0 9 rfl) gf_X0_15 (bk_l hj) (bk_s hj) (bk_r1 hj _) rfl ?_
  refine nz_iconst (pc' := 20) (g_d dtbX0_copyFrom_0 10 rfl) rfl ?_
  refine cz_aload_n (pc' := 21) (g_d dtbX0_copyFrom_0 11 rfl) rfl rfl ?_
  refine nz_getf (v := .ref (k + 2)) (pc' := 24) (g_d dtbX0_copyFrom_0 12 rfl) gf_X0_15 (bk_l hk) (bk_s hk) (bk_r1 hk _) rfl ?_
  refine nz_iconst (pc' := 25) (g_d dtbX0_copyFrom_0 13 rfl) rfl ?_
  refine nz_bipush (pc' := 27) (g_d dtbX0_copyFrom_0 14 rfl) (by decide) rfl ?_
  refine nz_acopy 0 0 21 (pc' := 30) (g_d dtbX0_copyFrom_0 15 rfl) la_X0_44 (bk_l2 hj) (bk_l2 hk) (bk_s2 hj) (bk_s2 hk) (by decide) (by rfl) (by rfl) (by rfl) (by omega) (by omega) (by decide) (by decide) rfl ?_
  refine cz_aload_n (pc' := 31) (g_d dtbX0_copyFrom_0 16 rfl) rfl rfl ?_
  refine nz_getf (v := .ref (j + 3)) (pc' := 34) (g_d dtbX0_copyFrom_0 17 rfl) gf_X0_18 (bk_l hj) (bk_s hj) (bk_r2 hj _) rfl ?_
  refine nz_iconst (pc' := 35) (g_d dtbX0_copyFrom_0 18 rfl) rfl ?_
  refine cz_aload_n (pc' := 36) (g_d dtbX0_copyFrom_0 19 rfl) rfl rfl ?_
  refine nz_getf (v := .ref (k + 3)) (pc' := 39) (g_d dtbX0_copyFrom_0 20 rfl) gf_X0_18 (bk_l hk) (bk_s hk) (bk_r2 hk _) rfl ?_
  refine nz_iconst (pc' := 40) (g_d dtbX0_copyFrom_0 21 rfl) rfl ?_
  refine nz_bipush (pc' := 42) (g_d dtbX0_copyFrom_0 22 rfl) (by decide) rfl ?_
  refine nz_acopy 0 0 30 (pc' := 45) (g_d dtbX0_copyFrom_0 23 rfl) la_X0_44 (bk_l3 hj) (bk_l3 hk) (bk_s3 hj) (bk_s3 hk) (by decide) (by rfl) (by rfl) (by rfl) (by omega) (by omega) (by decide) (by decide) rfl ?_
  refine cz_aload_n (pc' := 46) (g_d dtbX0_copyFrom_0 24 rfl) rfl rfl ?_
  refine nz_getf (v := .ref (j + 4)) (pc' := 49) (g_d dtbX0_copyFrom_0 25 rfl) gf_X0_21 (bk_l hj) (bk_s hj) (bk_r3 hj _) rfl ?_
  refine nz_iconst (pc' := 50) (g_d dtbX0_copyFrom_0 26 rfl) rfl ?_
  refine cz_aload_n (pc' := 51) (g_d dtbX0_copyFrom_0 27 rfl) rfl rfl ?_
  refine nz_getf (v := .ref (k + 4)) (pc' := 54) (g_d dtbX0_copyFrom_0 28 rfl) gf_X0_21 (bk_l hk) (bk_s hk) (bk_r3 hk _) rfl ?_
  refine nz_iconst (pc' := 55) (g_d dtbX0_copyFrom_0 29 rfl) rfl ?_
  refine nz_bipush (pc' := 57) (g_d dtbX0_copyFrom_0 30 rfl) (by decide) rfl ?_
  refine nz_acopy 0 0 48 (pc' := 60) (g_d dtbX0_copyFrom_0 31 rfl) la_X0_44 (bk_l4 hj) (bk_l4 hk) (bk_s4 hj) (bk_s4 hk) (by decide) (by rfl) (by rfl) (by rfl) (by omega) (by omega) (by decide) (by decide) rfl ?_
  refine cz_aload_n (pc' := 61) (g_d dtbX0_copyFrom_0 32 rfl) rfl rfl ?_
  refine cz_aload_n (pc' := 62) (g_d dtbX0_copyFrom_0 33 rfl) rfl rfl ?_
  refine nz_getf (v := iv (Z j 4)) (pc' := 65) (g_d dtbX0_copyFrom_0 34 rfl) gf_X0_30 (bk_l hj) (bk_s hj) (congrArg iv (by rcases hk with rfl | rfl | rfl | rfl <;> rcases hj with rfl | rfl | rfl | rfl <;> first | (exact absurd rfl hkj) | simp [zu, zr])) rfl ?_
  refine nz_puti (pc' := 68) (g_d dtbX0_copyFrom_0 35 rfl) pf_X0_30 rfl (bk_l hk) (bk_s hk) rfl ?_
  refine cz_aload_n (pc' := 69) (g_d dtbX0_copyFrom_0 36 rfl) rfl rfl ?_
  refine cz_aload_n (pc' := 70) (g_d dtbX0_copyFrom_0 37 rfl) rfl rfl ?_
  refine nz_getf (v := iv (Z j 5)) (pc' := 73) (g_d dtbX0_copyFrom_0 38 rfl) gf_X0_34 (bk_l hj) (bk_s hj) (congrArg iv (by rcases hk with rfl | rfl | rfl | rfl <;> rcases hj with rfl | rfl | rfl | rfl <;> first | (exact absurd rfl hkj) | simp [zu, zr])) rfl ?_
  refine nz_puti (pc' := 76) (g_d dtbX0_copyFrom_0 39 rfl) pf_X0_34 rfl (bk_l hk) (bk_s hk) rfl ?_
  refine cz_aload_n (pc' := 77) (g_d dtbX0_copyFrom_0 40 rfl) rfl rfl ?_
  refine cz_aload_n (pc' := 78) (g_d dtbX0_copyFrom_0 41 rfl) rfl rfl ?_
  refine nz_getf (v := iv (Z j 6)) (pc' := 81) (g_d dtbX0_copyFrom_0 42 rfl) gf_X0_37 (bk_l hj) (bk_s hj) (congrArg iv (by rcases hk with rfl | rfl | rfl | rfl <;> rcases hj with rfl | rfl | rfl | rfl <;> first | (exact absurd rfl hkj) | simp [zu, zr])) rfl ?_
  refine nz_puti (pc' := 84) (g_d dtbX0_copyFrom_0 43 rfl) pf_X0_37 rfl (bk_l hk) (bk_s hk) rfl ?_
  refine nz_rv (g_d dtbX0_copyFrom_0 44 rfl) rfl ?_
  obtain ⟨W, eW⟩ : ∃ W : ZS, W = (zu (zu (zu (zr (zr (zr (zr Z (k + 1) (zcp (Z (j + 1)) (Z (k + 1)) 0 0 6)) (k + 2) (zcp ((zr Z (k + 1) (zcp (Z (j + 1)) (Z (k + 1)) 0 0 6)) (j + 2)) ((zr Z (k + 1) (zcp (Z (j + 1)) (Z (k + 1)) 0 0 6)) (k + 2)) 0 0 21)) (k + 3) (zcp ((zr (zr Z (k + 1) (zcp (Z (j + 1)) (Z (k + 1)) 0 0 6)) (k + 2) (zcp ((zr Z (k + 1) (zcp (Z (j + 1)) (Z (k + 1)) 0 0 6)) (j + 2)) ((zr Z (k + 1) (zcp (Z (j + 1)) (Z (k + 1)) 0 0 6)) (k + 2)) 0 0 21)) (j + 3)) ((zr (zr Z (k + 1) (zcp (Z (j + 1)) (Z (k + 1)) 0 0 6)) (k + 2) (zcp ((zr Z (k + 1) (zcp (Z (j + 1)) (Z (k + 1)) 0 0 6)) (j + 2)) ((zr Z (k + 1) (zcp (Z (j + 1)) (Z (k + 1)) 0 0 6)) (k + 2)) 0 0 21)) (k + 3)) 0 0 30)) (k + 4) (zcp ((zr (zr (zr Z (k + 1) (zcp (Z (j + 1)) (Z (k + 1)) 0 0 6)) (k + 2) (zcp ((zr Z (k + 1) (zcp (Z (j + 1)) (Z (k + 1)) 0 0 6)) (j + 2)) ((zr Z (k + 1) (zcp (Z (j + 1)) (Z (k + 1)) 0 0 6)) (k + 2)) 0 0 21)) (k + 3) (zcp ((zr (zr Z (k + 1) (zcp (Z (j + 1)) (Z (k + 1)) 0 0 6)) (k + 2) (zcp ((zr Z (k + 1) (zcp (Z (j + 1)) (Z (k + 1)) 0 0 6)) (j + 2)) ((zr Z (k + 1) (zcp (Z (j + 1)) (Z (k + 1)) 0 0 6)) (k + 2)) 0 0 21)) (j + 3)) ((zr (zr Z (k + 1) (zcp (Z (j + 1)) (Z (k + 1)) 0 0 6)) (k + 2) (zcp ((zr Z (k + 1) (zcp (Z (j + 1)) (Z (k + 1)) 0 0 6)) (j + 2)) ((zr Z (k + 1) (zcp (Z (j + 1)) (Z (k + 1)) 0 0 6)) (k + 2)) 0 0 21)) (k + 3)) 0 0 30)) (j + 4)) ((zr (zr (zr Z (k + 1) (zcp (Z (j + 1)) (Z (k + 1)) 0 0 6)) (k + 2) (zcp ((zr Z (k + 1) (zcp (Z (j + 1)) (Z (k + 1)) 0 0 6)) (j + 2)) ((zr Z (k + 1) (zcp (Z (j + 1)) (Z (k + 1)) 0 0 6)) (k + 2)) 0 0 21)) (k + 3) (zcp ((zr (zr Z (k + 1) (zcp (Z (j + 1)) (Z (k + 1)) 0 0 6)) (k + 2) (zcp ((zr Z (k + 1) (zcp (Z (j + 1)) (Z (k + 1)) 0 0 6)) (j + 2)) ((zr Z (k + 1) (zcp (Z (j + 1)) (Z (k + 1)) 0 0 6)) (k + 2)) 0 0 21)) (j + 3)) ((zr (zr Z (k + 1) (zcp (Z (j + 1)) (Z (k + 1)) 0 0 6)) (k + 2) (zcp ((zr Z (k + 1) (zcp (Z (j + 1)) (Z (k + 1)) 0 0 6)) (j + 2)) ((zr Z (k + 1) (zcp (Z (j + 1)) (Z (k + 1)) 0 0 6)) (k + 2)) 0 0 21)) (k + 3)) 0 0 30)) (k + 4)) 0 0 48)) k 4 (Z j 4)) k 5 (Z j 5)) k 6 (Z j 6)) := ⟨_, rfl⟩
  rw [← eW]
  have cs : ∀ P : Nat → Nat → Prop, P 1 6 → P 1 11 → P 1 19 → P 6 1 → P 6 11 → P 6 19 → P 11 1 → P 11 6 → P 11 19 → P 19 1 → P 19 6 → P 19 11 → P k j := by
    intro P a1 a2 a3 a4 a5 a6 a7 a8 a9 a10 a11 a12
    rcases hk with rfl | rfl | rfl | rfl <;> rcases hj with rfl | rfl | rfl | rfl <;> first | assumption | (exact absurd rfl hkj)
  have dj : k + 4 < j ∨ j + 4 < k := by apply cs (fun k j => k + 4 < j ∨ j + 4 < k) <;> omega
  refine ⟨br_copy hB (fun i hi => ?_) (fun i hi => ?_) (fun i hi => ?_) (fun i hi => ?_) ?_ ?_ ?_, ?_⟩
  · subst eW; rw [zu_row (by omega), zu_row (by omega), zu_row (by omega), zr_ne (by omega), zr_ne (by omega), zr_ne (by omega), zr_eq, zcp, if_pos (by omega)]; congr 1; omega
  · subst eW; rw [zu_row (by omega), zu_row (by omega), zu_row (by omega), zr_ne (by omega), zr_ne (by omega), zr_eq, zcp, if_pos (by omega), zr_ne (by omega)]; congr 1; omega
  · subst eW; rw [zu_row (by omega), zu_row (by omega), zu_row (by omega), zr_ne (by omega), zr_eq, zcp, if_pos (by omega), zr_ne (by omega), zr_ne (by omega)]; congr 1; omega
  · subst eW; rw [zu_row (by omega), zu_row (by omega), zu_row (by omega), zr_eq, zcp, if_pos (by omega), zr_ne (by omega), zr_ne (by omega), zr_ne (by omega)]; congr 1; omega
  · subst eW; rw [zu_ne (by omega), zu_ne (by omega), zu_eq]
  · subst eW; rw [zu_ne (by omega), zu_eq]
  · subst eW; rw [zu_eq]
  · rw [eW]; exact (Fb.u (Fb.u (Fb.u (Fb.r (Fb.r (Fb.r (Fb.r Fb.rf ⟨by omega, by omega⟩) ⟨by omega, by omega⟩) ⟨by omega, by omega⟩) ⟨by omega, by omega⟩) ⟨by omega, by omega⟩) ⟨by omega, by omega⟩) ⟨by omega, by omega⟩)
