/-! a rule an instruction -/
section
variable {G : Wd} {M : MD} {nE pc pc' : Nat} {L : List (Option Value)} {S : List Value} {σ : St} {Q : Option Value → St → Prop}
theorem cz_iconst {n : Int} {v : Int32} (hd : decode M.2.1 pc = .ok (.iconst n, 1)) (hv : Int32.ofInt n = v) (hp : pc + 1 = pc') (h : Cc G M nE pc' L (.int v :: S) σ Q) : Cc G M nE pc L (S) σ Q := by
  subst hp
  intro p e R s m args below meth c H locs ls cells slots n0 QQ hF hU hR ha hh hK hc1 hc2 hW hS hL
  exact lv_iconst hF.1 hF.2.1 hd hv (h p e R s m args below meth c H locs ls cells slots n0 QQ hF hU hR ha hh hK hc1 hc2 hW hS hL)
theorem cz_bipush {n : Int} {v : Int32} (hd : decode M.2.1 pc = .ok (.bipush n, 2)) (hv : (Int8.ofInt n).toInt32 = v) (hp : pc + 2 = pc') (h : Cc G M nE pc' L (.int v :: S) σ Q) : Cc G M nE pc L (S) σ Q := by
  subst hp
  intro p e R s m args below meth c H locs ls cells slots n0 QQ hF hU hR ha hh hK hc1 hc2 hW hS hL
  exact lv_bipush hF.1 hF.2.1 hd hv (h p e R s m args below meth c H locs ls cells slots n0 QQ hF hU hR ha hh hK hc1 hc2 hW hS hL)
theorem cz_sipush {n : Int} {v : Int32} (hd : decode M.2.1 pc = .ok (.sipush n, 3)) (hv : (Int16.ofInt n).toInt32 = v) (hp : pc + 3 = pc') (h : Cc G M nE pc' L (.int v :: S) σ Q) : Cc G M nE pc L (S) σ Q := by
  subst hp
  intro p e R s m args below meth c H locs ls cells slots n0 QQ hF hU hR ha hh hK hc1 hc2 hW hS hL
  exact lv_sipush hF.1 hF.2.1 hd hv (h p e R s m args below meth c H locs ls cells slots n0 QQ hF hU hR ha hh hK hc1 hc2 hW hS hL)
theorem cz_lconst {n : Fin 2} {v : Int64} (hd : decode M.2.1 pc = .ok (.lconst n, 1)) (hv : Int64.ofNat (n : Nat) = v) (hp : pc + 1 = pc') (h : Cc G M nE pc' L (.long v :: S) σ Q) : Cc G M nE pc L (S) σ Q := by
  subst hp
  intro p e R s m args below meth c H locs ls cells slots n0 QQ hF hU hR ha hh hK hc1 hc2 hW hS hL
  exact lv_lconst hF.1 hF.2.1 hd hv (h p e R s m args below meth c H locs ls cells slots n0 QQ hF hU hR ha hh hK hc1 hc2 hW hS hL)
theorem cz_iload {i : Nat} {x : Int32} (hd : decode M.2.1 pc = .ok (.iload i, 2)) (hl : L[i]? = some (some (.int x))) (hp : pc + 2 = pc') (h : Cc G M nE pc' L (.int x :: S) σ Q) : Cc G M nE pc L (S) σ Q := by
  subst hp
  intro p e R s m args below meth c H locs ls cells slots n0 QQ hF hU hR ha hh hK hc1 hc2 hW hS hL
  exact lv_iload hF.1 hF.2.1 hd (hL.2.2 _ _ hl) (h p e R s m args below meth c H locs ls cells slots n0 QQ hF hU hR ha hh hK hc1 hc2 hW hS hL)
theorem cz_iload_n {i : Fin 4} {x : Int32} (hd : decode M.2.1 pc = .ok (.iload_n i, 1)) (hl : L[(i : Nat)]? = some (some (.int x))) (hp : pc + 1 = pc') (h : Cc G M nE pc' L (.int x :: S) σ Q) : Cc G M nE pc L (S) σ Q := by
  subst hp
  intro p e R s m args below meth c H locs ls cells slots n0 QQ hF hU hR ha hh hK hc1 hc2 hW hS hL
  exact lv_iload_n hF.1 hF.2.1 hd rfl (hL.2.2 _ _ hl) (h p e R s m args below meth c H locs ls cells slots n0 QQ hF hU hR ha hh hK hc1 hc2 hW hS hL)
theorem cz_lload {i : Nat} {x : Int64} (hd : decode M.2.1 pc = .ok (.lload i, 2)) (hl : L[i]? = some (some (.long x))) (hp : pc + 2 = pc') (h : Cc G M nE pc' L (.long x :: S) σ Q) : Cc G M nE pc L (S) σ Q := by
  subst hp
  intro p e R s m args below meth c H locs ls cells slots n0 QQ hF hU hR ha hh hK hc1 hc2 hW hS hL
  exact lv_lload hF.1 hF.2.1 hd (hL.2.2 _ _ hl) (h p e R s m args below meth c H locs ls cells slots n0 QQ hF hU hR ha hh hK hc1 hc2 hW hS hL)
theorem cz_lload_n {i : Fin 4} {x : Int64} (hd : decode M.2.1 pc = .ok (.lload_n i, 1)) (hl : L[(i : Nat)]? = some (some (.long x))) (hp : pc + 1 = pc') (h : Cc G M nE pc' L (.long x :: S) σ Q) : Cc G M nE pc L (S) σ Q := by
  subst hp
  intro p e R s m args below meth c H locs ls cells slots n0 QQ hF hU hR ha hh hK hc1 hc2 hW hS hL
  exact lv_lload_n hF.1 hF.2.1 hd rfl (hL.2.2 _ _ hl) (h p e R s m args below meth c H locs ls cells slots n0 QQ hF hU hR ha hh hK hc1 hc2 hW hS hL)
theorem cz_aload {i : Nat} {x : Nat} (hd : decode M.2.1 pc = .ok (.aload i, 2)) (hl : L[i]? = some (some (.ref x))) (hp : pc + 2 = pc') (h : Cc G M nE pc' L (.ref x :: S) σ Q) : Cc G M nE pc L (S) σ Q := by
  subst hp
  intro p e R s m args below meth c H locs ls cells slots n0 QQ hF hU hR ha hh hK hc1 hc2 hW hS hL
  exact lv_aload hF.1 hF.2.1 hd (hL.2.2 _ _ hl) (h p e R s m args below meth c H locs ls cells slots n0 QQ hF hU hR ha hh hK hc1 hc2 hW hS hL)
theorem cz_aload_n {i : Fin 4} {x : Nat} (hd : decode M.2.1 pc = .ok (.aload_n i, 1)) (hl : L[(i : Nat)]? = some (some (.ref x))) (hp : pc + 1 = pc') (h : Cc G M nE pc' L (.ref x :: S) σ Q) : Cc G M nE pc L (S) σ Q := by
  subst hp
  intro p e R s m args below meth c H locs ls cells slots n0 QQ hF hU hR ha hh hK hc1 hc2 hW hS hL
  exact lv_aload_n hF.1 hF.2.1 hd rfl (hL.2.2 _ _ hl) (h p e R s m args below meth c H locs ls cells slots n0 QQ hF hU hR ha hh hK hc1 hc2 hW hS hL)
theorem cz_iadd {x y : Int32} (hd : decode M.2.1 pc = .ok (.iadd, 1))  (hp : pc + 1 = pc') (h : Cc G M nE pc' L (.int (x + y) :: S) σ Q) : Cc G M nE pc L (.int y :: .int x :: S) σ Q := by
  subst hp
  intro p e R s m args below meth c H locs ls cells slots n0 QQ hF hU hR ha hh hK hc1 hc2 hW hS hL
  exact lv_iadd hF.1 hF.2.1 hd (h p e R s m args below meth c H locs ls cells slots n0 QQ hF hU hR ha hh hK hc1 hc2 hW hS hL)
theorem cz_isub {x y : Int32} (hd : decode M.2.1 pc = .ok (.isub, 1))  (hp : pc + 1 = pc') (h : Cc G M nE pc' L (.int (x - y) :: S) σ Q) : Cc G M nE pc L (.int y :: .int x :: S) σ Q := by
  subst hp
  intro p e R s m args below meth c H locs ls cells slots n0 QQ hF hU hR ha hh hK hc1 hc2 hW hS hL
  exact lv_isub hF.1 hF.2.1 hd (h p e R s m args below meth c H locs ls cells slots n0 QQ hF hU hR ha hh hK hc1 hc2 hW hS hL)
theorem cz_imul {x y : Int32} (hd : decode M.2.1 pc = .ok (.imul, 1))  (hp : pc + 1 = pc') (h : Cc G M nE pc' L (.int (x * y) :: S) σ Q) : Cc G M nE pc L (.int y :: .int x :: S) σ Q := by
  subst hp
  intro p e R s m args below meth c H locs ls cells slots n0 QQ hF hU hR ha hh hK hc1 hc2 hW hS hL
  exact lv_imul hF.1 hF.2.1 hd (h p e R s m args below meth c H locs ls cells slots n0 QQ hF hU hR ha hh hK hc1 hc2 hW hS hL)
theorem cz_iand {x y : Int32} (hd : decode M.2.1 pc = .ok (.iand, 1))  (hp : pc + 1 = pc') (h : Cc G M nE pc' L (.int (x &&& y) :: S) σ Q) : Cc G M nE pc L (.int y :: .int x :: S) σ Q := by
  subst hp
  intro p e R s m args below meth c H locs ls cells slots n0 QQ hF hU hR ha hh hK hc1 hc2 hW hS hL
  exact lv_iand hF.1 hF.2.1 hd (h p e R s m args below meth c H locs ls cells slots n0 QQ hF hU hR ha hh hK hc1 hc2 hW hS hL)
theorem cz_ior {x y : Int32} (hd : decode M.2.1 pc = .ok (.ior, 1))  (hp : pc + 1 = pc') (h : Cc G M nE pc' L (.int (x ||| y) :: S) σ Q) : Cc G M nE pc L (.int y :: .int x :: S) σ Q := by
  subst hp
  intro p e R s m args below meth c H locs ls cells slots n0 QQ hF hU hR ha hh hK hc1 hc2 hW hS hL
  exact lv_ior hF.1 hF.2.1 hd (h p e R s m args below meth c H locs ls cells slots n0 QQ hF hU hR ha hh hK hc1 hc2 hW hS hL)
theorem cz_ixor {x y : Int32} (hd : decode M.2.1 pc = .ok (.ixor, 1))  (hp : pc + 1 = pc') (h : Cc G M nE pc' L (.int (x ^^^ y) :: S) σ Q) : Cc G M nE pc L (.int y :: .int x :: S) σ Q := by
  subst hp
  intro p e R s m args below meth c H locs ls cells slots n0 QQ hF hU hR ha hh hK hc1 hc2 hW hS hL
  exact lv_ixor hF.1 hF.2.1 hd (h p e R s m args below meth c H locs ls cells slots n0 QQ hF hU hR ha hh hK hc1 hc2 hW hS hL)
theorem cz_ishl {x y : Int32} (hd : decode M.2.1 pc = .ok (.ishl, 1))  (hp : pc + 1 = pc') (h : Cc G M nE pc' L (.int (x <<< (y &&& 31)) :: S) σ Q) : Cc G M nE pc L (.int y :: .int x :: S) σ Q := by
  subst hp
  intro p e R s m args below meth c H locs ls cells slots n0 QQ hF hU hR ha hh hK hc1 hc2 hW hS hL
  exact lv_ishl hF.1 hF.2.1 hd (h p e R s m args below meth c H locs ls cells slots n0 QQ hF hU hR ha hh hK hc1 hc2 hW hS hL)
theorem cz_ishr {x y : Int32} (hd : decode M.2.1 pc = .ok (.ishr, 1))  (hp : pc + 1 = pc') (h : Cc G M nE pc' L (.int (x >>> (y &&& 31)) :: S) σ Q) : Cc G M nE pc L (.int y :: .int x :: S) σ Q := by
  subst hp
  intro p e R s m args below meth c H locs ls cells slots n0 QQ hF hU hR ha hh hK hc1 hc2 hW hS hL
  exact lv_ishr hF.1 hF.2.1 hd (h p e R s m args below meth c H locs ls cells slots n0 QQ hF hU hR ha hh hK hc1 hc2 hW hS hL)
theorem cz_idiv {x y : Int32} (hd : decode M.2.1 pc = .ok (.idiv, 1)) (hz : ¬ y = 0) (hp : pc + 1 = pc') (h : Cc G M nE pc' L (.int (x / y) :: S) σ Q) : Cc G M nE pc L (.int y :: .int x :: S) σ Q := by
  subst hp
  intro p e R s m args below meth c H locs ls cells slots n0 QQ hF hU hR ha hh hK hc1 hc2 hW hS hL
  exact lv_idiv hF.1 hF.2.1 hd hz (h p e R s m args below meth c H locs ls cells slots n0 QQ hF hU hR ha hh hK hc1 hc2 hW hS hL)
theorem cz_irem {x y : Int32} (hd : decode M.2.1 pc = .ok (.irem, 1)) (hz : ¬ y = 0) (hp : pc + 1 = pc') (h : Cc G M nE pc' L (.int (x - x / y * y) :: S) σ Q) : Cc G M nE pc L (.int y :: .int x :: S) σ Q := by
  subst hp
  intro p e R s m args below meth c H locs ls cells slots n0 QQ hF hU hR ha hh hK hc1 hc2 hW hS hL
  exact lv_irem hF.1 hF.2.1 hd hz (h p e R s m args below meth c H locs ls cells slots n0 QQ hF hU hR ha hh hK hc1 hc2 hW hS hL)
theorem cz_ineg {x : Int32} (hd : decode M.2.1 pc = .ok (.ineg, 1))  (hp : pc + 1 = pc') (h : Cc G M nE pc' L (.int (-x) :: S) σ Q) : Cc G M nE pc L (.int x :: S) σ Q := by
  subst hp
  intro p e R s m args below meth c H locs ls cells slots n0 QQ hF hU hR ha hh hK hc1 hc2 hW hS hL
  exact lv_ineg hF.1 hF.2.1 hd (h p e R s m args below meth c H locs ls cells slots n0 QQ hF hU hR ha hh hK hc1 hc2 hW hS hL)
theorem cz_ladd {x y : Int64} (hd : decode M.2.1 pc = .ok (.ladd, 1))  (hp : pc + 1 = pc') (h : Cc G M nE pc' L (.long (x + y) :: S) σ Q) : Cc G M nE pc L (.long y :: .long x :: S) σ Q := by
  subst hp
  intro p e R s m args below meth c H locs ls cells slots n0 QQ hF hU hR ha hh hK hc1 hc2 hW hS hL
  exact lv_ladd hF.1 hF.2.1 hd (h p e R s m args below meth c H locs ls cells slots n0 QQ hF hU hR ha hh hK hc1 hc2 hW hS hL)
theorem cz_lsub {x y : Int64} (hd : decode M.2.1 pc = .ok (.lsub, 1))  (hp : pc + 1 = pc') (h : Cc G M nE pc' L (.long (x - y) :: S) σ Q) : Cc G M nE pc L (.long y :: .long x :: S) σ Q := by
  subst hp
  intro p e R s m args below meth c H locs ls cells slots n0 QQ hF hU hR ha hh hK hc1 hc2 hW hS hL
  exact lv_lsub hF.1 hF.2.1 hd (h p e R s m args below meth c H locs ls cells slots n0 QQ hF hU hR ha hh hK hc1 hc2 hW hS hL)
theorem cz_lmul {x y : Int64} (hd : decode M.2.1 pc = .ok (.lmul, 1))  (hp : pc + 1 = pc') (h : Cc G M nE pc' L (.long (x * y) :: S) σ Q) : Cc G M nE pc L (.long y :: .long x :: S) σ Q := by
  subst hp
  intro p e R s m args below meth c H locs ls cells slots n0 QQ hF hU hR ha hh hK hc1 hc2 hW hS hL
  exact lv_lmul hF.1 hF.2.1 hd (h p e R s m args below meth c H locs ls cells slots n0 QQ hF hU hR ha hh hK hc1 hc2 hW hS hL)
theorem cz_ldiv {x y : Int64} (hd : decode M.2.1 pc = .ok (.ldiv, 1)) (hz : ¬ y = 0) (hp : pc + 1 = pc') (h : Cc G M nE pc' L (.long (x / y) :: S) σ Q) : Cc G M nE pc L (.long y :: .long x :: S) σ Q := by
  subst hp
  intro p e R s m args below meth c H locs ls cells slots n0 QQ hF hU hR ha hh hK hc1 hc2 hW hS hL
  exact lv_ldiv hF.1 hF.2.1 hd hz (h p e R s m args below meth c H locs ls cells slots n0 QQ hF hU hR ha hh hK hc1 hc2 hW hS hL)
theorem cz_lrem {x y : Int64} (hd : decode M.2.1 pc = .ok (.lrem, 1)) (hz : ¬ y = 0) (hp : pc + 1 = pc') (h : Cc G M nE pc' L (.long (x - x / y * y) :: S) σ Q) : Cc G M nE pc L (.long y :: .long x :: S) σ Q := by
  subst hp
  intro p e R s m args below meth c H locs ls cells slots n0 QQ hF hU hR ha hh hK hc1 hc2 hW hS hL
  exact lv_lrem hF.1 hF.2.1 hd hz (h p e R s m args below meth c H locs ls cells slots n0 QQ hF hU hR ha hh hK hc1 hc2 hW hS hL)
theorem cz_lcmp {x y : Int64} (hd : decode M.2.1 pc = .ok (.lcmp, 1))  (hp : pc + 1 = pc') (h : Cc G M nE pc' L (.int (lg_cmp x y) :: S) σ Q) : Cc G M nE pc L (.long y :: .long x :: S) σ Q := by
  subst hp
  intro p e R s m args below meth c H locs ls cells slots n0 QQ hF hU hR ha hh hK hc1 hc2 hW hS hL
  exact W.lcmp hF.1 hF.2.1 hd (h p e R s m args below meth c H locs ls cells slots n0 QQ hF hU hR ha hh hK hc1 hc2 hW hS hL)
theorem cz_i2l {x : Int32} (hd : decode M.2.1 pc = .ok (.i2l, 1))  (hp : pc + 1 = pc') (h : Cc G M nE pc' L (.long x.toInt64 :: S) σ Q) : Cc G M nE pc L (.int x :: S) σ Q := by
  subst hp
  intro p e R s m args below meth c H locs ls cells slots n0 QQ hF hU hR ha hh hK hc1 hc2 hW hS hL
  exact lv_i2l hF.1 hF.2.1 hd rfl (h p e R s m args below meth c H locs ls cells slots n0 QQ hF hU hR ha hh hK hc1 hc2 hW hS hL)
theorem cz_l2i {x : Int64} (hd : decode M.2.1 pc = .ok (.l2i, 1))  (hp : pc + 1 = pc') (h : Cc G M nE pc' L (.int x.toInt32 :: S) σ Q) : Cc G M nE pc L (.long x :: S) σ Q := by
  subst hp
  intro p e R s m args below meth c H locs ls cells slots n0 QQ hF hU hR ha hh hK hc1 hc2 hW hS hL
  exact lv_l2i hF.1 hF.2.1 hd rfl (h p e R s m args below meth c H locs ls cells slots n0 QQ hF hU hR ha hh hK hc1 hc2 hW hS hL)
theorem cz_i2b {x : Int32} (hd : decode M.2.1 pc = .ok (.i2b, 1))  (hp : pc + 1 = pc') (h : Cc G M nE pc' L (.int x.toInt8.toInt32 :: S) σ Q) : Cc G M nE pc L (.int x :: S) σ Q := by
  subst hp
  intro p e R s m args below meth c H locs ls cells slots n0 QQ hF hU hR ha hh hK hc1 hc2 hW hS hL
  exact lv_i2b hF.1 hF.2.1 hd rfl (h p e R s m args below meth c H locs ls cells slots n0 QQ hF hU hR ha hh hK hc1 hc2 hW hS hL)
theorem cz_i2c {x : Int32} (hd : decode M.2.1 pc = .ok (.i2c, 1))  (hp : pc + 1 = pc') (h : Cc G M nE pc' L (.int (x.toUInt32 % 65536).toInt32 :: S) σ Q) : Cc G M nE pc L (.int x :: S) σ Q := by
  subst hp
  intro p e R s m args below meth c H locs ls cells slots n0 QQ hF hU hR ha hh hK hc1 hc2 hW hS hL
  exact lv_i2c hF.1 hF.2.1 hd rfl (h p e R s m args below meth c H locs ls cells slots n0 QQ hF hU hR ha hh hK hc1 hc2 hW hS hL)
theorem cz_dup {x : Value} (hd : decode M.2.1 pc = .ok (.dup, 1)) (hv : x.category = 1) (hp : pc + 1 = pc') (h : Cc G M nE pc' L (x :: x :: S) σ Q) : Cc G M nE pc L (x :: S) σ Q := by
  subst hp
  intro p e R s m args below meth c H locs ls cells slots n0 QQ hF hU hR ha hh hK hc1 hc2 hW hS hL
  exact lv_dup hF.1 hF.2.1 hd (by rw [g_tr_cat]; exact hv) (h p e R s m args below meth c H locs ls cells slots n0 QQ hF hU hR ha hh hK hc1 hc2 hW hS hL)
theorem cz_dup2 {x y : Value} (hd : decode M.2.1 pc = .ok (.dup2, 1)) (hx : x.category = 1) (hy : y.category = 1) (hp : pc + 1 = pc') (h : Cc G M nE pc' L (x :: y :: x :: y :: S) σ Q) : Cc G M nE pc L (x :: y :: S) σ Q := by
  subst hp
  intro p e R s m args below meth c H locs ls cells slots n0 QQ hF hU hR ha hh hK hc1 hc2 hW hS hL
  exact lv_dup2_11 hF.1 hF.2.1 hd (by rw [g_tr_cat]; exact hx) (by rw [g_tr_cat]; exact hy) (h p e R s m args below meth c H locs ls cells slots n0 QQ hF hU hR ha hh hK hc1 hc2 hW hS hL)
theorem cz_dup2l {x : Value} (hd : decode M.2.1 pc = .ok (.dup2, 1)) (hx : x.category = 2) (hp : pc + 1 = pc') (h : Cc G M nE pc' L (x :: x :: S) σ Q) : Cc G M nE pc L (x :: S) σ Q := by
  subst hp
  intro p e R s m args below meth c H locs ls cells slots n0 QQ hF hU hR ha hh hK hc1 hc2 hW hS hL
  exact lv_dup2_2 hF.1 hF.2.1 hd (by rw [g_tr_cat]; exact hx) (h p e R s m args below meth c H locs ls cells slots n0 QQ hF hU hR ha hh hK hc1 hc2 hW hS hL)
theorem cz_pop {x : Value} (hd : decode M.2.1 pc = .ok (.pop, 1)) (hv : x.category = 1) (hp : pc + 1 = pc') (h : Cc G M nE pc' L (S) σ Q) : Cc G M nE pc L (x :: S) σ Q := by
  subst hp
  intro p e R s m args below meth c H locs ls cells slots n0 QQ hF hU hR ha hh hK hc1 hc2 hW hS hL
  exact lv_pop hF.1 hF.2.1 hd (by rw [g_tr_cat]; exact hv) (h p e R s m args below meth c H locs ls cells slots n0 QQ hF hU hR ha hh hK hc1 hc2 hW hS hL)
theorem cz_ldc {i : Nat} {v : Int32} (hd : decode M.2.1 pc = .ok (.ldc i, 2)) (hw : Cond.constant M.1.cls i v ∈ gw) (hp : pc + 2 = pc') (h : Cc G M nE pc' L (.int v :: S) σ Q) : Cc G M nE pc L S σ Q := by
  subst hp
  intro p e R s m args below meth c H locs ls cells slots n0 QQ hF hU hR ha hh hK hc1 hc2 hW hS hL
  exact lv_ldc hF.1 hF.2.1 hF.2.2.2.1 (hF.2.2.2.2.1 _ hw) hd (h p e R s m args below meth c H locs ls cells slots n0 QQ hF hU hR ha hh hK hc1 hc2 hW hS hL)
theorem cz_ldc2 {i : Nat} {v : Int64} (hd : decode M.2.1 pc = .ok (.ldc2_w i, 3)) (hw : Cond.constantLong M.1.cls i v ∈ gw) (hp : pc + 3 = pc') (h : Cc G M nE pc' L (.long v :: S) σ Q) : Cc G M nE pc L S σ Q := by
  subst hp
  intro p e R s m args below meth c H locs ls cells slots n0 QQ hF hU hR ha hh hK hc1 hc2 hW hS hL
  exact lv_ldc2 hF.1 hF.2.1 hF.2.2.2.1 (hF.2.2.2.2.1 _ hw) hd (h p e R s m args below meth c H locs ls cells slots n0 QQ hF hU hR ha hh hK hc1 hc2 hW hS hL)
theorem cz_ldcs {i : Nat} (hi : i < 4) (hd : decode M.2.1 pc = .ok (.ldc (g_sidx i), 2)) (hw : M.1.cls = RX8) (hp : pc + 2 = pc') (h : Cc G M nE pc' L (.ref (1001 + i) :: S) σ Q) : Cc G M nE pc L S σ Q := by
  subst hp
  intro p e R s m args below meth c H locs ls cells slots n0 QQ hF hU hR ha hh hK hc1 hc2 hW hS hL
  have hq := hU.2.2.1.2.1 i hi
  rw [← hw] at hq
  refine va_ldcS hF.1 hF.2.1 hF.2.2.2.1 hq hd (W.eq (congrArg (F0 m (pc + 2) ls) ?_) (h p e R s m args below meth c H locs ls cells slots n0 QQ hF hU hR ha hh hK hc1 hc2 hW hS hL))
  show _ = Value.ref (g_ad G (1001 + i)) :: _
  rw [show g_ad G (1001 + i) = g_s G (1 + i) by unfold g_ad; rw [if_neg (by omega), show 1001 + i - 1000 = 1 + i by omega]]
theorem cz_goto {off : Int} (hd : decode M.2.1 pc = .ok (.goto off, 3)) (ht : (pc : Int) + off = (pc' : Int)) (h : Cc G M nE pc' L S σ Q) : Cc G M nE pc L S σ Q := by
  intro p e R s m args below meth c H locs ls cells slots n0 QQ hF hU hR ha hh hK hc1 hc2 hW hS hL
  exact lv_goto hF.1 hF.2.1 hd ht (h p e R s m args below meth c H locs ls cells slots n0 QQ hF hU hR ha hh hK hc1 hc2 hW hS hL)
theorem cz_if_eq {x : Int32} {off : Int} {tgt : Nat} (hd : decode M.2.1 pc = .ok (.ifCond .eq off, 3)) (ht : (pc : Int) + off = (tgt : Int)) (hp : pc + 3 = pc') (kt : x = 0 → Cc G M nE tgt L S σ Q) (kf : ¬ x = 0 → Cc G M nE pc' L S σ Q) : Cc G M nE pc L (.int x :: S) σ Q := by
  subst hp
  intro p e R s m args below meth c H locs ls cells slots n0 QQ hF hU hR ha hh hK hc1 hc2 hW hS hL
  exact lv_if_eq hF.1 hF.2.1 hd ht (fun q => kt q p e R s m args below meth c H locs ls cells slots n0 QQ hF hU hR ha hh hK hc1 hc2 hW hS hL) (fun q => kf q p e R s m args below meth c H locs ls cells slots n0 QQ hF hU hR ha hh hK hc1 hc2 hW hS hL)
theorem cz_icmp_eq {x y : Int32} {off : Int} {tgt : Nat} (hd : decode M.2.1 pc = .ok (.if_icmp .eq off, 3)) (ht : (pc : Int) + off = (tgt : Int)) (hp : pc + 3 = pc') (kt : x = y → Cc G M nE tgt L S σ Q) (kf : ¬ x = y → Cc G M nE pc' L S σ Q) : Cc G M nE pc L (.int y :: .int x :: S) σ Q := by
  subst hp
  intro p e R s m args below meth c H locs ls cells slots n0 QQ hF hU hR ha hh hK hc1 hc2 hW hS hL
  exact lv_icmp_eq hF.1 hF.2.1 hd ht (fun q => kt q p e R s m args below meth c H locs ls cells slots n0 QQ hF hU hR ha hh hK hc1 hc2 hW hS hL) (fun q => kf q p e R s m args below meth c H locs ls cells slots n0 QQ hF hU hR ha hh hK hc1 hc2 hW hS hL)
theorem cz_if_ne {x : Int32} {off : Int} {tgt : Nat} (hd : decode M.2.1 pc = .ok (.ifCond .ne off, 3)) (ht : (pc : Int) + off = (tgt : Int)) (hp : pc + 3 = pc') (kt : ¬ x = 0 → Cc G M nE tgt L S σ Q) (kf : x = 0 → Cc G M nE pc' L S σ Q) : Cc G M nE pc L (.int x :: S) σ Q := by
  subst hp
  intro p e R s m args below meth c H locs ls cells slots n0 QQ hF hU hR ha hh hK hc1 hc2 hW hS hL
  exact lv_if_ne hF.1 hF.2.1 hd ht (fun q => kt q p e R s m args below meth c H locs ls cells slots n0 QQ hF hU hR ha hh hK hc1 hc2 hW hS hL) (fun q => kf q p e R s m args below meth c H locs ls cells slots n0 QQ hF hU hR ha hh hK hc1 hc2 hW hS hL)
theorem cz_icmp_ne {x y : Int32} {off : Int} {tgt : Nat} (hd : decode M.2.1 pc = .ok (.if_icmp .ne off, 3)) (ht : (pc : Int) + off = (tgt : Int)) (hp : pc + 3 = pc') (kt : ¬ x = y → Cc G M nE tgt L S σ Q) (kf : x = y → Cc G M nE pc' L S σ Q) : Cc G M nE pc L (.int y :: .int x :: S) σ Q := by
  subst hp
  intro p e R s m args below meth c H locs ls cells slots n0 QQ hF hU hR ha hh hK hc1 hc2 hW hS hL
  exact lv_icmp_ne hF.1 hF.2.1 hd ht (fun q => kt q p e R s m args below meth c H locs ls cells slots n0 QQ hF hU hR ha hh hK hc1 hc2 hW hS hL) (fun q => kf q p e R s m args below meth c H locs ls cells slots n0 QQ hF hU hR ha hh hK hc1 hc2 hW hS hL)
theorem cz_if_lt {x : Int32} {off : Int} {tgt : Nat} (hd : decode M.2.1 pc = .ok (.ifCond .lt off, 3)) (ht : (pc : Int) + off = (tgt : Int)) (hp : pc + 3 = pc') (kt : x < 0 → Cc G M nE tgt L S σ Q) (kf : ¬ x < 0 → Cc G M nE pc' L S σ Q) : Cc G M nE pc L (.int x :: S) σ Q := by
  subst hp
  intro p e R s m args below meth c H locs ls cells slots n0 QQ hF hU hR ha hh hK hc1 hc2 hW hS hL
  exact lv_if_lt hF.1 hF.2.1 hd ht (fun q => kt q p e R s m args below meth c H locs ls cells slots n0 QQ hF hU hR ha hh hK hc1 hc2 hW hS hL) (fun q => kf q p e R s m args below meth c H locs ls cells slots n0 QQ hF hU hR ha hh hK hc1 hc2 hW hS hL)
theorem cz_icmp_lt {x y : Int32} {off : Int} {tgt : Nat} (hd : decode M.2.1 pc = .ok (.if_icmp .lt off, 3)) (ht : (pc : Int) + off = (tgt : Int)) (hp : pc + 3 = pc') (kt : x < y → Cc G M nE tgt L S σ Q) (kf : ¬ x < y → Cc G M nE pc' L S σ Q) : Cc G M nE pc L (.int y :: .int x :: S) σ Q := by
  subst hp
  intro p e R s m args below meth c H locs ls cells slots n0 QQ hF hU hR ha hh hK hc1 hc2 hW hS hL
  exact lv_icmp_lt hF.1 hF.2.1 hd ht (fun q => kt q p e R s m args below meth c H locs ls cells slots n0 QQ hF hU hR ha hh hK hc1 hc2 hW hS hL) (fun q => kf q p e R s m args below meth c H locs ls cells slots n0 QQ hF hU hR ha hh hK hc1 hc2 hW hS hL)
theorem cz_if_ge {x : Int32} {off : Int} {tgt : Nat} (hd : decode M.2.1 pc = .ok (.ifCond .ge off, 3)) (ht : (pc : Int) + off = (tgt : Int)) (hp : pc + 3 = pc') (kt : 0 ≤ x → Cc G M nE tgt L S σ Q) (kf : ¬ 0 ≤ x → Cc G M nE pc' L S σ Q) : Cc G M nE pc L (.int x :: S) σ Q := by
  subst hp
  intro p e R s m args below meth c H locs ls cells slots n0 QQ hF hU hR ha hh hK hc1 hc2 hW hS hL
  exact lv_if_ge hF.1 hF.2.1 hd ht (fun q => kt q p e R s m args below meth c H locs ls cells slots n0 QQ hF hU hR ha hh hK hc1 hc2 hW hS hL) (fun q => kf q p e R s m args below meth c H locs ls cells slots n0 QQ hF hU hR ha hh hK hc1 hc2 hW hS hL)
theorem cz_icmp_ge {x y : Int32} {off : Int} {tgt : Nat} (hd : decode M.2.1 pc = .ok (.if_icmp .ge off, 3)) (ht : (pc : Int) + off = (tgt : Int)) (hp : pc + 3 = pc') (kt : y ≤ x → Cc G M nE tgt L S σ Q) (kf : ¬ y ≤ x → Cc G M nE pc' L S σ Q) : Cc G M nE pc L (.int y :: .int x :: S) σ Q := by
  subst hp
  intro p e R s m args below meth c H locs ls cells slots n0 QQ hF hU hR ha hh hK hc1 hc2 hW hS hL
  exact lv_icmp_ge hF.1 hF.2.1 hd ht (fun q => kt q p e R s m args below meth c H locs ls cells slots n0 QQ hF hU hR ha hh hK hc1 hc2 hW hS hL) (fun q => kf q p e R s m args below meth c H locs ls cells slots n0 QQ hF hU hR ha hh hK hc1 hc2 hW hS hL)
theorem cz_if_gt {x : Int32} {off : Int} {tgt : Nat} (hd : decode M.2.1 pc = .ok (.ifCond .gt off, 3)) (ht : (pc : Int) + off = (tgt : Int)) (hp : pc + 3 = pc') (kt : 0 < x → Cc G M nE tgt L S σ Q) (kf : ¬ 0 < x → Cc G M nE pc' L S σ Q) : Cc G M nE pc L (.int x :: S) σ Q := by
  subst hp
  intro p e R s m args below meth c H locs ls cells slots n0 QQ hF hU hR ha hh hK hc1 hc2 hW hS hL
  exact lv_if_gt hF.1 hF.2.1 hd ht (fun q => kt q p e R s m args below meth c H locs ls cells slots n0 QQ hF hU hR ha hh hK hc1 hc2 hW hS hL) (fun q => kf q p e R s m args below meth c H locs ls cells slots n0 QQ hF hU hR ha hh hK hc1 hc2 hW hS hL)
theorem cz_icmp_gt {x y : Int32} {off : Int} {tgt : Nat} (hd : decode M.2.1 pc = .ok (.if_icmp .gt off, 3)) (ht : (pc : Int) + off = (tgt : Int)) (hp : pc + 3 = pc') (kt : y < x → Cc G M nE tgt L S σ Q) (kf : ¬ y < x → Cc G M nE pc' L S σ Q) : Cc G M nE pc L (.int y :: .int x :: S) σ Q := by
  subst hp
  intro p e R s m args below meth c H locs ls cells slots n0 QQ hF hU hR ha hh hK hc1 hc2 hW hS hL
  exact lv_icmp_gt hF.1 hF.2.1 hd ht (fun q => kt q p e R s m args below meth c H locs ls cells slots n0 QQ hF hU hR ha hh hK hc1 hc2 hW hS hL) (fun q => kf q p e R s m args below meth c H locs ls cells slots n0 QQ hF hU hR ha hh hK hc1 hc2 hW hS hL)
theorem cz_if_le {x : Int32} {off : Int} {tgt : Nat} (hd : decode M.2.1 pc = .ok (.ifCond .le off, 3)) (ht : (pc : Int) + off = (tgt : Int)) (hp : pc + 3 = pc') (kt : x ≤ 0 → Cc G M nE tgt L S σ Q) (kf : ¬ x ≤ 0 → Cc G M nE pc' L S σ Q) : Cc G M nE pc L (.int x :: S) σ Q := by
  subst hp
  intro p e R s m args below meth c H locs ls cells slots n0 QQ hF hU hR ha hh hK hc1 hc2 hW hS hL
  exact lv_if_le hF.1 hF.2.1 hd ht (fun q => kt q p e R s m args below meth c H locs ls cells slots n0 QQ hF hU hR ha hh hK hc1 hc2 hW hS hL) (fun q => kf q p e R s m args below meth c H locs ls cells slots n0 QQ hF hU hR ha hh hK hc1 hc2 hW hS hL)
theorem cz_icmp_le {x y : Int32} {off : Int} {tgt : Nat} (hd : decode M.2.1 pc = .ok (.if_icmp .le off, 3)) (ht : (pc : Int) + off = (tgt : Int)) (hp : pc + 3 = pc') (kt : x ≤ y → Cc G M nE tgt L S σ Q) (kf : ¬ x ≤ y → Cc G M nE pc' L S σ Q) : Cc G M nE pc L (.int y :: .int x :: S) σ Q := by
  subst hp
  intro p e R s m args below meth c H locs ls cells slots n0 QQ hF hU hR ha hh hK hc1 hc2 hW hS hL
  exact lv_icmp_le hF.1 hF.2.1 hd ht (fun q => kt q p e R s m args below meth c H locs ls cells slots n0 QQ hF hU hR ha hh hK hc1 hc2 hW hS hL) (fun q => kf q p e R s m args below meth c H locs ls cells slots n0 QQ hF hU hR ha hh hK hc1 hc2 hW hS hL)
theorem cz_tabIn {dflt lo hi off : Int} {offs : Array Int} {len tgt : Nat} {x : Int32} (hd : decode M.2.1 pc = .ok (.tableswitch dflt lo hi offs, len)) (h1 : lo ≤ x.toInt) (h2 : x.toInt ≤ hi) (ho : offs[(x.toInt - lo).toNat]? = some off) (ht : (pc : Int) + off = (tgt : Int)) (h : Cc G M nE tgt L S σ Q) : Cc G M nE pc L (.int x :: S) σ Q := by
  intro p e R s m args below meth c H locs ls cells slots n0 QQ hF hU hR ha hh hK hc1 hc2 hW hS hL
  exact lv_tableIn hF.1 hF.2.1 hd (by omega) (by omega) ho ht (h p e R s m args below meth c H locs ls cells slots n0 QQ hF hU hR ha hh hK hc1 hc2 hW hS hL)
theorem cz_tabOut {dflt lo hi : Int} {offs : Array Int} {len tgt : Nat} {x : Int32} (hd : decode M.2.1 pc = .ok (.tableswitch dflt lo hi offs, len)) (h1 : x.toInt < lo ∨ hi < x.toInt) (ht : (pc : Int) + dflt = (tgt : Int)) (h : Cc G M nE tgt L S σ Q) : Cc G M nE pc L (.int x :: S) σ Q := by
  intro p e R s m args below meth c H locs ls cells slots n0 QQ hF hU hR ha hh hK hc1 hc2 hW hS hL
  exact lv_tableOut hF.1 hF.2.1 hd h1 ht (h p e R s m args below meth c H locs ls cells slots n0 QQ hF hU hR ha hh hK hc1 hc2 hW hS hL)
theorem cz_ret {v : Option Value} (hd : decode M.2.1 pc = .ok (g_rti v, 1)) (hr : g_rok M.2.2.2.1 v) (hn : σ.2.2.2 = nE) (hq : Q v σ) : Cc G M nE pc L v.toList σ Q := by
  intro p e R s m args below meth c H locs ls cells slots n0 QQ hF hU hR ha hh hK hc1 hc2 hW hS hL
  have e1 : cells = nE - n0 := by omega
  have e2 : slots = g_sz nE - g_sz n0 := by rw [← hn]; omega
  subst e1; subst e2
  exact hK v σ H locs pc ls hq hn hW hS hd hr
theorem cz_iret {x : Int32} {ty : FieldType} (hd : decode M.2.1 pc = .ok (.ireturn, 1)) (hr : M.2.2.2.1 = some ty) (hx : narrow ty (.int x) = .int x) (hn : σ.2.2.2 = nE) (hq : Q (some (.int x)) σ) : Cc G M nE pc L [.int x] σ Q := cz_ret (v := some (.int x)) hd ⟨ty, hr, hx⟩ hn hq
theorem cz_lret {x : Int64} (hd : decode M.2.1 pc = .ok (.lreturn, 1)) (hr : M.2.2.2.1 = some .long) (hn : σ.2.2.2 = nE) (hq : Q (some (.long x)) σ) : Cc G M nE pc L [.long x] σ Q := cz_ret (v := some (.long x)) hd hr hn hq
theorem cz_aret {x : Nat} {n : String} (hd : decode M.2.1 pc = .ok (.areturn, 1)) (hr : M.2.2.2.1 = some (.object n)) (hn : σ.2.2.2 = nE) (hq : Q (some (.ref x)) σ) : Cc G M nE pc L [.ref x] σ Q := cz_ret (v := some (.ref x)) hd ⟨n, hr⟩ hn hq
theorem cz_vret (hd : decode M.2.1 pc = .ok (.return_, 1)) (hr : M.2.2.2.1 = none) (hn : σ.2.2.2 = nE) (hq : Q none σ) : Cc G M nE pc L [] σ Q := cz_ret (v := none) hd hr hn hq
theorem cz_mono {Q' : Option Value → St → Prop} (h : Cc G M nE pc L S σ Q') (hq : ∀ v τ, Q' v τ → τ.2.2.2 = nE → Q v τ) : Cc G M nE pc L S σ Q := by
  intro p e R s m args below meth c H locs ls cells slots n0 QQ hF hU hR ha hh hK hc1 hc2 hW hS hL
  exact h p e R s m args below meth c H locs ls cells slots n0 QQ hF hU hR ha hh (fun v τ H' locs' pc' ls' a b => hK v τ H' locs' pc' ls' (hq v τ a b) b) hc1 hc2 hW hS hL
theorem cz_less {L' : List (Option Value)} (hl : ∀ (i : Nat) (v : Value), L'[i]? = some (some v) → L[i]? = some (some v)) (h : Cc G M nE pc L' S σ Q) : Cc G M nE pc L S σ Q := by
  intro p e R s m args below meth c H locs ls cells slots n0 QQ hF hU hR ha hh hK hc1 hc2 hW hS hL
  exact h p e R s m args below meth c H locs ls cells slots n0 QQ hF hU hR ha hh hK hc1 hc2 hW hS ⟨hL.1, hL.2.1, fun i v q => hL.2.2 i v (hl i v q)⟩
end
def g_la (G : Wd) (L : List (Option Value)) : List (Nat × Value) := L.zipIdx.filterMap (fun q => q.1.map (fun v => (q.2, g_tr G v)))
theorem g_la_mem {G : Wd} {L : List (Option Value)} {j : Nat} {u : Value} : (j, u) ∈ g_la G L ↔ ∃ w, L[j]? = some (some w) ∧ u = g_tr G w := by
  unfold g_la
  rw [List.mem_filterMap]
  constructor
  · rintro ⟨⟨a, i⟩, h1, h2⟩
    have h3 := List.mem_zipIdx_iff_getElem?.mp h1
    cases a with
    | none => cases h2
    | some w =>
      simp only [Option.map_some, Option.some.injEq, Prod.mk.injEq] at h2
      obtain ⟨rfl, rfl⟩ := h2
      exact ⟨w, h3, rfl⟩
  · rintro ⟨w, h1, rfl⟩
    exact ⟨(some w, j), List.mem_zipIdx_iff_getElem?.mpr h1, rfl⟩
theorem g_LO_has {G : Wd} {ls : Array Slot} {nL : Nat} {L : List (Option Value)} (h : g_LO G ls nL L) : lv_has ls nL (g_la G L) := by
  refine ⟨h.1, h.2.1, fun q hq => ?_⟩
  obtain ⟨j, u⟩ := q
  obtain ⟨w, h1, rfl⟩ := g_la_mem.mp hq
  exact h.2.2 j w h1
/-- a long that begins just ahead of a place is lost -/
def g_dl (L : List (Option Value)) (i : Nat) : List (Option Value) := match i with
  | 0 => L
  | j + 1 => match L[j]? with
    | some (some w) => if w.category = 2 then L.set j none else L
    | _ => L
theorem g_dl_at {L : List (Option Value)} {i j : Nat} {w : Value} (h : (g_dl L i)[j]? = some (some w)) : L[j]? = some (some w) ∧ ¬ (j + 1 = i ∧ w.category = 2) := by
  cases i with
  | zero => exact ⟨h, fun q => absurd q.1 (by omega)⟩
  | succ a =>
    unfold g_dl at h
    simp only at h
    split at h
    · rename_i w0 hw
      by_cases hc : w0.category = 2
      · rw [if_pos hc] at h
        by_cases hj : j = a
        · subst hj
          have hl := (List.getElem?_eq_some_iff.mp hw).1
          rw [List.getElem?_set_self hl] at h
          cases h
        · rw [List.getElem?_set_ne (Ne.symm hj)] at h
          exact ⟨h, fun q => hj (by omega)⟩
      · rw [if_neg hc] at h
        refine ⟨h, fun q => ?_⟩
        have : j = a := by omega
        subst this
        rw [hw] at h
        cases h
        exact hc q.2
    · rename_i hne
      refine ⟨h, fun q => ?_⟩
      have : j = a := by omega
      subst this
      exact hne w h
def g_st1 (L : List (Option Value)) (i : Nat) (v : Value) : List (Option Value) := (g_dl L i).set i (some v)
def g_st2 (L : List (Option Value)) (i : Nat) (v : Value) : List (Option Value) := ((g_dl L i).set i (some v)).set (i + 1) none
theorem g_st1_at {L : List (Option Value)} {i j : Nat} {v w : Value} (h : (g_st1 L i v)[j]? = some (some w)) : (j = i ∧ w = v) ∨ (j ≠ i ∧ L[j]? = some (some w) ∧ ¬ (j + 1 = i ∧ w.category = 2)) := by
  unfold g_st1 at h
  by_cases hj : j = i
  · subst hj
    rw [List.getElem?_set] at h
    simp only [if_true] at h
    split at h
    · cases h; exact Or.inl ⟨rfl, rfl⟩
    · cases h
  · rw [List.getElem?_set_ne (Ne.symm hj)] at h
    exact Or.inr ⟨hj, g_dl_at h⟩
theorem g_st2_at {L : List (Option Value)} {i j : Nat} {v w : Value} (h : (g_st2 L i v)[j]? = some (some w)) : (j = i ∧ w = v) ∨ (j ≠ i ∧ j ≠ i + 1 ∧ L[j]? = some (some w) ∧ ¬ (j + 1 = i ∧ w.category = 2)) := by
  unfold g_st2 at h
  by_cases hj : j = i + 1
  · subst hj
    rw [List.getElem?_set] at h
    simp only [if_true] at h
    split at h <;> cases h
  · rw [List.getElem?_set_ne (Ne.symm hj)] at h
    rcases g_st1_at h with q | q
    · exact Or.inl q
    · exact Or.inr ⟨q.1, hj, q.2⟩
theorem g_LO_st1 {G : Wd} {ls : Array Slot} {nL i : Nat} {v : Value} {L : List (Option Value)} (h : lv_has ls nL ((i, g_tr G v) :: (g_la G L).filter (fun q => !(q.1 == i) && !(q.1 + 1 == i && q.2.category == 2)))) : g_LO G ls nL (g_st1 L i v) := by
  refine ⟨h.1, h.2.1, fun j w hj => h.2.2 (j, g_tr G w) ?_⟩
  rcases g_st1_at hj with ⟨rfl, rfl⟩ | ⟨h1, h2, h3⟩
  · exact List.mem_cons_self
  · refine List.mem_cons_of_mem _ (List.mem_filter.mpr ⟨g_la_mem.mpr ⟨w, h2, rfl⟩, ?_⟩)
    simp only [g_tr_cat]
    simp only [Bool.and_eq_true, Bool.not_eq_true', beq_eq_false_iff_ne, ne_eq, Bool.and_eq_false_iff, h1, not_false_eq_true, true_and]
    by_cases q : j + 1 = i
    · exact Or.inr (fun z => h3 ⟨q, z⟩)
    · exact Or.inl q
theorem g_LO_st2 {G : Wd} {ls : Array Slot} {nL i : Nat} {v : Value} {L : List (Option Value)} (h : lv_has ls nL ((i, g_tr G v) :: (g_la G L).filter (fun q => !(q.1 == i) && (!(q.1 == i + 1) && !(q.1 + 1 == i && q.2.category == 2))))) : g_LO G ls nL (g_st2 L i v) := by
  refine ⟨h.1, h.2.1, fun j w hj => h.2.2 (j, g_tr G w) ?_⟩
  rcases g_st2_at hj with ⟨rfl, rfl⟩ | ⟨h1, h0, h2, h3⟩
  · exact List.mem_cons_self
  · refine List.mem_cons_of_mem _ (List.mem_filter.mpr ⟨g_la_mem.mpr ⟨w, h2, rfl⟩, ?_⟩)
    simp only [g_tr_cat]
    simp only [Bool.and_eq_true, Bool.not_eq_true', beq_eq_false_iff_ne, ne_eq, Bool.and_eq_false_iff, h1, h0, not_false_eq_true, true_and]
    by_cases q : j + 1 = i
    · exact Or.inr (fun z => h3 ⟨q, z⟩)
    · exact Or.inl q

section
variable {G : Wd} {M : MD} {nE pc pc' : Nat} {L L' : List (Option Value)} {S : List Value} {σ : St} {Q : Option Value → St → Prop}
theorem cz_istore {i : Nat} {x : Int32} (hd : decode M.2.1 pc = .ok (.istore i, 2)) (hi : i < M.2.2.1) (hl : g_st1 L i (.int x) = L') (hp : pc + 2 = pc') (h : Cc G M nE pc' L' S σ Q) : Cc G M nE pc L (.int x :: S) σ Q := by
  subst hp; subst hl
  intro p e R s m args below meth c H locs ls cells slots n0 QQ hF hU hR ha hh hK hc1 hc2 hW hS hL
  refine lv_istore hF.1 hF.2.1 hd (g_LO_has hL) hi rfl (fun ls' hl => ?_)
  exact h p e R s m args below meth c H locs ls' cells slots n0 QQ hF hU hR ha hh hK hc1 hc2 hW hS (g_LO_st1 (v := .int x) hl)
theorem cz_istore_n {i : Fin 4} {x : Int32} (hd : decode M.2.1 pc = .ok (.istore_n i, 1)) (hi : (i : Nat) < M.2.2.1) (hl : g_st1 L (i : Nat) (.int x) = L') (hp : pc + 1 = pc') (h : Cc G M nE pc' L' S σ Q) : Cc G M nE pc L (.int x :: S) σ Q := by
  subst hp; subst hl
  intro p e R s m args below meth c H locs ls cells slots n0 QQ hF hU hR ha hh hK hc1 hc2 hW hS hL
  refine lv_istore_n hF.1 hF.2.1 hd rfl (g_LO_has hL) hi rfl (fun ls' hl => ?_)
  exact h p e R s m args below meth c H locs ls' cells slots n0 QQ hF hU hR ha hh hK hc1 hc2 hW hS (g_LO_st1 (v := .int x) hl)
theorem cz_lstore {i : Nat} {x : Int64} (hd : decode M.2.1 pc = .ok (.lstore i, 2)) (hi : i + 1 < M.2.2.1) (hl : g_st2 L i (.long x) = L') (hp : pc + 2 = pc') (h : Cc G M nE pc' L' S σ Q) : Cc G M nE pc L (.long x :: S) σ Q := by
  subst hp; subst hl
  intro p e R s m args below meth c H locs ls cells slots n0 QQ hF hU hR ha hh hK hc1 hc2 hW hS hL
  refine lv_lstore hF.1 hF.2.1 hd (g_LO_has hL) hi rfl (fun ls' hl => ?_)
  exact h p e R s m args below meth c H locs ls' cells slots n0 QQ hF hU hR ha hh hK hc1 hc2 hW hS (g_LO_st2 (v := .long x) hl)
theorem cz_lstore_n {i : Fin 4} {x : Int64} (hd : decode M.2.1 pc = .ok (.lstore_n i, 1)) (hi : (i : Nat) + 1 < M.2.2.1) (hl : g_st2 L (i : Nat) (.long x) = L') (hp : pc + 1 = pc') (h : Cc G M nE pc' L' S σ Q) : Cc G M nE pc L (.long x :: S) σ Q := by
  subst hp; subst hl
  intro p e R s m args below meth c H locs ls cells slots n0 QQ hF hU hR ha hh hK hc1 hc2 hW hS hL
  refine lv_lstore_n hF.1 hF.2.1 hd rfl (g_LO_has hL) hi rfl (fun ls' hl => ?_)
  exact h p e R s m args below meth c H locs ls' cells slots n0 QQ hF hU hR ha hh hK hc1 hc2 hW hS (g_LO_st2 (v := .long x) hl)
theorem cz_astore {i : Nat} {x : Nat} (hd : decode M.2.1 pc = .ok (.astore i, 2)) (hi : i < M.2.2.1) (hl : g_st1 L i (.ref x) = L') (hp : pc + 2 = pc') (h : Cc G M nE pc' L' S σ Q) : Cc G M nE pc L (.ref x :: S) σ Q := by
  subst hp; subst hl
  intro p e R s m args below meth c H locs ls cells slots n0 QQ hF hU hR ha hh hK hc1 hc2 hW hS hL
  refine lv_astore hF.1 hF.2.1 hd (g_LO_has hL) hi rfl (fun ls' hl => ?_)
  exact h p e R s m args below meth c H locs ls' cells slots n0 QQ hF hU hR ha hh hK hc1 hc2 hW hS (g_LO_st1 (v := .ref x) hl)
theorem cz_astore_n {i : Fin 4} {x : Nat} (hd : decode M.2.1 pc = .ok (.astore_n i, 1)) (hi : (i : Nat) < M.2.2.1) (hl : g_st1 L (i : Nat) (.ref x) = L') (hp : pc + 1 = pc') (h : Cc G M nE pc' L' S σ Q) : Cc G M nE pc L (.ref x :: S) σ Q := by
  subst hp; subst hl
  intro p e R s m args below meth c H locs ls cells slots n0 QQ hF hU hR ha hh hK hc1 hc2 hW hS hL
  refine lv_astore_n hF.1 hF.2.1 hd rfl (g_LO_has hL) hi rfl (fun ls' hl => ?_)
  exact h p e R s m args below meth c H locs ls' cells slots n0 QQ hF hU hR ha hh hK hc1 hc2 hW hS (g_LO_st1 (v := .ref x) hl)
theorem cz_iinc {i : Nat} {n : Int} {x v : Int32} (hd : decode M.2.1 pc = .ok (.iinc i n, 3)) (hi : i < M.2.2.1) (hx : L[i]? = some (some (.int x))) (hv : x + Int32.ofInt n = v) (hl : g_st1 L i (.int v) = L') (hp : pc + 3 = pc') (h : Cc G M nE pc' L' S σ Q) : Cc G M nE pc L S σ Q := by
  subst hp; subst hl
  intro p e R s m args below meth c H locs ls cells slots n0 QQ hF hU hR ha hh hK hc1 hc2 hW hS hL
  obtain ⟨k, hk⟩ := List.getElem?_of_mem (g_la_mem.mpr ⟨_, hx, rfl⟩ : (i, g_tr G (.int x)) ∈ g_la G L)
  refine lv_iinc (v := v) hF.1 hF.2.1 hd (g_LO_has hL) hk hv hi rfl (fun ls' hl => ?_)
  exact h p e R s m args below meth c H locs ls' cells slots n0 QQ hF hU hR ha hh hK hc1 hc2 hW hS (g_LO_st1 (v := .int v) hl)
end
