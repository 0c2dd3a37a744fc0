/-! THE CLAIM OUT OF ONE WALK OF THE LAW'S BODY. Your part is whole_start (and what it stands on); all else here is the same for every law, but numbers. -/
def R_law : String := "BeforeThirdLaw"
def lw_P (b : Addr) (xs : List Int32) (args : Array Value) (s : State) : Prop := args = #[.ref b] ∧ s.IntsAt b xs ∧ xs.length ≤ 384 ∧ (Jvm.Cond.and given_1 narrow_1).before args s = true
def lw_Q (_ : Array Value) (s : State) (o : Outcome) (t : State) : Prop := o = .returned (some (.int 1)) ∧ Framed s o t [] 42 1451
def lw_Z (below : List Frame) (a : Array Value) (s : State) : State → Prop := fun t => ∃ o, t.status = .running ∧ Ended t below o ∧ lw_Q a s o t
/-- the law's own end, with 1 on the stack, nothing written that was there before, its room as the claim has it -/
theorem lw_ret {p : Program} {l : Launch} {e : Env} {s : State} {m : MethodId} {below : List Frame} {meth : Method} {c : Code} {b : Nat} (hx : p.tables.exec = Jvm.exec) (hb : c.code = code) (hr : meth.sig.returnType = ret) (hlocks : meth.locks = false) {pc : Nat} {H : Heap} {ls : Array Slot} (hdg : decode code pc = .ok (.ireturn, 1)) : W p l e room_1 s m #[Value.ref b] below meth c H [] 42 1451 (lw_Z below #[Value.ref b] s) (F0 m pc ls [.int 1]) := by
  intro T hT X
  obtain ⟨fs, hret, hrun, hended, hW, hframe⟩ := X.leave (v := some (.int 1)) (hlocks := hlocks) (fun h => by rw [hr] at h; cases h)
  have hmeth' : T.vm.method? m = some meth := X.method'
  refine ⟨T.setFrames fs, ?_, .returned (some (.int 1)), hrun, hended, rfl, ⟨_, rfl⟩, hW, hframe⟩
  jvm_step X.here [X.here.top, hx, hb, hdg, hmeth', hr, ret, narrow_b1]
  (try refine ⟨rfl, ?_⟩); (try refine ⟨rfl, ?_⟩)
  first | (intro acts; rw [hret _ acts rfl rfl rfl]) | rw [hret _ _ rfl rfl rfl]
  exact Steps.refl _
/-- what holds at the law's entry: the machine, the code, the tables' words (any of lw_tbl by 'hts w (by decide +kernel)'), the script of L ints xs at the cell b, what the Statement gives of the start (any of its parts by flat_of_before) -/
def lw_At (p : Program) (s : State) (m : MethodId) (meth : Method) (c : Code) (b L : Nat) (xs : Nat → Int32) : Prop :=
  p.tables.exec = Jvm.exec ∧ c.code = code ∧ meth.sig.returnType = ret ∧ c.maxLocals = 4 ∧ s.vm.findClass R_law = some m.cls ∧ (∀ w ∈ lw_tbl, w.before #[Value.ref b] s = true) ∧ va_X b L xs s s.heap ∧ b < s.heap.size ∧ meth.locks = false ∧ (Jvm.Cond.and given_1 narrow_1).before #[Value.ref b] s = true

theorem gw_tbl {w : Cond} (h : w ∈ gw) : w ∈ lw_tbl := (List.mem_filter.mp h).1
theorem nw_tbl {w : Cond} (h : w ∈ nw) : w ∈ lw_tbl := (List.mem_filter.mp h).1
theorem st_nw {args : Array Value} {s : State} (hts : ∀ w ∈ lw_tbl, w.before args s = true) : ∀ w ∈ nw, va_Nw w s := by
  intro w hw
  have h1 := (List.mem_filter.mp hw).2
  have h2 := hts w (nw_tbl hw)
  cases w with
  | fieldLinkNest a b c d e f => exact va_Nw.of rfl h2
  | methodLinkNest a b c d => exact va_Nw.of rfl h2
  | _ => cases h1
theorem st_arr {args : Array Value} {s : State} {ty : FieldType} (h : (Cond.arrayClass ty).before args s = true) (hty : ty = .int ∨ ty = .byte ∨ ty = .boolean) : ∃ cA : ClassId, ArrOfT s cA ty ∧ va_RA s cA ty := by
  obtain ⟨cA, kA, comp, h1, h2, h3⟩ := Cond.arrayClass_spec h
  refine ⟨cA, fun n z => ⟨fun k h => (by cases h), kA, h2, comp, h3⟩, ?_⟩
  rcases hty with rfl | rfl | rfl <;> exact h1

theorem st_cls {args : Array Value} {s : State} (c0 : ClassId) (hgw : ∀ w ∈ gw, w.before args s = true) : ∃ (dC : Nat → ClassId) (dI : Nat → Nat → Nat), ∀ (k : Nat) (q : vw_C), classes[k]? = some q → u_Kn s q.1 q.2.1 q.2.2 (dC k) (dI k) := by
  have key : ∀ k : Nat, ∃ z : ClassId × (Nat → Nat), ∀ q : vw_C, classes[k]? = some q → u_Kn s q.1 q.2.1 q.2.2 z.1 z.2 := by
    intro k
    match k with
    | 0 =>
      obtain ⟨c, i, h⟩ := u_known (C := RX0) (T := TX0) (N := 7) (n := 7) hgw (g_uin 0 _ rfl) (hgw _ q_79)
      exact ⟨(c, i), fun q e => by cases e; exact h⟩
    | 1 =>
      obtain ⟨c, i, h⟩ := u_known (C := RX1) (T := TX1) (N := 0) (n := 0) hgw (g_uin 1 _ rfl) (hgw _ q_185)
      exact ⟨(c, i), fun q e => by cases e; exact h⟩
    | 2 =>
      obtain ⟨c, i, h⟩ := u_known (C := RX2) (T := TX2) (N := 6) (n := 6) hgw (g_uin 2 _ rfl) (hgw _ q_158)
      exact ⟨(c, i), fun q e => by cases e; exact h⟩
    | 3 =>
      obtain ⟨c, i, h⟩ := u_known (C := RX3) (T := TX3) (N := 0) (n := 0) hgw (g_uin 3 _ rfl) (hgw _ q_171)
      exact ⟨(c, i), fun q e => by cases e; exact h⟩
    | 4 =>
      obtain ⟨c, i, h⟩ := u_known (C := RX4) (T := TX4) (N := 8) (n := 8) hgw (g_uin 4 _ rfl) (hgw _ q_152)
      exact ⟨(c, i), fun q e => by cases e; exact h⟩
    | 5 =>
      obtain ⟨c, i, h⟩ := u_known (C := RX5) (T := TX5) (N := 0) (n := 0) hgw (g_uin 5 _ rfl) (hgw _ q_199)
      exact ⟨(c, i), fun q e => by cases e; exact h⟩
    | 6 =>
      obtain ⟨c, i, h⟩ := u_known (C := RX6) (T := TX6) (N := 0) (n := 0) hgw (g_uin 6 _ rfl) (hgw _ q_164)
      exact ⟨(c, i), fun q e => by cases e; exact h⟩
    | 7 =>
      obtain ⟨c, i, h⟩ := u_known (C := RX7) (T := TX7) (N := 0) (n := 0) hgw (g_uin 7 _ rfl) (hgw _ q_178)
      exact ⟨(c, i), fun q e => by cases e; exact h⟩
    | 8 =>
      obtain ⟨c, i, h⟩ := u_known (C := RX8) (T := TX8) (N := 7) (n := 7) hgw (g_uin 8 _ rfl) (hgw _ q_118)
      exact ⟨(c, i), fun q e => by cases e; exact h⟩
    | 9 =>
      obtain ⟨c, i, h⟩ := u_known (C := RX9) (T := TX9) (N := 0) (n := 0) hgw (g_uin 9 _ rfl) (hgw _ q_192)
      exact ⟨(c, i), fun q e => by cases e; exact h⟩
    | 10 =>
      obtain ⟨c, i, h⟩ := u_known (C := RX10) (T := TX10) (N := 13) (n := 13) hgw (g_uin 10 _ rfl) (hgw _ q_71)
      exact ⟨(c, i), fun q e => by cases e; exact h⟩
    | 11 =>
      obtain ⟨c, i, h⟩ := u_known (C := RX11) (T := TX11) (N := 16) (n := 16) hgw (g_uin 11 _ rfl) (hgw _ q_759)
      exact ⟨(c, i), fun q e => by cases e; exact h⟩
    | n + 12 => exact ⟨(c0, fun _ => 0), fun q e => by simp [classes] at e⟩
  obtain ⟨f, hf⟩ := Classical.axiomOfChoice key
  exact ⟨fun k => (f k).1, fun k => (f k).2, fun k q e => hf k q e⟩

set_option maxRecDepth 100000 in
set_option maxHeartbeats 4000000 in
theorem st_str {args : Array Value} {s : State} (hgv : (Jvm.Cond.and given_1 narrow_1).before args s = true) : ∃ adK adV : Nat → Nat, vk_S 4 g_slen g_sbyt adK adV (fun q => s.heap.size ≤ q) s s.heap ∧ ∀ i : Nat, i < 4 → (Term.string RX8 (g_sidx i)).eval args s none [] s = some (.ref (adK i)) := by
  have hs := flat_of_before _ hgv
  refine vk_Sof (args := args) (tm := fun i => Term.string RX8 (g_sidx i)) (by decide) ?_ ?_ ?_ ?_ ?_ ?_ (fun a h => Nat.not_le.mpr h)
  · intro i hi
    match i, hi with
    | 0, _ => exact hs _ (by decide +kernel)
    | 1, _ => exact hs _ (by decide +kernel)
    | 2, _ => exact hs _ (by decide +kernel)
    | 3, _ => exact hs _ (by decide +kernel)
    | n + 4, h => exact absurd h (by omega)
  · intro i hi
    match i, hi with
    | 0, _ => exact hs _ (by decide +kernel)
    | 1, _ => exact hs _ (by decide +kernel)
    | 2, _ => exact hs _ (by decide +kernel)
    | 3, _ => exact hs _ (by decide +kernel)
    | n + 4, h => exact absurd h (by omega)
  · intro i hi
    match i, hi with
    | 0, _ => exact hs _ (by decide +kernel)
    | 1, _ => exact hs _ (by decide +kernel)
    | 2, _ => exact hs _ (by decide +kernel)
    | 3, _ => exact hs _ (by decide +kernel)
    | n + 4, h => exact absurd h (by omega)
  · intro i hi
    match i, hi with
    | 0, _ => exact hs _ (by decide +kernel)
    | 1, _ => exact hs _ (by decide +kernel)
    | 2, _ => exact hs _ (by decide +kernel)
    | 3, _ => exact hs _ (by decide +kernel)
    | n + 4, h => exact absurd h (by omega)
  · intro i hi
    match i, hi with
    | 0, _ =>
      intro j hj
      match j, hj with
      | 0, _ => exact hs _ (by decide +kernel)
      | 1, _ => exact hs _ (by decide +kernel)
      | 2, _ => exact hs _ (by decide +kernel)
      | 3, _ => exact hs _ (by decide +kernel)
      | 4, _ => exact hs _ (by decide +kernel)
      | 5, _ => exact hs _ (by decide +kernel)
      | 6, _ => exact hs _ (by decide +kernel)
      | n + 7, h => exact absurd (show n + 7 < 7 from h) (by omega)
    | 1, _ =>
      intro j hj
      match j, hj with
      | 0, _ => exact hs _ (by decide +kernel)
      | 1, _ => exact hs _ (by decide +kernel)
      | 2, _ => exact hs _ (by decide +kernel)
      | 3, _ => exact hs _ (by decide +kernel)
      | n + 4, h => exact absurd (show n + 4 < 4 from h) (by omega)
    | 2, _ =>
      intro j hj
      match j, hj with
      | 0, _ => exact hs _ (by decide +kernel)
      | 1, _ => exact hs _ (by decide +kernel)
      | 2, _ => exact hs _ (by decide +kernel)
      | 3, _ => exact hs _ (by decide +kernel)
      | 4, _ => exact hs _ (by decide +kernel)
      | n + 5, h => exact absurd (show n + 5 < 5 from h) (by omega)
    | 3, _ =>
      intro j hj
      match j, hj with
      | 0, _ => exact hs _ (by decide +kernel)
      | 1, _ => exact hs _ (by decide +kernel)
      | 2, _ => exact hs _ (by decide +kernel)
      | n + 3, h => exact absurd (show n + 3 < 3 from h) (by omega)
    | n + 4, h => exact absurd h (by omega)
  · intro i j hi hj hij
    match i, j, hi, hj with
    | 0, 0, _, _ => exact absurd rfl hij
    | 0, 1, _, _ => exact Or.inl (hs _ (by decide +kernel))
    | 0, 2, _, _ => exact Or.inl (hs _ (by decide +kernel))
    | 0, 3, _, _ => exact Or.inl (hs _ (by decide +kernel))
    | 1, 0, _, _ => exact Or.inr (hs _ (by decide +kernel))
    | 1, 1, _, _ => exact absurd rfl hij
    | 1, 2, _, _ => exact Or.inl (hs _ (by decide +kernel))
    | 1, 3, _, _ => exact Or.inl (hs _ (by decide +kernel))
    | 2, 0, _, _ => exact Or.inr (hs _ (by decide +kernel))
    | 2, 1, _, _ => exact Or.inr (hs _ (by decide +kernel))
    | 2, 2, _, _ => exact absurd rfl hij
    | 2, 3, _, _ => exact Or.inl (hs _ (by decide +kernel))
    | 3, 0, _, _ => exact Or.inr (hs _ (by decide +kernel))
    | 3, 1, _, _ => exact Or.inr (hs _ (by decide +kernel))
    | 3, 2, _, _ => exact Or.inr (hs _ (by decide +kernel))
    | 3, 3, _, _ => exact absurd rfl hij
    | n + 4, _, h, _ => exact absurd h (by omega)
    | _, n + 4, _, h => exact absurd h (by omega)

theorem st_R {args : Array Value} {s : State} (hts : ∀ w ∈ lw_tbl, w.before args s = true) {adK : Nat → Nat} (h : ∀ i : Nat, i < 4 → (Term.string RX8 (g_sidx i)).eval args s none [] s = some (.ref (adK i))) : ∀ i : Nat, i < 4 → vk_R RX8 (g_sidx i) (g_stx i) (adK i) s := by
  intro i hi
  match i, hi with
  | 0, hi => exact vk_R.of (hts (Cond.stringRef RX8 46 "account") (List.mem_of_getElem? (i := 366) (by decide +kernel))) (h 0 hi)
  | 1, hi => exact vk_R.of (hts (Cond.stringRef RX8 56 "bill") (List.mem_of_getElem? (i := 431) (by decide +kernel))) (h 1 hi)
  | 2, hi => exact vk_R.of (hts (Cond.stringRef RX8 64 "spend") (List.mem_of_getElem? (i := 437) (by decide +kernel))) (h 2 hi)
  | 3, hi => exact vk_R.of (hts (Cond.stringRef RX8 70 "jar") (List.mem_of_getElem? (i := 442) (by decide +kernel))) (h 3 hi)
  | n + 4, h => exact absurd h (by omega)

theorem sz42 : g_sz 42 = 1451 := by decide +kernel
set_option maxRecDepth 100000 in
set_option maxHeartbeats 4000000 in
/-- THE LAW, from its entry -/
theorem whole_start {p : Program} {e : Env} {s : State} {m : MethodId} {below : List Frame} {meth : Method} {c : Code} (l : Launch) (hflags : l.flags = flags0) {b L : Nat} {xs : Nat → Int32} (hL : L ≤ 384) (C0 : lw_At p s m meth c b L xs) : W p l e room_1 s m #[Value.ref b] below meth c s.heap [] 0 0 (lw_Z below #[Value.ref b] s) (entryFrame m ([Value.ref b] : List Value).toArray 4) := by
  obtain ⟨hx, hb, hr, hml, hown, hts, hX, hbl, hlocks, hgv⟩ := C0
  have hs := flat_of_before _ hgv
  have hgw : ∀ w ∈ gw, w.before #[Value.ref b] s = true := fun w hw => hts w (gw_tbl hw)
  obtain ⟨dC, dI, hKc⟩ := st_cls m.cls hgw
  obtain ⟨a0, ha0⟩ := st_arr (hgw _ ka_0) (Or.inl rfl)
  obtain ⟨a1, ha1⟩ := st_arr (hgw _ ka_1) (Or.inr (Or.inl rfl))
  obtain ⟨a2, ha2⟩ := st_arr (hgw _ ka_2) (Or.inr (Or.inr rfl))
  obtain ⟨adK, adV, hvS, hvE⟩ := st_str hgv
  have hA : ∀ a : Nat, a < s.heap.size → ¬ (fun q : Nat => s.heap.size ≤ q) a := fun a h => Nat.not_le.mpr h
  have hz1 : va_Z RJ0 "COMPACT_STRINGS" "Z" (.int 1) (fun q : Nat => s.heap.size ≤ q) s s.heap := va_Zof (hts (Cond.laysStatic RJ0 "COMPACT_STRINGS" "Z") (List.mem_of_getElem? (i := 380) (by decide +kernel))) (hgw _ q_64) (va_eqi (hs _ (by decide +kernel))) hA
  have hz2 : va_Zq RJ3 "SIOOBE_FORMATTER" "Ljava/util/function/BiFunction;" (fun q : Nat => s.heap.size ≤ q) s s.heap := va_Zqof (hts (Cond.laysStatic RJ3 "SIOOBE_FORMATTER" "Ljava/util/function/BiFunction;") (List.mem_of_getElem? (i := 396) (by decide +kernel))) (hgw _ q_66) (hs _ (by decide +kernel)) hA
  obtain ⟨t, hz3⟩ : ∃ t : Nat, va_Z RJ3 "SIOOBE_FORMATTER" "Ljava/util/function/BiFunction;" .null (fun q : Nat => s.heap.size ≤ q) s s.heap ∨ va_Z RJ3 "SIOOBE_FORMATTER" "Ljava/util/function/BiFunction;" (.ref t) (fun q : Nat => s.heap.size ≤ q) s s.heap := by
    rcases hz2 with h | ⟨t, h⟩
    · exact ⟨0, Or.inl h⟩
    · exact ⟨t, Or.inr h⟩
  obtain ⟨gs, hgs⟩ : ∃ gs : Nat → Nat, gs = fun k => if k = 0 then b else if k < 1001 then adK (k - 1) else if k < 3000 then adV (k - 1001) else t := ⟨_, rfl⟩
  have g0 : gs 0 = b := by rw [hgs]; rfl
  have g3 : gs 3000 = t := by rw [hgs]; rfl
  have e1 : ∀ i, i < 4 → gs (1 + i) = adK i := fun i hi => by rw [hgs]; simp only; rw [if_neg (by omega), if_pos (by omega), show 1 + i - 1 = i by omega]
  have e2 : ∀ i, i < 4 → gs (1001 + i) = adV i := fun i hi => by rw [hgs]; simp only; rw [if_neg (by omega), if_neg (by omega), if_pos (by omega), show 1001 + i - 1001 = i by omega]
  obtain ⟨cf, hcf⟩ : ∃ cf : Nat → ClassId, cf 0 = a0 ∧ cf 1 = a1 ∧ cf 2 = a2 := ⟨fun k => if k = 0 then a0 else if k = 1 then a1 else a2, rfl, rfl, rfl⟩
  let G : Wd := (l, dC, dI, s.heap.size, cf, s.heap, gs, L, xs)
  have hU : g_Uw G s := by
    refine ⟨⟨hKc, fun k q hq => ?_⟩, st_nw hts, ⟨⟨fun i hi => ?_, fun i j hi hj e => hvS.2 i j hi hj ?_⟩, fun i hi => ?_, hz1, ?_⟩, ?_, ?_, rfl⟩
    · match k, hq with
      | 0, hq => cases hq; show ArrOfT s (cf 0) _ ∧ va_RA s (cf 0) _; rw [hcf.1]; exact ha0
      | 1, hq => cases hq; show ArrOfT s (cf 1) _ ∧ va_RA s (cf 1) _; rw [hcf.2.1]; exact ha1
      | 2, hq => cases hq; show ArrOfT s (cf 2) _ ∧ va_RA s (cf 2) _; rw [hcf.2.2]; exact ha2
      | k + 3, hq => simp [g_ty] at hq
    · have q := hvS.1 i hi
      show va_O "java/lang/String" (gs (1 + i)) _ _ _ ∧ va_OF _ _ _ _ (gs (1 + i)) _ _ _ ∧ va_OF _ _ _ (.ref (gs (1001 + i))) (gs (1 + i)) _ _ _ ∧ va_T .byte (gs (1001 + i)) _ _ _ _ _
      rw [e1 i hi, e2 i hi]
      exact q
    · rw [← e1 i hi, ← e1 j hj]; exact e
    · show vk_R RX8 (g_sidx i) (g_stx i) (gs (1 + i)) s
      rw [e1 i hi]
      exact st_R hts hvE i hi
    · show va_Z _ _ _ _ _ _ _ ∨ va_Z _ _ _ (.ref (gs 3000)) _ _ _
      rw [g3]; exact hz3
    · show va_X (gs 0) L xs s s.heap
      rw [g0]; exact hX
    · show gs 0 < s.heap.size
      rw [g0]; exact hbl
  have hl := lv_entry (([Value.ref 1000] : List Value).map (g_tr G)) (n := 4) (Nat.le_of_ble_eq_true rfl)
  have hev : ([Value.ref b] : List Value) = ([Value.ref 1000] : List Value).map (g_tr G) := by
    show [Value.ref b] = [Value.ref (g_ad G 1000)]
    have : g_ad G 1000 = gs 0 := rfl
    rw [this, g0]
  rw [show entryFrame m ([Value.ref b] : List Value).toArray 4 = entryFrame m (([Value.ref 1000] : List Value).map (g_tr G)).toArray 4 from by rw [← hev], lg_entry_eq]
  refine lw_begin G meth.name hL p e room_1 s m #[Value.ref b] below meth c s.heap [] _ 0 0 0 (lw_Z below #[Value.ref b] s) ⟨hx, hb, hml, hown, hgw, hr, hlocks, rfl⟩ hU ⟨Nat.le_of_ble_eq_true rfl, Nat.le_of_ble_eq_true rfl, Nat.le_of_ble_eq_true rfl, by rw [sz42]; exact Nat.le_of_ble_eq_true rfl, Nat.zero_le _⟩ (Nat.le_refl _) (fun _ _ => rfl) ?_ rfl rfl ⟨fun k q h => by simp [g_ws, g_M] at h, fun _ => rfl, fun _ _ => rfl, Nat.zero_le _⟩ va_S.rf (g_LO_ent hl)
  intro v σ' H' locs' pc' ls' hq hn hW' hS' hd hrok
  obtain ⟨W', rfl, r, rfl, rfl⟩ := hq
  refine va_forget (fun q hq => hS'.2.2 q hq) ?_
  refine W.widen (k := 42) (n := 1451) (Nat.le_of_ble_eq_true rfl) (by rw [sz42]; exact Nat.sub_le _ _) ?_
  exact lw_ret hx hb hr hlocks hd
