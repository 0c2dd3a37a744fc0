/-! the tables' words that every method keeps; the one world; what it is to run a method's body from a place on -/
def gw : List Cond := lw_tbl.filter goodWord
def g_isNest : Cond → Bool
  | .fieldLinkNest _ _ _ _ _ _ => true
  | .methodLinkNest _ _ _ _ => true
  | _ => false
def nw : List Cond := lw_tbl.filter g_isNest
theorem gw_in {w : Cond} (i : Nat) (h : lw_tbl[i]? = some w) (g : goodWord w = true) : w ∈ gw := List.mem_filter.mpr ⟨List.mem_of_getElem? h, g⟩
theorem nw_in {w : Cond} (i : Nat) (h : lw_tbl[i]? = some w) (g : g_isNest w = true) : w ∈ nw := List.mem_filter.mpr ⟨List.mem_of_getElem? h, g⟩
theorem gw_good : GoodIn gw gw := fun w h => ⟨h, good_of_word (List.mem_filter.mp h).2⟩
theorem gw_goodc {ws : List Cond} (h : ∀ w ∈ ws, w ∈ gw) : GoodIn gw ws := fun w hw => gw_good w (h w hw)
theorem nw_warm {s U : State} (hW : s.WarmedH U.vm) {w : Cond} (h : w ∈ nw) (hz : va_Nw w s) : va_Nw w U := by
  have h1 := (List.mem_filter.mp h).2
  cases w with
  | fieldLinkNest a b c d e f => exact va_Nw.warmF hW hz
  | methodLinkNest a b c d => exact va_Nw.warmM hW hz
  | _ => cases h1
theorem nw_same {s U : State} (hv : s.vm = U.vm) {w : Cond} (h : w ∈ nw) (hz : va_Nw w s) : va_Nw w U := by
  have h1 := (List.mem_filter.mp h).2
  cases w with
  | fieldLinkNest a b c d e f => exact va_Nw.same rfl hv hz
  | methodLinkNest a b c d => exact va_Nw.same rfl hv hz
  | _ => cases h1
/-- a state: ints by cell and place, longs, references (cells by number), how many cells there are -/
abbrev St : Type := (Nat → Nat → Int32) × (Nat → Nat → Int64) × (Nat → Nat → Option Nat) × Nat
/-- a method: name, bytes, locals, answer's type, frames and words below it -/
abbrev MD : Type := MethodName × ByteArray × Nat × Option FieldType × Nat × Nat
/-- launch, class numbers, slots, first address, array classes, the heap at first, addresses of what lies below it (0: the script), the script -/
abbrev Wd : Type := Launch × (Nat → ClassId) × (Nat → Nat → Nat) × Nat × (Nat → ClassId) × Heap × (Nat → Nat) × Nat × (Nat → Int32)
abbrev g_l (G : Wd) : Launch := G.1
abbrev g_D (G : Wd) : va_G := (G.2.1, G.2.2.1)
abbrev g_a (G : Wd) : Nat := G.2.2.2.1
abbrev g_c (G : Wd) : Nat → ClassId := G.2.2.2.2.1
abbrev g_H (G : Wd) : Heap := G.2.2.2.2.2.1
abbrev g_s (G : Wd) : Nat → Nat := G.2.2.2.2.2.2.1
abbrev g_L (G : Wd) : Nat := G.2.2.2.2.2.2.2.1
abbrev g_x (G : Wd) : Nat → Int32 := G.2.2.2.2.2.2.2.2
def g_ad (G : Wd) (k : Nat) : Nat := if k < 1000 then g_a G + k else g_s G (k - 1000)
def g_tr (G : Wd) (v : Value) : Value := match v with
  | .ref k => .ref (g_ad G k)
  | w => w
def g_rv (r : Option Nat) : Value := match r with
  | none => .null
  | some k => .ref k
def g_fty (ci : Nat) : Nat → FieldType := match ci with
  | 0 => tyX0
  | 1 => tyX1
  | 2 => tyX2
  | 3 => tyX3
  | 4 => tyX4
  | 5 => tyX5
  | 6 => tyX6
  | 7 => tyX7
  | 8 => tyX8
  | 9 => tyX9
  | 10 => tyX10
  | _ => tyX11
def g_nf (ci : Nat) : Nat := match classes[ci]? with
  | some q => q.2.2
  | none => 0
/-- what a cell is: an array (type, length), or an object of a class -/
def g_shL : List ((Nat × Nat) ⊕ Nat) := [.inr 10, .inr 0, .inl (0, 6), .inl (0, 21), .inl (0, 30), .inl (0, 48), .inr 0, .inl (0, 6), .inl (0, 21), .inl (0, 30), .inl (0, 48), .inr 0, .inl (0, 6), .inl (0, 21), .inl (0, 30), .inl (0, 48), .inl (2, 2), .inr 8, .inl (1, 150), .inr 0, .inl (0, 6), .inl (0, 21), .inl (0, 30), .inl (0, 48), .inr 4, .inr 2, .inr 6, .inr 3, .inr 7, .inr 1, .inr 9, .inr 5, .inl (0, 99), .inl (0, 7), .inr 11, .inl (0, 108), .inl (0, 108), .inl (0, 108), .inl (0, 216), .inl (2, 2), .inl (0, 3), .inl (0, 150)]
def g_sh (k : Nat) : (Nat × Nat) ⊕ Nat := g_shL.getD k (.inr 99)
def g_szk (k : Nat) : Nat := match g_sh k with
  | .inl q => q.2
  | .inr ci => g_nf ci
def g_sz : Nat → Nat
  | 0 => 0
  | n + 1 => g_sz n + g_szk n
theorem g_sz_le {a b : Nat} (h : a ≤ b) : g_sz a ≤ g_sz b := by
  induction h with
  | refl => exact Nat.le_refl _
  | step _ ih => exact Nat.le_trans ih (Nat.le_add_right _ _)
def g_fv (σ : St) (k : Nat) (ty : FieldType) (j : Nat) : Value := match ty with
  | .long => .long (σ.2.1 k j)
  | .array _ => g_rv (σ.2.2.1 k j)
  | .object _ => g_rv (σ.2.2.1 k j)
  | _ => .int (σ.1 k j)
def g_fl (G : Wd) (σ : St) (k ci : Nat) : List Value := (List.range (g_nf ci)).map (fun j => g_tr G (g_fv σ k (g_fty ci j) j))
def g_en (G : Wd) (σ : St) (k : Nat) : va_E := match g_sh k with
  | .inl q => .inl (g_c G q.1, q.2, .inl (σ.1 k))
  | .inr ci => .inr (ci, g_fl G σ k ci)
def g_ws (G : Wd) (σ : St) : va_W := (List.range σ.2.2.2).map (fun k => (g_a G + k, g_en G σ k))
def g_A (G : Wd) : Nat → Prop := fun q => g_a G ≤ q
def g_Wk (G : Wd) (σ : St) (H : Heap) : Prop := va_P (g_D G) classes (g_ws G σ) H ∧ (σ.2.2.2 < 42 → H.size = g_a G + σ.2.2.2) ∧ (∀ q : Nat, q < g_a G → H[q]? = (g_H G)[q]?) ∧ σ.2.2.2 ≤ 1000
abbrev g_ty (G : Wd) : List (ClassId × FieldType) := [(g_c G 0, .int), (g_c G 1, .byte), (g_c G 2, .boolean)]
def g_slen : List Nat := [7, 4, 5, 3]
def g_sbyt : List (List Int32) := [[97, 99, 99, 111, 117, 110, 116], [98, 105, 108, 108], [115, 112, 101, 110, 100], [106, 97, 114]]
def g_stx (i : Nat) : String := match i with
  | 0 => "account"
  | 1 => "bill"
  | 2 => "spend"
  | _ => "jar"
def g_sidx (i : Nat) : Nat := match i with
  | 0 => 46
  | 1 => 56
  | 2 => 64
  | _ => 70
/-- what is known of the literals and the JDK's statics -/
def g_Str (G : Wd) (U : State) : Prop := vk_S 4 g_slen g_sbyt (fun i => g_s G (1 + i)) (fun i => g_s G (1001 + i)) (g_A G) U (g_H G) ∧ (∀ i, i < 4 → vk_R RX8 (g_sidx i) (g_stx i) (g_s G (1 + i)) U) ∧ va_Z RJ0 "COMPACT_STRINGS" "Z" (.int 1) (g_A G) U (g_H G) ∧ (va_Z RJ3 "SIOOBE_FORMATTER" "Ljava/util/function/BiFunction;" .null (g_A G) U (g_H G) ∨ va_Z RJ3 "SIOOBE_FORMATTER" "Ljava/util/function/BiFunction;" (.ref (g_s G 3000)) (g_A G) U (g_H G))
def g_Uw (G : Wd) (U : State) : Prop := va_K (g_D G) classes (g_ty G) U ∧ (∀ w ∈ nw, va_Nw w U) ∧ g_Str G U ∧ va_X (g_s G 0) (g_L G) (g_x G) U (g_H G) ∧ g_s G 0 < g_a G ∧ (g_H G).size = g_a G
theorem g_Uw.warm {G : Wd} {s U : State} (hW : s.WarmedH U.vm) (h : g_Uw G s) : g_Uw G U := by
  obtain ⟨h1, h2, ⟨h3, h4, h5, h6⟩, h7, h8⟩ := h
  exact ⟨va_K.moved hW.alike h1, fun w hw => nw_warm hW hw (h2 w hw), ⟨vk_S.moved hW.alike h3, fun i hi => vk_R.warm hW (h4 i hi), va_Z.moved hW.alike h5, h6.imp (va_Z.moved hW.alike) (va_Z.moved hW.alike)⟩, va_X.moved hW.alike h7, h8⟩
theorem g_Uw.same {G : Wd} {s U : State} (hv : s.vm = U.vm) (h : g_Uw G s) : g_Uw G U := by
  obtain ⟨h1, h2, ⟨h3, h4, h5, h6⟩, h7, h8⟩ := h
  have ha : s.vm.Alike U.vm := by rw [hv]; exact Vm.Alike.refl _
  exact ⟨va_K.moved ha h1, fun w hw => nw_same hv hw (h2 w hw), ⟨vk_S.moved ha h3, fun i hi => vk_R.same hv.symm (h4 i hi), va_Z.moved ha h5, h6.imp (va_Z.moved ha) (va_Z.moved ha)⟩, va_X.moved ha h7, h8⟩
/-- the locals -/
def g_LO (G : Wd) (ls : Array Slot) (nL : Nat) (L : List (Option Value)) : Prop := ls.size = nL ∧ lv_wf ls ∧ ∀ (i : Nat) (v : Value), L[i]? = some (some v) → ls[i]? = some (.val (g_tr G v))
def g_ent : Nat → List Value → List (Option Value)
  | n, [] => List.replicate n none
  | n, v :: vs => match v.category with
    | 2 => some v :: none :: g_ent (n - 2) vs
    | _ => some v :: g_ent (n - 1) vs
def g_rti (v : Option Value) : Instr := match v with
  | none => .return_
  | some (.int _) => .ireturn
  | some (.long _) => .lreturn
  | some _ => .areturn
def g_rok (ret : Option FieldType) (v : Option Value) : Prop := match v with
  | none => ret = none
  | some (.int z) => ∃ ty, ret = some ty ∧ narrow ty (.int z) = .int z
  | some (.long _) => ret = some .long
  | some (.ref _) => ∃ n, ret = some (.object n)
  | some _ => False
def g_Fx (M : MD) (p : Program) (s : State) (m : MethodId) (args : Array Value) (meth : Method) (c : Code) : Prop :=
  p.tables.exec = Jvm.exec ∧ c.code = M.2.1 ∧ c.maxLocals = M.2.2.1 ∧ s.vm.findClass M.1.cls = some m.cls ∧ (∀ w ∈ gw, w.before args s = true) ∧ meth.sig.returnType = M.2.2.2.1 ∧ meth.locks = false ∧ meth.name = M.1.name
def g_Rm (M : MD) (nE n0 : Nat) (R : Room) : Prop := M.2.2.2.2.1 ≤ R.frames ∧ M.2.2.2.2.2 ≤ R.locals ∧ nE ≤ R.cells + n0 ∧ g_sz nE ≤ R.slots + g_sz n0 ∧ n0 ≤ nE
/-- FROM A PLACE ON: the body of M, at pc, with locals L, stack S, in the state σ, comes to its end, and there Q holds of its answer and the state -/
def Cc (G : Wd) (M : MD) (nE pc : Nat) (L : List (Option Value)) (S : List Value) (σ : St) (Q : Option Value → St → Prop) : Prop :=
  ∀ (p : Program) (e : Env) (R : Room) (s : State) (m : MethodId) (args : Array Value) (below : List Frame) (meth : Method) (c : Code) (H : Heap) (locs : List Loc) (ls : Array Slot) (cells slots n0 : Nat) (QQ : State → Prop),
    g_Fx M p s m args meth c → g_Uw G s → g_Rm M nE n0 R → g_a G ≤ s.heap.size → (∀ q : Nat, q < g_a G → s.heap[q]? = (g_H G)[q]?) →
    (∀ (v : Option Value) (σ' : St) (H' : Heap) (locs' : List Loc) (pc' : Nat) (ls' : Array Slot), Q v σ' → σ'.2.2.2 = nE → g_Wk G σ' H' → va_S (g_A G) s.heap H' locs' → decode M.2.1 pc' = .ok (g_rti v, 1) → g_rok M.2.2.2.1 v →
      W p (g_l G) e R s m args below meth c H' locs' (nE - n0) (g_sz nE - g_sz n0) QQ (F0 m pc' ls' (v.toList.map (g_tr G)))) →
    cells + n0 = σ.2.2.2 → slots + g_sz n0 = g_sz σ.2.2.2 → g_Wk G σ H → va_S (g_A G) s.heap H locs → g_LO G ls M.2.2.1 L →
    W p (g_l G) e R s m args below meth c H locs cells slots QQ (F0 m pc ls (S.map (g_tr G)))
theorem g_tr_cat (G : Wd) (v : Value) : (g_tr G v).category = v.category := by cases v <;> rfl
theorem g_ad_lt {G : Wd} {k : Nat} (h : k < 1000) : g_ad G k = g_a G + k := by simp [g_ad, h]
theorem g_ws_at {G : Wd} {σ : St} {k : Nat} (h : k < σ.2.2.2) : (g_ws G σ)[k]? = some (g_a G + k, g_en G σ k) := by
  simp [g_ws, h]
theorem g_ws_len {G : Wd} {σ : St} : (g_ws G σ).length = σ.2.2.2 := by simp [g_ws]
theorem g_ws_D {G : Wd} {σ : St} : va_D (g_A G) (g_ws G σ) := by
  refine ⟨fun i j p q hi hj hpq => ?_, fun k q hk => ?_⟩
  · have li : i < σ.2.2.2 := by rw [← g_ws_len (G := G)]; exact (List.getElem?_eq_some_iff.mp hi).1
    have lj : j < σ.2.2.2 := by rw [← g_ws_len (G := G)]; exact (List.getElem?_eq_some_iff.mp hj).1
    rw [g_ws_at li] at hi
    rw [g_ws_at lj] at hj
    cases hi; cases hj
    simp only at hpq
    omega
  · have lk : k < σ.2.2.2 := by rw [← g_ws_len (G := G)]; exact (List.getElem?_eq_some_iff.mp hk).1
    rw [g_ws_at lk] at hk
    cases hk
    exact Nat.le_add_right _ _
/-- two worlds with the same cells -/
theorem g_ws_ext {G : Wd} {σ' : St} {w : va_W} (hn : w.length = σ'.2.2.2) (h : ∀ k, k < σ'.2.2.2 → w[k]? = some (g_a G + k, g_en G σ' k)) : w = g_ws G σ' := by
  apply List.ext_getElem?
  intro i
  by_cases hi : i < σ'.2.2.2
  · rw [h i hi, g_ws_at hi]
  · rw [List.getElem?_eq_none (by omega), List.getElem?_eq_none (by rw [g_ws_len]; omega)]
/-- a row of ints is another -/
def g_pr (σ : St) (k : Nat) (f : Nat → Int32) : St := (fun a => if a = k then f else σ.1 a, σ.2)
def g_pl (σ : St) (k j : Nat) (v : Int64) : St := (σ.1, fun a b => if a = k then (if b = j then v else σ.2.1 a b) else σ.2.1 a b, σ.2.2)
def g_prf (σ : St) (k j : Nat) (v : Option Nat) : St := (σ.1, σ.2.1, fun a b => if a = k then (if b = j then v else σ.2.2.1 a b) else σ.2.2.1 a b, σ.2.2.2)
theorem g_en_pr {G : Wd} {σ : St} {k i : Nat} {f : Nat → Int32} (h : i ≠ k) : g_en G (g_pr σ k f) i = g_en G σ i := by
  simp [g_en, g_pr, h, g_fl, g_fv]
theorem g_en_pl {G : Wd} {σ : St} {k i j : Nat} {v : Int64} (h : i ≠ k) : g_en G (g_pl σ k j v) i = g_en G σ i := by
  simp [g_en, g_pl, h, g_fl, g_fv]
theorem g_en_prf {G : Wd} {σ : St} {k i j : Nat} {v : Option Nat} (h : i ≠ k) : g_en G (g_prf σ k j v) i = g_en G σ i := by
  simp [g_en, g_prf, h, g_fl, g_fv]
/-- a cell set anew is the state with it -/
theorem g_ws_set {G : Wd} {σ σ' : St} {k : Nat} {e : va_E} (hk : k < σ.2.2.2) (hn : σ'.2.2.2 = σ.2.2.2) (he : g_en G σ' k = e) (ho : ∀ i, i ≠ k → g_en G σ' i = g_en G σ i) : (g_ws G σ).set k (g_a G + k, e) = g_ws G σ' := by
  refine g_ws_ext (by rw [List.length_set, g_ws_len, hn]) (fun i hi => ?_)
  by_cases hik : i = k
  · subst hik
    rw [List.getElem?_set_self (by rw [g_ws_len]; exact hk), he]
  · rw [List.getElem?_set_ne (Ne.symm hik), g_ws_at (by omega), ho i hik]
