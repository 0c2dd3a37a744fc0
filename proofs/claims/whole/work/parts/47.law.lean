/-! the law -/
set_option maxRecDepth 20000 in
set_option maxHeartbeats 4000000 in
theorem lw_loop (G : Wd) (nm : String) (hL : g_L G ≤ 384) : ∀ (d m : Nat) (Z : ZS) (A : AS), 64 - m = d → m ≤ 64 → CS Z A → MS Z A → AO (4000 + 700000 * (m : Int)) A → Cn G (mLw nm) 18 [some (.ref 1000), some (.ref 0), some (.ref 34), some (iv (((6 * m : Nat) : Int)))] [] Z (qi (fun r _ => r = 1)) := by
  intro d
  induction d using Nat.strongRecOn with
  | ind d ih =>
    intro m Z A hd hm hC hM hA
    refine cz_iload_n (pc' := 19) (g_d dtbL_law_0 10 rfl) rfl rfl ?_
    refine cz_aload_n (pc' := 20) (g_d dtbL_law_0 11 rfl) rfl rfl ?_
    refine nz_slen (pc' := 21) (g_d dtbL_law_0 12 rfl) rfl ?_
    refine nz_bipush (pc' := 23) (g_d dtbL_law_0 13 rfl) (by decide) rfl ?_
    refine nz_isub (pc' := 24) (g_d dtbL_law_0 14 rfl) rfl ?_
    refine nz_icmp_gt (tgt := 987) (pc' := 27) (g_d dtbL_law_0 15 rfl) (by omega) (by omega) rfl rfl (fun h24 => ?_) (fun h24 => ?_)
    · refine nz_iconst (pc' := 988) (g_d dtbL_law_10 27 rfl) rfl ?_
      refine nz_ri .boolean (g_d dtbL_law_10 28 rfl) rfl rfl ?_
      exact rfl
    · refine cz_aload_n (pc' := 28) (g_d dtbL_law_0 16 rfl) rfl rfl ?_
      refine cz_iload_n (pc' := 29) (g_d dtbL_law_0 17 rfl) rfl rfl ?_
      refine nz_sld (6 * m) (pc' := 30) (g_d dtbL_law_0 18 rfl) (by rfl) (by omega) hL rfl ?_
      refine nz_bipush (pc' := 32) (g_d dtbL_law_0 19 rfl) (by decide) rfl ?_
      refine nz_and63 (pc' := 33) (g_d dtbL_law_0 20 rfl) rfl (fun c hc => ?_)
      have hk : ∀ (W : ZS) (A2 : AS), CS W A2 → MS W A2 → AO (4000 + 700000 * (m : Int) + 700000) A2 → Cn G (mLw nm) 981 [some (.ref 1000), some (.ref 0), some (.ref 34), some (iv (((6 * m : Nat) : Int)))] [] W (qi (fun r _ => r = 1)) := by
        intro W A2 h1 h2 h3
        refine nz_iinc (L' := [some (.ref 1000), some (.ref 0), some (.ref 34), some (iv (((6 * m : Nat) : Int) + 6))]) (pc' := 984) (g_d dtbL_law_10 25 rfl) (Nat.le_of_ble_eq_true rfl) rfl rfl rfl ?_
        refine cz_goto (pc' := 18) (g_d dtbL_law_10 26 rfl) rfl ?_
        rw [show ((6 * m : Nat) : Int) + 6 = ((6 * (m + 1) : Nat) : Int) by omega]
        exact ih (64 - (m + 1)) (by omega) (m + 1) W A2 rfl (by omega) h1 h2 (by rw [show 4000 + 700000 * ((m + 1 : Nat) : Int) = 4000 + 700000 * (m : Int) + 700000 by omega]; exact h3)
      rcases (show c = 0 ∨ c = 1 ∨ c = 2 ∨ c = 3 ∨ c = 4 ∨ c = 5 ∨ c = 6 ∨ c = 7 ∨ c = 8 ∨ c = 9 ∨ c = 10 ∨ c = 11 ∨ c = 12 ∨ c = 13 ∨ c = 14 ∨ c = 15 ∨ c = 16 ∨ c = 17 ∨ c = 18 ∨ c = 19 ∨ c = 20 ∨ c = 21 ∨ c = 22 ∨ c = 23 ∨ c = 24 ∨ c = 25 ∨ c = 26 ∨ c = 27 ∨ c = 28 ∨ c = 29 ∨ c = 30 ∨ c = 31 ∨ c = 32 ∨ 32 < c by omega) with rfl | rfl | rfl | rfl | rfl | rfl | rfl | rfl | rfl | rfl | rfl | rfl | rfl | rfl | rfl | rfl | rfl | rfl | rfl | rfl | rfl | rfl | rfl | rfl | rfl | rfl | rfl | rfl | rfl | rfl | rfl | rfl | rfl | hc2
      · exact nz_tabIn (tgt := 180) 0 (g_d dtbL_law_0 21 rfl) (by decide) (by decide) (by decide) rfl rfl (lw_0 G nm Z A _ hC hM hA (by omega) hL (6 * m) (by omega) _ hk)
      · exact nz_tabIn (tgt := 203) 1 (g_d dtbL_law_0 21 rfl) (by decide) (by decide) (by decide) rfl rfl (lw_1 G nm Z A _ hC hM hA (by omega) hL (6 * m) (by omega) _ hk)
      · exact nz_tabIn (tgt := 246) 2 (g_d dtbL_law_0 21 rfl) (by decide) (by decide) (by decide) rfl rfl (lw_2 G nm Z A _ hC hM hA (by omega) hL (6 * m) (by omega) _ hk)
      · exact nz_tabIn (tgt := 269) 3 (g_d dtbL_law_0 21 rfl) (by decide) (by decide) (by decide) rfl rfl (lw_3 G nm Z A _ hC hM hA (by omega) hL (6 * m) (by omega) _ hk)
      · exact nz_tabIn (tgt := 282) 4 (g_d dtbL_law_0 21 rfl) (by decide) (by decide) (by decide) rfl rfl (lw_4 G nm Z A _ hC hM hA (by omega) hL (6 * m) (by omega) _ hk)
      · exact nz_tabIn (tgt := 295) 5 (g_d dtbL_law_0 21 rfl) (by decide) (by decide) (by decide) rfl rfl (lw_5 G nm Z A _ hC hM hA (by omega) hL (6 * m) (by omega) _ hk)
      · exact nz_tabIn (tgt := 318) 6 (g_d dtbL_law_0 21 rfl) (by decide) (by decide) (by decide) rfl rfl (lw_6 G nm Z A _ hC hM hA (by omega) hL (6 * m) (by omega) _ hk)
      · exact nz_tabIn (tgt := 341) 7 (g_d dtbL_law_0 21 rfl) (by decide) (by decide) (by decide) rfl rfl (lw_7 G nm Z A _ hC hM hA (by omega) hL (6 * m) (by omega) _ hk)
      · exact nz_tabIn (tgt := 364) 8 (g_d dtbL_law_0 21 rfl) (by decide) (by decide) (by decide) rfl rfl (lw_8 G nm Z A _ hC hM hA (by omega) hL (6 * m) (by omega) _ hk)
      · exact nz_tabIn (tgt := 377) 9 (g_d dtbL_law_0 21 rfl) (by decide) (by decide) (by decide) rfl rfl (lw_9 G nm Z A _ hC hM hA (by omega) hL (6 * m) (by omega) _ hk)
      · exact nz_tabIn (tgt := 410) 10 (g_d dtbL_law_0 21 rfl) (by decide) (by decide) (by decide) rfl rfl (lw_10 G nm Z A _ hC hM hA (by omega) hL (6 * m) (by omega) _ hk)
      · exact nz_tabIn (tgt := 433) 11 (g_d dtbL_law_0 21 rfl) (by decide) (by decide) (by decide) rfl rfl (lw_11 G nm Z A _ hC hM hA (by omega) hL (6 * m) (by omega) _ hk)
      · exact nz_tabIn (tgt := 446) 12 (g_d dtbL_law_0 21 rfl) (by decide) (by decide) (by decide) rfl rfl (lw_12 G nm Z A _ hC hM hA (by omega) hL (6 * m) (by omega) _ hk)
      · exact nz_tabIn (tgt := 479) 13 (g_d dtbL_law_0 21 rfl) (by decide) (by decide) (by decide) rfl rfl (lw_13 G nm Z A _ hC hM hA (by omega) hL (6 * m) (by omega) _ hk)
      · exact nz_tabIn (tgt := 512) 14 (g_d dtbL_law_0 21 rfl) (by decide) (by decide) (by decide) rfl rfl (lw_14 G nm Z A _ hC hM hA (by omega) hL (6 * m) (by omega) _ hk)
      · exact nz_tabIn (tgt := 525) 15 (g_d dtbL_law_0 21 rfl) (by decide) (by decide) (by decide) rfl rfl (lw_15 G nm Z A _ hC hM hA (by omega) hL (6 * m) (by omega) _ hk)
      · exact nz_tabIn (tgt := 548) 16 (g_d dtbL_law_0 21 rfl) (by decide) (by decide) (by decide) rfl rfl (lw_16 G nm Z A _ hC hM hA (by omega) hL (6 * m) (by omega) _ hk)
      · exact nz_tabIn (tgt := 571) 17 (g_d dtbL_law_0 21 rfl) (by decide) (by decide) (by decide) rfl rfl (lw_17 G nm Z A _ hC hM hA (by omega) hL (6 * m) (by omega) _ hk)
      · exact nz_tabIn (tgt := 584) 18 (g_d dtbL_law_0 21 rfl) (by decide) (by decide) (by decide) rfl rfl (lw_18 G nm Z A _ hC hM hA (by omega) hL (6 * m) (by omega) _ hk)
      · exact nz_tabIn (tgt := 607) 19 (g_d dtbL_law_0 21 rfl) (by decide) (by decide) (by decide) rfl rfl (lw_19 G nm Z A _ hC hM hA (by omega) hL (6 * m) (by omega) _ hk)
      · exact nz_tabIn (tgt := 620) 20 (g_d dtbL_law_0 21 rfl) (by decide) (by decide) (by decide) rfl rfl (lw_20 G nm Z A _ hC hM hA (by omega) hL (6 * m) (by omega) _ hk)
      · exact nz_tabIn (tgt := 683) 21 (g_d dtbL_law_0 21 rfl) (by decide) (by decide) (by decide) rfl rfl (lw_21 G nm Z A _ hC hM hA (by omega) hL (6 * m) (by omega) _ hk)
      · exact nz_tabIn (tgt := 696) 22 (g_d dtbL_law_0 21 rfl) (by decide) (by decide) (by decide) rfl rfl (lw_22 G nm Z A _ hC hM hA (by omega) hL (6 * m) (by omega) _ hk)
      · exact nz_tabIn (tgt := 719) 23 (g_d dtbL_law_0 21 rfl) (by decide) (by decide) (by decide) rfl rfl (lw_23 G nm Z A _ hC hM hA (by omega) hL (6 * m) (by omega) _ hk)
      · exact nz_tabIn (tgt := 742) 24 (g_d dtbL_law_0 21 rfl) (by decide) (by decide) (by decide) rfl rfl (lw_24 G nm Z A _ hC hM hA (by omega) hL (6 * m) (by omega) _ hk)
      · exact nz_tabIn (tgt := 775) 25 (g_d dtbL_law_0 21 rfl) (by decide) (by decide) (by decide) rfl rfl (lw_25 G nm Z A _ hC hM hA (by omega) hL (6 * m) (by omega) _ hk)
      · exact nz_tabIn (tgt := 818) 26 (g_d dtbL_law_0 21 rfl) (by decide) (by decide) (by decide) rfl rfl (lw_26 G nm Z A _ hC hM hA (by omega) hL (6 * m) (by omega) _ hk)
      · exact nz_tabIn (tgt := 851) 27 (g_d dtbL_law_0 21 rfl) (by decide) (by decide) (by decide) rfl rfl (lw_27 G nm Z A _ hC hM hA (by omega) hL (6 * m) (by omega) _ hk)
      · exact nz_tabIn (tgt := 875) 28 (g_d dtbL_law_0 21 rfl) (by decide) (by decide) (by decide) rfl rfl (lw_28 G nm Z A _ hC hM hA (by omega) hL (6 * m) (by omega) _ hk)
      · exact nz_tabIn (tgt := 898) 29 (g_d dtbL_law_0 21 rfl) (by decide) (by decide) (by decide) rfl rfl (lw_29 G nm Z A _ hC hM hA (by omega) hL (6 * m) (by omega) _ hk)
      · exact nz_tabIn (tgt := 921) 30 (g_d dtbL_law_0 21 rfl) (by decide) (by decide) (by decide) rfl rfl (lw_30 G nm Z A _ hC hM hA (by omega) hL (6 * m) (by omega) _ hk)
      · exact nz_tabIn (tgt := 944) 31 (g_d dtbL_law_0 21 rfl) (by decide) (by decide) (by decide) rfl rfl (lw_31 G nm Z A _ hC hM hA (by omega) hL (6 * m) (by omega) _ hk)
      · exact nz_tabIn (tgt := 967) 32 (g_d dtbL_law_0 21 rfl) (by decide) (by decide) (by decide) rfl rfl (lw_32 G nm Z A _ hC hM hA (by omega) hL (6 * m) (by omega) _ hk)
      · exact nz_tabOut (tgt := 981) (g_d dtbL_law_0 21 rfl) (by omega) (Or.inr hc2) rfl (hk Z A hC hM (ao_up hA (by omega)))

def z0 : ZS := fun _ _ => 0
def r0 : RF := fun _ _ => none
def zM1 : ZS := zu (zu (zu (zu (zu z0 2 3 1) 7 3 1) 12 3 1) 20 3 1) 0 9 1
def zS : ZS := zr (zu zM1 34 7 1) 35 (r108 rBegin ((zu zM1 34 7 1) 35))
def A0 : AS := (zS 35, (0, rBegin), (0, rBegin), (0, rBegin), (0, 1), (0, 0, 0))
theorem fz0 : Fz z0 r0 0 := ⟨fun _ _ _ => rfl, fun _ _ _ => rfl⟩
theorem Fz.main {Z : ZS} {R : RF} (hz : Fz Z R 1) : Fz (zu (zu (zu (zu (zu Z 2 3 1) 7 3 1) 12 3 1) 20 3 1) 0 9 1) (rMain R) 34 := ((((((Fz.ol (((Fz.rd (((((Fz.bk (k := 11) (((Fz.bk (k := 6) (((Fz.bk (k := 1) (hz.up (by decide : 1 ≤ 2))).r (by decide)).up (by decide : 6 ≤ 7))).r (by decide)).up (by decide : 11 ≤ 12))).r (by decide)).up (by decide : 16 ≤ 17)).r (by decide)).up (by decide : 17 ≤ 18))).r (by decide)).up (by decide : 24 ≤ 25))).r (by decide)).r (by decide)).up (by decide : 33 ≤ 34)).r (by decide)).u (by decide))
theorem hR0 : ∀ k, k < 42 → ∀ j, j < 16 → rMod (rMain r0) k j = g_rS k j := by decide +kernel

theorem zS_35 {j : Nat} (h : j < 108) : zS 35 j = rBegin j := by
  unfold zS
  rw [zr_eq, r108_at h]
theorem cs0 : CS zS A0 := by
  have h6 : A0.1 6 = 0 := zS_35 (j := 6) (by decide)
  have h28 : A0.1 28 = 0 := zS_35 (j := 28) (by decide)
  have h59 : A0.1 59 = 0 := zS_35 (j := 59) (by decide)
  have hf : ∀ j, j < 6 → zS 2 j = zS 35 j := by decide +kernel
  refine ⟨⟨hf, ?_, fun b _ hb => ?_, ?_, fun i _ hi => ?_, ?_, fun i _ hi => ?_⟩, ⟨rfl, fun q => absurd q (by decide)⟩, ⟨rfl, fun q => absurd q (by decide)⟩, ⟨rfl, fun i hi => absurd hi (Nat.not_lt_zero i)⟩, ⟨rfl, rfl⟩, ⟨rfl, rfl, rfl⟩⟩
  · rw [h6]; rfl
  · rw [h6] at hb; omega
  · rw [h28]; rfl
  · rw [h28] at hi; omega
  · rw [h59]; rfl
  · rw [h59] at hi; omega
theorem ms0 : MS zS A0 := ⟨rfl, ⟨rfl, fun q => absurd q (by decide)⟩, ⟨rfl, fun q => absurd q (by decide)⟩, ⟨rfl, fun i hi => absurd hi (Nat.not_lt_zero i)⟩, ⟨rfl, rfl⟩, ⟨rfl, rfl, rfl⟩⟩
theorem ao0 : AO (4000 + 700000 * ((0 : Nat) : Int)) A0 := by
  refine ⟨by omega, ?_, ⟨Or.inl rfl, fun q => absurd q (by decide)⟩, ⟨Or.inl rfl, fun q => absurd q (by decide)⟩, ⟨by decide, fun i hi => absurd hi (Nat.not_lt_zero i)⟩, ⟨by decide, by decide⟩, ?_⟩
  · refine (ro_begin (n := 0) (by decide) (by decide)).ext (fun j hj => ?_)
    rw [show A0.1 j = zS 35 j from rfl, zS_35 hj]
    by_cases q : j = 0
    · subst q; rfl
    · rw [ru_ne q]
  · show (0 ≤ (0 : Int) ∧ (0 : Int) ≤ _) ∧ (0 ≤ (0 : Int) ∧ (0 : Int) ≤ _) ∧ (0 ≤ (0 : Int) ∧ (0 : Int) ≤ _)
    omega

set_option maxRecDepth 20000 in
set_option maxHeartbeats 4000000 in
theorem lw_begin (G : Wd) (nm : String) (hL : g_L G ≤ 384) : Cc G (mLw nm) 42 0 [some (.ref 1000), none, none, none] [] (g_M z0 r0 0) (fun v τ => ∃ W, τ = g_N W ∧ qi (fun r _ => r = 1) v W) := by
  refine mz_new (pc' := 3) (g_d dtbL_law_0 0 rfl) nf_L_7 rfl (by decide) (by decide) (by decide) fz0 rfl ?_
  refine cz_dup (pc' := 4) (g_d dtbL_law_0 1 rfl) rfl rfl ?_
  refine cz_callV (M' := mX10_init) (k := 0) (C := RX10) (As := []) (S := [.ref 0]) (L := [some (.ref 1000), none, none, none]) (nE' := 34) (pc' := 7) (g_d dtbL_law_0 2 rfl) lk_L_9 okX10_init (g_rc_own (Nat.le_of_ble_eq_true rfl) rfl rfl) rfl rfl (Nat.le_of_ble_eq_true rfl) (Nat.le_of_ble_eq_true rfl) ⟨(Nat.le_of_ble_eq_true rfl), (Nat.le_of_ble_eq_true rfl)⟩ ⟨(Nat.le_of_ble_eq_true rfl), (Nat.le_of_ble_eq_true rfl)⟩ rfl (i_Main G z0 r0 (fz0.up (by decide))) ?_
  rintro _ _ ⟨rfl, rfl⟩ _
  refine cz_astore_n (L' := [some (.ref 1000), some (.ref 0), none, none]) (pc' := 8) (g_d dtbL_law_0 3 rfl) (Nat.le_of_ble_eq_true rfl) rfl rfl ?_
  refine mz_new (pc' := 11) (g_d dtbL_law_0 4 rfl) nf_L_10 rfl (by decide) (by decide) (by decide) (Fz.main (fz0.up (by decide))) rfl ?_
  refine cz_dup (pc' := 12) (g_d dtbL_law_0 5 rfl) rfl rfl ?_
  refine cz_callV (M' := mX11_init) (k := 34) (C := RX11) (As := []) (S := [.ref 34]) (L := [some (.ref 1000), some (.ref 0), none, none]) (nE' := 42) (pc' := 15) (g_d dtbL_law_0 6 rfl) lk_L_12 okX11_init (g_rc_own (Nat.le_of_ble_eq_true rfl) rfl rfl) rfl rfl (Nat.le_of_ble_eq_true rfl) (Nat.le_of_ble_eq_true rfl) ⟨(Nat.le_of_ble_eq_true rfl), (Nat.le_of_ble_eq_true rfl)⟩ ⟨(Nat.le_of_ble_eq_true rfl), (Nat.le_of_ble_eq_true rfl)⟩ rfl (i_Mod G zM1 (rMain r0) ((Fz.main (fz0.up (by decide))).up (by decide)) hR0) ?_
  rintro _ _ ⟨W, rfl, rfl, rfl⟩ _
  refine cz_astore_n (L' := [some (.ref 1000), some (.ref 0), some (.ref 34), none]) (pc' := 16) (g_d dtbL_law_0 7 rfl) (Nat.le_of_ble_eq_true rfl) rfl rfl ?_
  refine nz_iconst (pc' := 17) (g_d dtbL_law_0 8 rfl) rfl ?_
  refine cz_istore_n (L' := [some (.ref 1000), some (.ref 0), some (.ref 34), some (iv ((6 * 0 : Nat) : Int))]) (pc' := 18) (g_d dtbL_law_0 9 rfl) (Nat.le_of_ble_eq_true rfl) rfl rfl ?_
  exact lw_loop G nm hL (64 - 0) 0 zS A0 rfl (by decide) cs0 ms0 ao0
