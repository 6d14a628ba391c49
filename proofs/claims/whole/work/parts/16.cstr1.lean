set_option maxRecDepth 100000 in
set_option maxHeartbeats 2000000 in
/-- PvArray$PvString.valueAt, the loop at 4  -/
theorem lp_X4_valueAt {D : va_G} {cy : Nat → ClassId} {l : Launch} {ad : Nat → Nat} {σ : Nat → Int → Int} {X : va_W} (hB : Bd σ) (hL : LC σ) (s : Int) (hs : 0 ≤ s ∧ s < 6) (c : Int) (hc : 0 ≤ c ∧ c ≤ 10000) : ∀ (n : Nat) (p : Int), 0 ≤ p → p ≤ σ 6 s → (σ 6 s - p).toNat < n → GO D cy l rm_X4_valueAt cX4_valueAt 4 yX4_valueAt.cls (some .int) (CW cy ad σ ++ X) (rdI (svolt σ s c) (CW cy ad σ ++ X)) (CW cy ad σ ++ X) 4 [(0, .ref (ad (31 + s.toNat))), (1, .int (zI c)), (2, .int (zI (sumP (fun p => volt σ (memb σ s p) c) p.toNat))), (3, .int (zI p))] [] := by
  intro n
  induction n with
  | zero =>
    intro p hp hp2 hn
    exact absurd hn (Nat.not_lt_zero _)
  | succ n ih =>
    intro p hp hp2 hn
    have h1 := hB.b6 s
    have h2 := hB.b7 (12 * s + p)
    have h3 := sv_b hB s hc.1 (n := p.toNat) (by omega)
    have h4 := volt_b hB (memb σ s p) hc.1
    refine g_iload_n (pc := 4) dX4_valueAt_4 3 rfl ?_
    refine g_aload_n (pc := 5) dX4_valueAt_5 0 rfl ?_
    refine g_get (pc := 6) (ci := 3) inG_X4 rfl 2 (by decide) rfl fl_X4_15 (31 + s.toNat) (at_str (s := s) (by omega)) rfl dX4_valueAt_6 ?_
    refine g_icmp_ge (pc := 9) 36 dX4_valueAt_9 (by decide) (by omega) (by omega) (fun h_1 => ?_) (fun h_1 => ?_)
    · refine g_iload_n (pc := 36) dX4_valueAt_36 2 rfl ?_
      exact g_iret (pc := 37) dX4_valueAt_37 rfl (rdI_of (by unfold svolt; congr 1; omega))
    · refine g_iload_n (pc := 12) dX4_valueAt_12 2 rfl ?_
      refine g_aload_n (pc := 13) dX4_valueAt_13 0 rfl ?_
      refine g_get (pc := 14) (ci := 3) inG_X4 rfl 0 (by decide) rfl fl_X4_19 (31 + s.toNat) (at_str (s := s) (by omega)) rfl dX4_valueAt_14 ?_
      refine g_aload_n (pc := 17) dX4_valueAt_17 0 rfl ?_
      refine g_get (pc := 18) (ci := 3) inG_X4 rfl 1 (by decide) rfl fl_X4_9 (31 + s.toNat) (at_str (s := s) (by omega)) rfl dX4_valueAt_18 ?_
      refine g_iload_n (pc := 21) dX4_valueAt_21 3 rfl ?_
      refine g_mem (pc := 22) (by omega) (by omega) dX4_valueAt_22 ?_
      refine g_aald (pc := 23) 2 3 at_mods rfl (by omega) (by decide) rfl dX4_valueAt_23 ?_
      refine g_iload_n (pc := 24) dX4_valueAt_24 1 rfl ?_
      refine g_callV (pc := 25) (As := [.int (zI c)]) (rest := [.int (zI (sumP (fun p => volt σ (memb σ s p) c) p.toNat))]) k_X4_23_X3 (c_X3_valueAt (σ := σ) hB hL (σ 7 (12 * s + p)) (by omega) c (by omega)) ⟨rfl, rfl, Nat.le_of_ble_eq_true rfl, Nat.le_of_ble_eq_true rfl⟩ (7 + (σ 7 (12 * s + p)).toNat) 2 rfl rfl (at_mod (i := (σ 7 (12 * s + p))) (by omega)) rfl rfl (Nat.le_of_ble_eq_true rfl) dX4_valueAt_25 (fun v_ w_ hq_ => ?_)
      obtain ⟨rfl, rfl⟩ := hq_
      refine g_one ?_
      refine g_iadd (pc := 28) dX4_valueAt_28 ?_
      refine g_istore_n (pc := 29) (lv' := [(2, .int (zI ((sumP (fun p => volt σ (memb σ s p) c) p.toNat) + (volt σ (σ 7 (12 * s + p)) c)))), (0, .ref (ad (31 + s.toNat))), (1, .int (zI c)), (3, .int (zI p))]) dX4_valueAt_29 (by decide) rfl ?_
      refine g_iinc (pc := 30) (lv' := [(3, .int (zI (p + 1))), (2, .int (zI ((sumP (fun p => volt σ (memb σ s p) c) p.toNat) + (volt σ (σ 7 (12 * s + p)) c)))), (0, .ref (ad (31 + s.toNat))), (1, .int (zI c))]) dX4_valueAt_30 (by decide) 3 rfl rfl ?_
      refine g_goto (pc := 33) 4 dX4_valueAt_33 (by decide) ?_
      refine g_sub (lv' := [(0, .ref (ad (31 + s.toNat))), (1, .int (zI c)), (2, .int (zI ((sumP (fun p => volt σ (memb σ s p) c) p.toNat) + (volt σ (σ 7 (12 * s + p)) c)))), (3, .int (zI (p + 1)))]) [2, 3, 1, 0] rfl ?_
      refine g_lv (lv' := [(0, .ref (ad (31 + s.toNat))), (1, .int (zI c)), (2, .int (zI (sumP (fun p => volt σ (memb σ s p) c) (p + 1).toNat))), (3, .int (zI (p + 1)))]) (by rw [sumP_s _ hp]; rfl) ?_
      exact ih (p + 1) (by omega) (by omega) (by omega)
set_option maxRecDepth 100000 in
set_option maxHeartbeats 2000000 in
/-- PvArray$PvString.valueAt  -/
theorem c_X4_valueAt {D : va_G} {cy : Nat → ClassId} {l : Launch} {ad : Nat → Nat} {σ : Nat → Int → Int} {X : va_W} (hB : Bd σ) (hL : LC σ) (s : Int) (hs : 0 ≤ s ∧ s < 6) (c : Int) (hc : 0 ≤ c ∧ c ≤ 10000) : Con D cy l yX4_valueAt cX4_valueAt 4 (some .int) rm_X4_valueAt [.ref (ad (31 + s.toNat)), .int (zI c)] (CW cy ad σ ++ X) (rdI (svolt σ s c) (CW cy ad σ ++ X)) := by
  refine Con.of (lv := [(0, .ref (ad (31 + s.toNat))), (1, .int (zI c))]) (by decide) (Nat.le_of_ble_eq_true rfl) rfl ?_
  have h1 := hB.b6 s
  refine g_iconst (pc := 0) dX4_valueAt_0 ?_
  refine g_istore_n (pc := 1) (lv' := [(2, .int (zI 0)), (0, .ref (ad (31 + s.toNat))), (1, .int (zI c))]) dX4_valueAt_1 (by decide) rfl ?_
  refine g_iconst (pc := 2) dX4_valueAt_2 ?_
  refine g_istore_n (pc := 3) (lv' := [(3, .int (zI 0)), (2, .int (zI 0)), (0, .ref (ad (31 + s.toNat))), (1, .int (zI c))]) dX4_valueAt_3 (by decide) rfl ?_
  refine g_sub (lv' := [(0, .ref (ad (31 + s.toNat))), (1, .int (zI c)), (2, .int (zI 0)), (3, .int (zI 0))]) [2, 3, 1, 0] rfl ?_
  exact lp_X4_valueAt hB hL s hs c hc ((σ 6 s).toNat + 1) 0 (by omega) (by omega) (by omega)
