set_option maxRecDepth 100000 in
set_option maxHeartbeats 2000000 in
/-- PvArray$PvString.bypassedAt, the loop at 4  -/
theorem lp_X4_bypassedAt {D : va_G} {cy : Nat → ClassId} {l : Launch} {ad : Nat → Nat} {σ : Nat → Int → Int} {X : va_W} (hB : Bd σ) (hL : LC σ) (s : Int) (hs : 0 ≤ s ∧ s < 6) (c : Int) (hc : 0 ≤ c ∧ c ≤ 10000) : ∀ (n : Nat) (p : Int), 0 ≤ p → p ≤ σ 6 s → (σ 6 s - p).toNat < n → GO D cy l rm_X4_bypassedAt cX4_bypassedAt 4 yX4_bypassedAt.cls (some .int) (CW cy ad σ ++ X) (fun v w' => v = some (.int (byp σ s c)) ∧ w' = CW cy ad σ ++ X) (CW cy ad σ ++ X) 4 [(0, .ref (ad (31 + s.toNat))), (1, .int (zI c)), (2, .int (bitP (fun p => decide (photo σ (memb σ s p) < c)) p.toNat)), (3, .int (zI p))] [] := by
  intro n
  induction n with
  | zero =>
    intro p hp hp2 hn
    exact absurd hn (Nat.not_lt_zero _)
  | succ n ih =>
    intro p hp hp2 hn
    have h1 := hB.b6 s
    have h2 := hB.b7 (12 * s + p)
    have h5 := photo_b hB (σ 7 (12 * s + p))
    refine g_iload_n (pc := 4) dX4_bypassedAt_4 3 rfl ?_
    refine g_aload_n (pc := 5) dX4_bypassedAt_5 0 rfl ?_
    refine g_get (pc := 6) (ci := 3) inG_X4 rfl 2 (by decide) rfl fl_X4_15 (31 + s.toNat) (at_str (s := s) (by omega)) rfl dX4_bypassedAt_6 ?_
    refine g_icmp_ge (pc := 9) 42 dX4_bypassedAt_9 (by decide) (by omega) (by omega) (fun h_1 => ?_) (fun h_1 => ?_)
    · refine g_iload_n (pc := 42) dX4_bypassedAt_42 2 rfl ?_
      exact g_iret (pc := 43) dX4_bypassedAt_43 rfl (⟨by unfold byp; rw [show p = σ 6 s by omega], rfl⟩)
    · refine g_iload_n (pc := 12) dX4_bypassedAt_12 1 rfl ?_
      refine g_aload_n (pc := 13) dX4_bypassedAt_13 0 rfl ?_
      refine g_get (pc := 14) (ci := 3) inG_X4 rfl 0 (by decide) rfl fl_X4_19 (31 + s.toNat) (at_str (s := s) (by omega)) rfl dX4_bypassedAt_14 ?_
      refine g_aload_n (pc := 17) dX4_bypassedAt_17 0 rfl ?_
      refine g_get (pc := 18) (ci := 3) inG_X4 rfl 1 (by decide) rfl fl_X4_9 (31 + s.toNat) (at_str (s := s) (by omega)) rfl dX4_bypassedAt_18 ?_
      refine g_iload_n (pc := 21) dX4_bypassedAt_21 3 rfl ?_
      refine g_mem (pc := 22) (by omega) (by omega) dX4_bypassedAt_22 ?_
      refine g_aald (pc := 23) 2 3 at_mods rfl (by omega) (by decide) rfl dX4_bypassedAt_23 ?_
      refine g_getN (pc := 24) (ci := 2) inG_X3 rfl 4 (by decide) rfl fl_X4_29 (7 + (σ 7 (12 * s + p)).toNat) (at_mod (i := (σ 7 (12 * s + p))) (by omega)) rfl dX4_bypassedAt_24 ?_
      refine g_topI (hL _) ?_
      refine g_icmp_le (pc := 27) 36 dX4_bypassedAt_27 (by decide) (by omega) (by omega) (fun h_2 => ?_) (fun h_2 => ?_)
      · refine g_iinc (pc := 36) (lv' := [(3, .int (zI (p + 1))), (0, .ref (ad (31 + s.toNat))), (1, .int (zI c)), (2, .int (bitP (fun p => decide (photo σ (memb σ s p) < c)) p.toNat))]) dX4_bypassedAt_36 (by decide) 3 rfl rfl ?_
        refine g_goto (pc := 39) 4 dX4_bypassedAt_39 (by decide) ?_
        refine g_sub (lv' := [(0, .ref (ad (31 + s.toNat))), (1, .int (zI c)), (2, .int (bitP (fun p => decide (photo σ (memb σ s p) < c)) p.toNat)), (3, .int (zI (p + 1)))]) [1, 2, 3, 0] rfl ?_
        refine g_lv (lv' := [(0, .ref (ad (31 + s.toNat))), (1, .int (zI c)), (2, .int (bitP (fun p => decide (photo σ (memb σ s p) < c)) (p + 1).toNat)), (3, .int (zI (p + 1)))]) (by rw [bitP_s _ hp, if_neg (show ¬ (fun p => decide (photo σ (memb σ s p) < c)) p = true by simp only [decide_eq_true_eq]; unfold memb; omega)]) ?_
        exact ih (p + 1) (by omega) (by omega) (by omega)
      · refine g_iload_n (pc := 30) dX4_bypassedAt_30 2 rfl ?_
        refine g_iconst (pc := 31) dX4_bypassedAt_31 ?_
        refine g_iload_n (pc := 32) dX4_bypassedAt_32 3 rfl ?_
        refine g_ishl (pc := 33) dX4_bypassedAt_33 ?_
        refine g_ior (pc := 34) dX4_bypassedAt_34 ?_
        refine g_istore_n (pc := 35) (lv' := [(2, .int ((bitP (fun p => decide (photo σ (memb σ s p) < c)) p.toNat) ||| ((zI 1) <<< ((zI p) &&& 31)))), (0, .ref (ad (31 + s.toNat))), (1, .int (zI c)), (3, .int (zI p))]) dX4_bypassedAt_35 (by decide) rfl ?_
        refine g_iinc (pc := 36) (lv' := [(3, .int (zI (p + 1))), (2, .int ((bitP (fun p => decide (photo σ (memb σ s p) < c)) p.toNat) ||| ((zI 1) <<< ((zI p) &&& 31)))), (0, .ref (ad (31 + s.toNat))), (1, .int (zI c))]) dX4_bypassedAt_36 (by decide) 3 rfl rfl ?_
        refine g_goto (pc := 39) 4 dX4_bypassedAt_39 (by decide) ?_
        refine g_sub (lv' := [(0, .ref (ad (31 + s.toNat))), (1, .int (zI c)), (2, .int ((bitP (fun p => decide (photo σ (memb σ s p) < c)) p.toNat) ||| ((zI 1) <<< ((zI p) &&& 31)))), (3, .int (zI (p + 1)))]) [2, 3, 1, 0] rfl ?_
        refine g_lv (lv' := [(0, .ref (ad (31 + s.toNat))), (1, .int (zI c)), (2, .int (bitP (fun p => decide (photo σ (memb σ s p) < c)) (p + 1).toNat)), (3, .int (zI (p + 1)))]) (by rw [bitP_s _ hp, if_pos (show (fun p => decide (photo σ (memb σ s p) < c)) p = true by simp only [decide_eq_true_eq]; unfold memb; omega)]) ?_
        exact ih (p + 1) (by omega) (by omega) (by omega)
set_option maxRecDepth 100000 in
set_option maxHeartbeats 2000000 in
/-- PvArray$PvString.bypassedAt  -/
theorem c_X4_bypassedAt {D : va_G} {cy : Nat → ClassId} {l : Launch} {ad : Nat → Nat} {σ : Nat → Int → Int} {X : va_W} (hB : Bd σ) (hL : LC σ) (s : Int) (hs : 0 ≤ s ∧ s < 6) (c : Int) (hc : 0 ≤ c ∧ c ≤ 10000) : Con D cy l yX4_bypassedAt cX4_bypassedAt 4 (some .int) rm_X4_bypassedAt [.ref (ad (31 + s.toNat)), .int (zI c)] (CW cy ad σ ++ X) (fun v w' => v = some (.int (byp σ s c)) ∧ w' = CW cy ad σ ++ X) := by
  refine Con.of (lv := [(0, .ref (ad (31 + s.toNat))), (1, .int (zI c))]) (by decide) (Nat.le_of_ble_eq_true rfl) rfl ?_
  have h1 := hB.b6 s
  refine g_iconst (pc := 0) dX4_bypassedAt_0 ?_
  refine g_istore_n (pc := 1) (lv' := [(2, .int (zI 0)), (0, .ref (ad (31 + s.toNat))), (1, .int (zI c))]) dX4_bypassedAt_1 (by decide) rfl ?_
  refine g_iconst (pc := 2) dX4_bypassedAt_2 ?_
  refine g_istore_n (pc := 3) (lv' := [(3, .int (zI 0)), (2, .int (zI 0)), (0, .ref (ad (31 + s.toNat))), (1, .int (zI c))]) dX4_bypassedAt_3 (by decide) rfl ?_
  refine g_sub (lv' := [(0, .ref (ad (31 + s.toNat))), (1, .int (zI c)), (2, .int (zI 0)), (3, .int (zI 0))]) [2, 3, 1, 0] rfl ?_
  exact lp_X4_bypassedAt hB hL s hs c hc ((σ 6 s).toNat + 1) 0 (by omega) (by omega) (by omega)
set_option maxRecDepth 100000 in
set_option maxHeartbeats 2000000 in
/-- PvArray$PvString.isPeak  -/
theorem c_X4_isPeak {D : va_G} {cy : Nat → ClassId} {l : Launch} {ad : Nat → Nat} {σ : Nat → Int → Int} {X : va_W} (hB : Bd σ) (hL : LC σ) (s : Int) (hs : 0 ≤ s ∧ s < 6) (i : Int) (hi : 1 ≤ i ∧ i ≤ limit σ s) : Con D cy l yX4_isPeak cX4_isPeak 5 (some .boolean) rm_X4_isPeak [.ref (ad (31 + s.toNat)), .int (zI i), .int (zI (limit σ s))] (CW cy ad σ ++ X) (rdB (isPk (spow σ s) (limit σ s) i) (CW cy ad σ ++ X)) := by
  refine Con.of (lv := [(0, .ref (ad (31 + s.toNat))), (1, .int (zI i)), (2, .int (zI (limit σ s)))]) (by decide) (Nat.le_of_ble_eq_true rfl) rfl ?_
  have h0 := limit_b hB s
  have h1 := spow_b2 hB s (c := i) (by omega)
  have h2 := spow_b2 hB s (c := i - 1) (by omega)
  have h3 := spow_b2 hB s (c := i + 1) (by omega)
  refine g_aload_n (pc := 0) dX4_isPeak_0 0 rfl ?_
  refine g_iload_n (pc := 1) dX4_isPeak_1 1 rfl ?_
  refine g_callU (pc := 2) (As := [.int (zI i)]) (rest := []) k_X4_45_X4 (c_X0_productAt_str (σ := σ) hB hL s (by omega) i (by omega)) ⟨rfl, rfl, Nat.le_of_ble_eq_true rfl, Nat.le_of_ble_eq_true rfl⟩ (31 + s.toNat) 3 rfl rfl (at_str (s := s) (by omega)) rfl rfl (Nat.le_of_ble_eq_true rfl) dX4_isPeak_2 (fun v_ w_ hq_ => ?_)
  obtain ⟨rfl, rfl⟩ := hq_
  refine g_one ?_
  refine g_lstore_n (pc := 5) (lv' := [(3, .long (zJ (spow σ s i))), (0, .ref (ad (31 + s.toNat))), (1, .int (zI i)), (2, .int (zI (limit σ s)))]) dX4_isPeak_5 (by decide) rfl ?_
  refine g_lload_n (pc := 6) dX4_isPeak_6 0 rfl ?_
  refine g_aload_n (pc := 7) dX4_isPeak_7 1 rfl ?_
  refine g_iload_n (pc := 8) dX4_isPeak_8 2 rfl ?_
  refine g_iconst (pc := 9) dX4_isPeak_9 ?_
  refine g_isub (pc := 10) dX4_isPeak_10 ?_
  refine g_callU (pc := 11) (As := [.int (zI (i - 1))]) (rest := [.long (zJ (spow σ s i))]) k_X4_45_X4 (c_X0_productAt_str (σ := σ) hB hL s (by omega) (i - 1) (by omega)) ⟨rfl, rfl, Nat.le_of_ble_eq_true rfl, Nat.le_of_ble_eq_true rfl⟩ (31 + s.toNat) 3 rfl rfl (at_str (s := s) (by omega)) rfl rfl (Nat.le_of_ble_eq_true rfl) dX4_isPeak_11 (fun v_ w_ hq_ => ?_)
  obtain ⟨rfl, rfl⟩ := hq_
  refine g_one ?_
  refine g_lcmp_le (pc := 14) 39 dX4_isPeak_14 dX4_isPeak_15 (by decide) (by omega) (by omega) (fun h_1 => ?_) (fun h_1 => ?_)
  · refine g_iconst (pc := 39) dX4_isPeak_39 ?_
    exact g_zret (pc := 40) dX4_isPeak_40 rfl rfl (rdB_0 (by intro q; obtain ⟨q1, q2⟩ := q; omega))
  · refine g_iload_n (pc := 18) dX4_isPeak_18 2 rfl ?_
    refine g_iload_n (pc := 19) dX4_isPeak_19 3 rfl ?_
    refine g_icmp_eq (pc := 20) 35 dX4_isPeak_20 (by decide) (by omega) (by omega) (fun h_2 => ?_) (fun h_2 => ?_)
    · refine g_iconst (pc := 35) dX4_isPeak_35 ?_
      refine g_goto (pc := 36) 40 dX4_isPeak_36 (by decide) ?_
      exact g_zret (pc := 40) dX4_isPeak_40 rfl rfl (rdB_1 ⟨by omega, by omega⟩)
    · refine g_lload_n (pc := 23) dX4_isPeak_23 0 rfl ?_
      refine g_aload_n (pc := 24) dX4_isPeak_24 1 rfl ?_
      refine g_iload_n (pc := 25) dX4_isPeak_25 2 rfl ?_
      refine g_iconst (pc := 26) dX4_isPeak_26 ?_
      refine g_iadd (pc := 27) dX4_isPeak_27 ?_
      refine g_callU (pc := 28) (As := [.int (zI (i + 1))]) (rest := [.long (zJ (spow σ s i))]) k_X4_45_X4 (c_X0_productAt_str (σ := σ) hB hL s (by omega) (i + 1) (by omega)) ⟨rfl, rfl, Nat.le_of_ble_eq_true rfl, Nat.le_of_ble_eq_true rfl⟩ (31 + s.toNat) 3 rfl rfl (at_str (s := s) (by omega)) rfl rfl (Nat.le_of_ble_eq_true rfl) dX4_isPeak_28 (fun v_ w_ hq_ => ?_)
      obtain ⟨rfl, rfl⟩ := hq_
      refine g_one ?_
      refine g_lcmp_le (pc := 31) 39 dX4_isPeak_31 dX4_isPeak_32 (by decide) (by omega) (by omega) (fun h_3 => ?_) (fun h_3 => ?_)
      · refine g_iconst (pc := 39) dX4_isPeak_39 ?_
        exact g_zret (pc := 40) dX4_isPeak_40 rfl rfl (rdB_0 (by intro q; obtain ⟨q1, q2⟩ := q; omega))
      · refine g_iconst (pc := 35) dX4_isPeak_35 ?_
        refine g_goto (pc := 36) 40 dX4_isPeak_36 (by decide) ?_
        exact g_zret (pc := 40) dX4_isPeak_40 rfl rfl (rdB_1 ⟨by omega, by omega⟩)
theorem scanT_b (f : Int → Int) {v : Int} (hv : 0 ≤ v) : ∀ (k : Nat) {B : Int}, 0 ≤ B → (∀ j : Nat, j < k → (j : Int) * v ≤ B) → 0 ≤ scanT f v k ∧ scanT f v k ≤ B
  | 0, B, hB, _ => ⟨Int.le_refl _, hB⟩
  | k + 1, B, hB, h => by
    have h1 := scanT_b f hv k hB (fun j hj => h j (by omega))
    have h2 := h k (by omega)
    have h3 : 0 ≤ (k : Int) * v := Int.mul_nonneg (by omega) hv
    unfold scanT
    split
    · exact ⟨h3, h2⟩
    · exact h1
theorem scan_end {k : Nat} {N v : Int} (hN : 0 ≤ N) (hv : 1 ≤ v) (h1 : N < (k : Int) * v) (h2 : (k : Int) * v ≤ N + v) : k = (N / v + 1).toNat := by
  have e1 : N / v * v ≤ N := Int.ediv_mul_le N (by omega)
  have e2 : N < (N / v + 1) * v := Int.lt_ediv_add_one_mul_self N (by omega)
  have a1 : (k : Int) ≤ N / v + 1 := by
    by_cases q : (k : Int) ≤ N / v + 1
    · exact q
    · have : (N / v + 2) * v ≤ (k : Int) * v := Int.mul_le_mul_of_nonneg_right (by omega) (by omega)
      rw [Int.add_mul] at this e2
      omega
  have a2 : N / v + 1 ≤ (k : Int) := by
    by_cases q : N / v + 1 ≤ (k : Int)
    · exact q
    · have : (k : Int) * v ≤ (N / v) * v := Int.mul_le_mul_of_nonneg_right (by omega) (by omega)
      omega
  omega
theorem scan_b (f : Int → Int) {N v : Int} (hN : 0 ≤ N) (hv : 1 ≤ v) : 0 ≤ scan f N v ∧ scan f N v ≤ N := by
  unfold scan
  refine scanT_b f (by omega) _ hN (fun j hj => ?_)
  have e1 : N / v * v ≤ N := Int.ediv_mul_le N (by omega)
  have e3 : 0 ≤ N / v := Int.ediv_nonneg hN (by omega)
  have : (j : Int) * v ≤ (N / v) * v := Int.mul_le_mul_of_nonneg_right (by omega) (by omega)
  omega
theorem mul_lt_mono {j k : Nat} {v : Int} (h : j < k) (hv : 0 ≤ v) : (j : Int) * v + v ≤ (k : Int) * v := by
  have : ((j : Int) + 1) * v ≤ (k : Int) * v := Int.mul_le_mul_of_nonneg_right (by omega) hv
  rw [Int.add_mul, Int.one_mul] at this
  exact this
set_option maxRecDepth 100000 in
set_option maxHeartbeats 2000000 in
/-- PvArray$PvString.bestOfScan, the loop at 13  -/
theorem lp_X4_bestOfScan {D : va_G} {cy : Nat → ClassId} {l : Launch} {ad : Nat → Nat} {σ : Nat → Int → Int} {X : va_W} (hB : Bd σ) (hL : LC σ) (s : Int) (hs : 0 ≤ s ∧ s < 6) (v : Int) (hv : 1 ≤ v ∧ v ≤ 500) : ∀ (n : Nat) (k : Nat), (k : Int) * v ≤ limit σ s + v → (limit σ s + v + 1 - (k : Int) * v).toNat < n → GO D cy l rm_X4_bestOfScan cX4_bestOfScan 9 yX4_bestOfScan.cls (some .int) (CW cy ad σ ++ X) (rdI (scan (spow σ s) (limit σ s) v) (CW cy ad σ ++ X)) (CW cy ad σ ++ X) 13 [(0, .ref (ad (31 + s.toNat))), (1, .int (zI v)), (2, .int (zI (limit σ s))), (3, .int (zI (scanT (spow σ s) v k))), (4, .long (zJ (spow σ s (scanT (spow σ s) v k)))), (6, .int (zI ((k : Int) * v)))] [] := by
  intro n
  induction n with
  | zero =>
    intro k hk hn
    exact absurd hn (Nat.not_lt_zero _)
  | succ n ih =>
    intro k hk hn
    have h0 := limit_b hB s
    have hk0 : 0 ≤ (k : Int) * v := Int.mul_nonneg (by omega) (by omega)
    have hsb := scanT_b (spow σ s) (v := v) (by omega) k (B := limit σ s) h0.1 (fun j hj => by have := mul_lt_mono (v := v) hj (by omega); omega)
    have h1 := spow_b2 hB s (c := scanT (spow σ s) v k) (by omega)
    refine g_iload (pc := 13) dX4_bestOfScan_13 5 rfl ?_
    refine g_iload_n (pc := 15) dX4_bestOfScan_15 2 rfl ?_
    refine g_icmp_gt (pc := 16) 55 dX4_bestOfScan_16 (by decide) (by omega) (by omega) (fun h_1 => ?_) (fun h_1 => ?_)
    · refine g_iload_n (pc := 55) dX4_bestOfScan_55 3 rfl ?_
      exact g_iret (pc := 56) dX4_bestOfScan_56 rfl (rdI_of (by unfold scan; rw [← scan_end h0.1 hv.1 (by omega) hk]))
    · have h2 := spow_b2 hB s (c := (k : Int) * v) (by omega)
      refine g_aload_n (pc := 19) dX4_bestOfScan_19 0 rfl ?_
      refine g_iload (pc := 20) dX4_bestOfScan_20 5 rfl ?_
      refine g_callU (pc := 22) (As := [.int (zI ((k : Int) * v))]) (rest := []) k_X4_45_X4 (c_X0_productAt_str (σ := σ) hB hL s (by omega) ((k : Int) * v) (by omega)) ⟨rfl, rfl, Nat.le_of_ble_eq_true rfl, Nat.le_of_ble_eq_true rfl⟩ (31 + s.toNat) 3 rfl rfl (at_str (s := s) (by omega)) rfl rfl (Nat.le_of_ble_eq_true rfl) dX4_bestOfScan_22 (fun v_ w_ hq_ => ?_)
      obtain ⟨rfl, rfl⟩ := hq_
      refine g_one ?_
      refine g_lstore (pc := 25) (lv' := [(7, .long (zJ (spow σ s ((k : Int) * v)))), (0, .ref (ad (31 + s.toNat))), (1, .int (zI v)), (2, .int (zI (limit σ s))), (3, .int (zI (scanT (spow σ s) v k))), (4, .long (zJ (spow σ s (scanT (spow σ s) v k)))), (6, .int (zI ((k : Int) * v)))]) dX4_bestOfScan_25 (by decide) rfl ?_
      refine g_lload (pc := 27) dX4_bestOfScan_27 0 rfl ?_
      refine g_lload (pc := 29) dX4_bestOfScan_29 5 rfl ?_
      refine g_lcmp_le (pc := 31) 42 dX4_bestOfScan_31 dX4_bestOfScan_32 (by decide) (by omega) (by omega) (fun h_2 => ?_) (fun h_2 => ?_)
      · refine g_iload (pc := 42) dX4_bestOfScan_42 6 rfl ?_
        refine g_iload_n (pc := 44) dX4_bestOfScan_44 2 rfl ?_
        refine g_iconst (pc := 45) dX4_bestOfScan_45 ?_
        refine g_max (pc := 46) ma_max_X4_32 ma_max_s ma_i ma_max_c (Nat.le_of_ble_eq_true rfl) (Nat.le_of_ble_eq_true rfl) (by omega) (by omega) dX4_bestOfScan_46 ?_
        refine g_iadd (pc := 49) dX4_bestOfScan_49 ?_
        refine g_istore (pc := 50) (lv' := [(6, .int (zI (((k : Int) * v) + (max v 1)))), (7, .long (zJ (spow σ s ((k : Int) * v)))), (0, .ref (ad (31 + s.toNat))), (1, .int (zI v)), (2, .int (zI (limit σ s))), (3, .int (zI (scanT (spow σ s) v k))), (4, .long (zJ (spow σ s (scanT (spow σ s) v k))))]) dX4_bestOfScan_50 (by decide) rfl ?_
        refine g_goto (pc := 52) 13 dX4_bestOfScan_52 (by decide) ?_
        refine g_sub (lv' := [(0, .ref (ad (31 + s.toNat))), (1, .int (zI v)), (2, .int (zI (limit σ s))), (3, .int (zI (scanT (spow σ s) v k))), (4, .long (zJ (spow σ s (scanT (spow σ s) v k)))), (6, .int (zI (((k : Int) * v) + (max v 1))))]) [2, 3, 4, 5, 6, 0] rfl ?_
        refine g_lv (lv' := [(0, .ref (ad (31 + s.toNat))), (1, .int (zI v)), (2, .int (zI (limit σ s))), (3, .int (zI (scanT (spow σ s) v (k + 1)))), (4, .long (zJ (spow σ s (scanT (spow σ s) v (k + 1))))), (6, .int (zI (((k + 1 : Nat) : Int) * v)))]) (by rw [scanT, if_neg (by omega)]; rw [show max v 1 = v by omega, show ((k + 1 : Nat) : Int) * v = (k : Int) * v + v by rw [show ((k + 1 : Nat) : Int) = (k : Int) + 1 by omega, Int.add_mul, Int.one_mul]]) ?_
        exact ih (k + 1) (by rw [show ((k + 1 : Nat) : Int) * v = (k : Int) * v + v by rw [show ((k + 1 : Nat) : Int) = (k : Int) + 1 by omega, Int.add_mul, Int.one_mul]]; omega) (by rw [show ((k + 1 : Nat) : Int) * v = (k : Int) * v + v by rw [show ((k + 1 : Nat) : Int) = (k : Int) + 1 by omega, Int.add_mul, Int.one_mul]]; omega)
      · refine g_lload (pc := 35) dX4_bestOfScan_35 0 rfl ?_
        refine g_lstore (pc := 37) (lv' := [(4, .long (zJ (spow σ s ((k : Int) * v)))), (7, .long (zJ (spow σ s ((k : Int) * v)))), (0, .ref (ad (31 + s.toNat))), (1, .int (zI v)), (2, .int (zI (limit σ s))), (3, .int (zI (scanT (spow σ s) v k))), (6, .int (zI ((k : Int) * v)))]) dX4_bestOfScan_37 (by decide) rfl ?_
        refine g_iload (pc := 39) dX4_bestOfScan_39 6 rfl ?_
        refine g_istore_n (pc := 41) (lv' := [(3, .int (zI ((k : Int) * v))), (4, .long (zJ (spow σ s ((k : Int) * v)))), (7, .long (zJ (spow σ s ((k : Int) * v)))), (0, .ref (ad (31 + s.toNat))), (1, .int (zI v)), (2, .int (zI (limit σ s))), (6, .int (zI ((k : Int) * v)))]) dX4_bestOfScan_41 (by decide) rfl ?_
        refine g_iload (pc := 42) dX4_bestOfScan_42 6 rfl ?_
        refine g_iload_n (pc := 44) dX4_bestOfScan_44 4 rfl ?_
        refine g_iconst (pc := 45) dX4_bestOfScan_45 ?_
        refine g_max (pc := 46) ma_max_X4_32 ma_max_s ma_i ma_max_c (Nat.le_of_ble_eq_true rfl) (Nat.le_of_ble_eq_true rfl) (by omega) (by omega) dX4_bestOfScan_46 ?_
        refine g_iadd (pc := 49) dX4_bestOfScan_49 ?_
        refine g_istore (pc := 50) (lv' := [(6, .int (zI (((k : Int) * v) + (max v 1)))), (3, .int (zI ((k : Int) * v))), (4, .long (zJ (spow σ s ((k : Int) * v)))), (7, .long (zJ (spow σ s ((k : Int) * v)))), (0, .ref (ad (31 + s.toNat))), (1, .int (zI v)), (2, .int (zI (limit σ s)))]) dX4_bestOfScan_50 (by decide) rfl ?_
        refine g_goto (pc := 52) 13 dX4_bestOfScan_52 (by decide) ?_
        refine g_sub (lv' := [(0, .ref (ad (31 + s.toNat))), (1, .int (zI v)), (2, .int (zI (limit σ s))), (3, .int (zI ((k : Int) * v))), (4, .long (zJ (spow σ s ((k : Int) * v)))), (6, .int (zI (((k : Int) * v) + (max v 1))))]) [4, 5, 6, 1, 2, 0] rfl ?_
        refine g_lv (lv' := [(0, .ref (ad (31 + s.toNat))), (1, .int (zI v)), (2, .int (zI (limit σ s))), (3, .int (zI (scanT (spow σ s) v (k + 1)))), (4, .long (zJ (spow σ s (scanT (spow σ s) v (k + 1))))), (6, .int (zI (((k + 1 : Nat) : Int) * v)))]) (by rw [scanT, if_pos (by omega)]; rw [show max v 1 = v by omega, show ((k + 1 : Nat) : Int) * v = (k : Int) * v + v by rw [show ((k + 1 : Nat) : Int) = (k : Int) + 1 by omega, Int.add_mul, Int.one_mul]]) ?_
        exact ih (k + 1) (by rw [show ((k + 1 : Nat) : Int) * v = (k : Int) * v + v by rw [show ((k + 1 : Nat) : Int) = (k : Int) + 1 by omega, Int.add_mul, Int.one_mul]]; omega) (by rw [show ((k + 1 : Nat) : Int) * v = (k : Int) * v + v by rw [show ((k + 1 : Nat) : Int) = (k : Int) + 1 by omega, Int.add_mul, Int.one_mul]]; omega)
set_option maxRecDepth 100000 in
set_option maxHeartbeats 2000000 in
/-- PvArray$PvString.bestOfScan  -/
theorem c_X4_bestOfScan {D : va_G} {cy : Nat → ClassId} {l : Launch} {ad : Nat → Nat} {σ : Nat → Int → Int} {X : va_W} (hB : Bd σ) (hL : LC σ) (s : Int) (hs : 0 ≤ s ∧ s < 6) (v : Int) (hv : 1 ≤ v ∧ v ≤ 500) : Con D cy l yX4_bestOfScan cX4_bestOfScan 9 (some .int) rm_X4_bestOfScan [.ref (ad (31 + s.toNat)), .int (zI v)] (CW cy ad σ ++ X) (rdI (scan (spow σ s) (limit σ s) v) (CW cy ad σ ++ X)) := by
  refine Con.of (lv := [(0, .ref (ad (31 + s.toNat))), (1, .int (zI v))]) (by decide) (Nat.le_of_ble_eq_true rfl) rfl ?_
  have h0 := limit_b hB s
  refine g_aload_n (pc := 0) dX4_bestOfScan_0 0 rfl ?_
  refine g_callV (pc := 1) (As := []) (rest := []) k_X4_49_X4 (c_X4_end (σ := σ) hB hL s (by omega)) ⟨rfl, rfl, Nat.le_of_ble_eq_true rfl, Nat.le_of_ble_eq_true rfl⟩ (31 + s.toNat) 3 rfl rfl (at_str (s := s) (by omega)) rfl rfl (Nat.le_of_ble_eq_true rfl) dX4_bestOfScan_1 (fun v_ w_ hq_ => ?_)
  obtain ⟨rfl, rfl⟩ := hq_
  refine g_one ?_
  refine g_istore_n (pc := 4) (lv' := [(2, .int (zI (limit σ s))), (0, .ref (ad (31 + s.toNat))), (1, .int (zI v))]) dX4_bestOfScan_4 (by decide) rfl ?_
  refine g_iconst (pc := 5) dX4_bestOfScan_5 ?_
  refine g_istore_n (pc := 6) (lv' := [(3, .int (zI 0)), (2, .int (zI (limit σ s))), (0, .ref (ad (31 + s.toNat))), (1, .int (zI v))]) dX4_bestOfScan_6 (by decide) rfl ?_
  refine g_lconst (pc := 7) (z := 0) dX4_bestOfScan_7 rfl ?_
  refine g_lstore (pc := 8) (lv' := [(4, .long (zJ 0)), (3, .int (zI 0)), (2, .int (zI (limit σ s))), (0, .ref (ad (31 + s.toNat))), (1, .int (zI v))]) dX4_bestOfScan_8 (by decide) rfl ?_
  refine g_iconst (pc := 10) dX4_bestOfScan_10 ?_
  refine g_istore (pc := 11) (lv' := [(6, .int (zI 0)), (4, .long (zJ 0)), (3, .int (zI 0)), (2, .int (zI (limit σ s))), (0, .ref (ad (31 + s.toNat))), (1, .int (zI v))]) dX4_bestOfScan_11 (by decide) rfl ?_
  refine g_sub (lv' := [(0, .ref (ad (31 + s.toNat))), (1, .int (zI v)), (2, .int (zI (limit σ s))), (3, .int (zI 0)), (4, .long (zJ 0)), (6, .int (zI 0))]) [4, 5, 3, 2, 1, 0] rfl ?_
  refine g_lv (lv' := [(0, .ref (ad (31 + s.toNat))), (1, .int (zI v)), (2, .int (zI (limit σ s))), (3, .int (zI (scanT (spow σ s) v 0))), (4, .long (zJ (spow σ s (scanT (spow σ s) v 0)))), (6, .int (zI (((0 : Nat) : Int) * v)))]) (by rw [show ((0 : Nat) : Int) * v = 0 from Int.zero_mul v, show spow σ s (scanT (spow σ s) v 0) = 0 from Int.zero_mul _]; rfl) ?_
  exact lp_X4_bestOfScan hB hL s hs v hv ((limit σ s + v + 1).toNat + 1) 0 (by rw [show ((0 : Nat) : Int) * v = 0 from Int.zero_mul v]; omega) (by rw [show ((0 : Nat) : Int) * v = 0 from Int.zero_mul v]; omega)
set_option maxRecDepth 100000 in
set_option maxHeartbeats 2000000 in
/-- PvArray$PvString.climbFrom, the loop at 10  -/
theorem lp_X4_climbFrom {D : va_G} {cy : Nat → ClassId} {l : Launch} {ad : Nat → Nat} {σ : Nat → Int → Int} {X : va_W} (hB : Bd σ) (hL : LC σ) (s : Int) (hs : 0 ≤ s ∧ s < 6) (a : Int) (ha : 0 ≤ a ∧ a ≤ limit σ s) : ∀ (n : Nat) (c k : Int), 0 ≤ c → c ≤ limit σ s → 0 ≤ k → k ≤ limit σ s → climbR (spow σ s) (limit σ s) (limit σ s - k).toNat c = climb (spow σ s) (limit σ s) a → (limit σ s - k).toNat < n → GO D cy l rm_X4_climbFrom cX4_climbFrom 7 yX4_climbFrom.cls (some .int) (CW cy ad σ ++ X) (rdI (climb (spow σ s) (limit σ s) a) (CW cy ad σ ++ X)) (CW cy ad σ ++ X) 10 [(0, .ref (ad (31 + s.toNat))), (1, .int (zI a)), (2, .int (zI (limit σ s))), (3, .int (zI c)), (4, .int (zI k))] [] := by
  intro n
  induction n with
  | zero =>
    intro c k hc1 hc2 hk1 hk2 hk3 hn
    exact absurd hn (Nat.not_lt_zero _)
  | succ n ih =>
    intro c k hc1 hc2 hk1 hk2 hk3 hn
    have h0 := limit_b hB s
    have h1 := spow_b2 hB s (c := c) (by omega)
    refine g_iload (pc := 10) dX4_climbFrom_10 4 rfl ?_
    refine g_iload_n (pc := 12) dX4_climbFrom_12 2 rfl ?_
    refine g_icmp_ge (pc := 13) 73 dX4_climbFrom_13 (by decide) (by omega) (by omega) (fun h_1 => ?_) (fun h_1 => ?_)
    · refine g_iload_n (pc := 73) dX4_climbFrom_73 3 rfl ?_
      exact g_iret (pc := 74) dX4_climbFrom_74 rfl (rdI_of (by rw [← hk3]; first | (rw [show (limit σ s - k).toNat = 0 by omega]; rfl) | (rw [show (limit σ s - k).toNat = (limit σ s - (k + 1)).toNat + 1 by omega, climbR, if_neg (by omega), if_neg (by omega)])))
    · refine g_aload_n (pc := 16) dX4_climbFrom_16 0 rfl ?_
      refine g_iload_n (pc := 17) dX4_climbFrom_17 3 rfl ?_
      refine g_callU (pc := 18) (As := [.int (zI c)]) (rest := []) k_X4_45_X4 (c_X0_productAt_str (σ := σ) hB hL s (by omega) c (by omega)) ⟨rfl, rfl, Nat.le_of_ble_eq_true rfl, Nat.le_of_ble_eq_true rfl⟩ (31 + s.toNat) 3 rfl rfl (at_str (s := s) (by omega)) rfl rfl (Nat.le_of_ble_eq_true rfl) dX4_climbFrom_18 (fun v_ w_ hq_ => ?_)
      obtain ⟨rfl, rfl⟩ := hq_
      refine g_one ?_
      refine g_lstore (pc := 21) (lv' := [(5, .long (zJ (spow σ s c))), (0, .ref (ad (31 + s.toNat))), (1, .int (zI a)), (2, .int (zI (limit σ s))), (3, .int (zI c)), (4, .int (zI k))]) dX4_climbFrom_21 (by decide) rfl ?_
      refine g_iload_n (pc := 23) dX4_climbFrom_23 4 rfl ?_
      refine g_iload_n (pc := 24) dX4_climbFrom_24 3 rfl ?_
      refine g_icmp_ge (pc := 25) 47 dX4_climbFrom_25 (by decide) (by omega) (by omega) (fun h_2 => ?_) (fun h_2 => ?_)
      · refine g_iload_n (pc := 47) dX4_climbFrom_47 4 rfl ?_
        refine g_if_le (pc := 48) 73 dX4_climbFrom_48 (by decide) (by omega) (fun h_3 => ?_) (fun h_3 => ?_)
        · refine g_iload_n (pc := 73) dX4_climbFrom_73 4 rfl ?_
          exact g_iret (pc := 74) dX4_climbFrom_74 rfl (rdI_of (by rw [← hk3]; first | (rw [show (limit σ s - k).toNat = 0 by omega]; rfl) | (rw [show (limit σ s - k).toNat = (limit σ s - (k + 1)).toNat + 1 by omega, climbR, if_neg (by omega), if_neg (by omega)])))
        · have h4 := spow_b2 hB s (c := c - 1) (by omega)
          refine g_aload_n (pc := 51) dX4_climbFrom_51 1 rfl ?_
          refine g_iload_n (pc := 52) dX4_climbFrom_52 4 rfl ?_
          refine g_iconst (pc := 53) dX4_climbFrom_53 ?_
          refine g_isub (pc := 54) dX4_climbFrom_54 ?_
          refine g_callU (pc := 55) (As := [.int (zI (c - 1))]) (rest := []) k_X4_45_X4 (c_X0_productAt_str (σ := σ) hB hL s (by omega) (c - 1) (by omega)) ⟨rfl, rfl, Nat.le_of_ble_eq_true rfl, Nat.le_of_ble_eq_true rfl⟩ (31 + s.toNat) 3 rfl rfl (at_str (s := s) (by omega)) rfl rfl (Nat.le_of_ble_eq_true rfl) dX4_climbFrom_55 (fun v_ w_ hq_ => ?_)
          obtain ⟨rfl, rfl⟩ := hq_
          refine g_one ?_
          refine g_lload (pc := 58) dX4_climbFrom_58 0 rfl ?_
          refine g_lcmp_le (pc := 60) 73 dX4_climbFrom_60 dX4_climbFrom_61 (by decide) (by omega) (by omega) (fun h_4 => ?_) (fun h_4 => ?_)
          · refine g_iload_n (pc := 73) dX4_climbFrom_73 4 rfl ?_
            exact g_iret (pc := 74) dX4_climbFrom_74 rfl (rdI_of (by rw [← hk3]; first | (rw [show (limit σ s - k).toNat = 0 by omega]; rfl) | (rw [show (limit σ s - k).toNat = (limit σ s - (k + 1)).toNat + 1 by omega, climbR, if_neg (by omega), if_neg (by omega)])))
          · refine g_iinc (pc := 64) (lv' := [(3, .int (zI (c + (-1)))), (5, .long (zJ (spow σ s c))), (0, .ref (ad (31 + s.toNat))), (1, .int (zI a)), (2, .int (zI (limit σ s))), (4, .int (zI k))]) dX4_climbFrom_64 (by decide) 4 rfl rfl ?_
            refine g_iinc (pc := 67) (lv' := [(4, .int (zI (k + 1))), (3, .int (zI (c + (-1)))), (5, .long (zJ (spow σ s c))), (0, .ref (ad (31 + s.toNat))), (1, .int (zI a)), (2, .int (zI (limit σ s)))]) dX4_climbFrom_67 (by decide) 5 rfl rfl ?_
            refine g_goto (pc := 70) 10 dX4_climbFrom_70 (by decide) ?_
            refine g_sub (lv' := [(0, .ref (ad (31 + s.toNat))), (1, .int (zI a)), (2, .int (zI (limit σ s))), (3, .int (zI (c + (-1)))), (4, .int (zI (k + 1)))]) [3, 4, 5, 1, 0] rfl ?_
            refine g_lv (lv' := [(0, .ref (ad (31 + s.toNat))), (1, .int (zI a)), (2, .int (zI (limit σ s))), (3, .int (zI (c - 1))), (4, .int (zI (k + 1)))]) (by rw [show c + (-1) = c - 1 by omega]) ?_
            exact ih (c - 1) (k + 1) (by omega) (by omega) (by omega) (by omega) (by rw [← hk3, show (limit σ s - k).toNat = (limit σ s - (k + 1)).toNat + 1 by omega, climbR, if_neg (by omega), if_pos ⟨by omega, by omega⟩]) (by omega)
      · have h2 := spow_b2 hB s (c := c + 1) (by omega)
        refine g_aload_n (pc := 28) dX4_climbFrom_28 1 rfl ?_
        refine g_iload_n (pc := 29) dX4_climbFrom_29 4 rfl ?_
        refine g_iconst (pc := 30) dX4_climbFrom_30 ?_
        refine g_iadd (pc := 31) dX4_climbFrom_31 ?_
        refine g_callU (pc := 32) (As := [.int (zI (c + 1))]) (rest := []) k_X4_45_X4 (c_X0_productAt_str (σ := σ) hB hL s (by omega) (c + 1) (by omega)) ⟨rfl, rfl, Nat.le_of_ble_eq_true rfl, Nat.le_of_ble_eq_true rfl⟩ (31 + s.toNat) 3 rfl rfl (at_str (s := s) (by omega)) rfl rfl (Nat.le_of_ble_eq_true rfl) dX4_climbFrom_32 (fun v_ w_ hq_ => ?_)
        obtain ⟨rfl, rfl⟩ := hq_
        refine g_one ?_
        refine g_lload (pc := 35) dX4_climbFrom_35 0 rfl ?_
        refine g_lcmp_le (pc := 37) 47 dX4_climbFrom_37 dX4_climbFrom_38 (by decide) (by omega) (by omega) (fun h_5 => ?_) (fun h_5 => ?_)
        · refine g_iload_n (pc := 47) dX4_climbFrom_47 4 rfl ?_
          refine g_if_le (pc := 48) 73 dX4_climbFrom_48 (by decide) (by omega) (fun h_6 => ?_) (fun h_6 => ?_)
          · refine g_iload_n (pc := 73) dX4_climbFrom_73 4 rfl ?_
            exact g_iret (pc := 74) dX4_climbFrom_74 rfl (rdI_of (by rw [← hk3]; first | (rw [show (limit σ s - k).toNat = 0 by omega]; rfl) | (rw [show (limit σ s - k).toNat = (limit σ s - (k + 1)).toNat + 1 by omega, climbR, if_neg (by omega), if_neg (by omega)])))
          · have h4 := spow_b2 hB s (c := c - 1) (by omega)
            refine g_aload_n (pc := 51) dX4_climbFrom_51 1 rfl ?_
            refine g_iload_n (pc := 52) dX4_climbFrom_52 4 rfl ?_
            refine g_iconst (pc := 53) dX4_climbFrom_53 ?_
            refine g_isub (pc := 54) dX4_climbFrom_54 ?_
            refine g_callU (pc := 55) (As := [.int (zI (c - 1))]) (rest := []) k_X4_45_X4 (c_X0_productAt_str (σ := σ) hB hL s (by omega) (c - 1) (by omega)) ⟨rfl, rfl, Nat.le_of_ble_eq_true rfl, Nat.le_of_ble_eq_true rfl⟩ (31 + s.toNat) 3 rfl rfl (at_str (s := s) (by omega)) rfl rfl (Nat.le_of_ble_eq_true rfl) dX4_climbFrom_55 (fun v_ w_ hq_ => ?_)
            obtain ⟨rfl, rfl⟩ := hq_
            refine g_one ?_
            refine g_lload (pc := 58) dX4_climbFrom_58 0 rfl ?_
            refine g_lcmp_le (pc := 60) 73 dX4_climbFrom_60 dX4_climbFrom_61 (by decide) (by omega) (by omega) (fun h_7 => ?_) (fun h_7 => ?_)
            · refine g_iload_n (pc := 73) dX4_climbFrom_73 4 rfl ?_
              exact g_iret (pc := 74) dX4_climbFrom_74 rfl (rdI_of (by rw [← hk3]; first | (rw [show (limit σ s - k).toNat = 0 by omega]; rfl) | (rw [show (limit σ s - k).toNat = (limit σ s - (k + 1)).toNat + 1 by omega, climbR, if_neg (by omega), if_neg (by omega)])))
            · refine g_iinc (pc := 64) (lv' := [(3, .int (zI (c + (-1)))), (5, .long (zJ (spow σ s c))), (0, .ref (ad (31 + s.toNat))), (1, .int (zI a)), (2, .int (zI (limit σ s))), (4, .int (zI k))]) dX4_climbFrom_64 (by decide) 4 rfl rfl ?_
              refine g_iinc (pc := 67) (lv' := [(4, .int (zI (k + 1))), (3, .int (zI (c + (-1)))), (5, .long (zJ (spow σ s c))), (0, .ref (ad (31 + s.toNat))), (1, .int (zI a)), (2, .int (zI (limit σ s)))]) dX4_climbFrom_67 (by decide) 5 rfl rfl ?_
              refine g_goto (pc := 70) 10 dX4_climbFrom_70 (by decide) ?_
              refine g_sub (lv' := [(0, .ref (ad (31 + s.toNat))), (1, .int (zI a)), (2, .int (zI (limit σ s))), (3, .int (zI (c + (-1)))), (4, .int (zI (k + 1)))]) [3, 4, 5, 1, 0] rfl ?_
              refine g_lv (lv' := [(0, .ref (ad (31 + s.toNat))), (1, .int (zI a)), (2, .int (zI (limit σ s))), (3, .int (zI (c - 1))), (4, .int (zI (k + 1)))]) (by rw [show c + (-1) = c - 1 by omega]) ?_
              exact ih (c - 1) (k + 1) (by omega) (by omega) (by omega) (by omega) (by rw [← hk3, show (limit σ s - k).toNat = (limit σ s - (k + 1)).toNat + 1 by omega, climbR, if_neg (by omega), if_pos ⟨by omega, by omega⟩]) (by omega)
        · refine g_iinc (pc := 41) (lv' := [(3, .int (zI (c + 1))), (5, .long (zJ (spow σ s c))), (0, .ref (ad (31 + s.toNat))), (1, .int (zI a)), (2, .int (zI (limit σ s))), (4, .int (zI k))]) dX4_climbFrom_41 (by decide) 4 rfl rfl ?_
          refine g_goto (pc := 44) 67 dX4_climbFrom_44 (by decide) ?_
          refine g_iinc (pc := 67) (lv' := [(4, .int (zI (k + 1))), (3, .int (zI (c + 1))), (5, .long (zJ (spow σ s c))), (0, .ref (ad (31 + s.toNat))), (1, .int (zI a)), (2, .int (zI (limit σ s)))]) dX4_climbFrom_67 (by decide) 5 rfl rfl ?_
          refine g_goto (pc := 70) 10 dX4_climbFrom_70 (by decide) ?_
          refine g_sub (lv' := [(0, .ref (ad (31 + s.toNat))), (1, .int (zI a)), (2, .int (zI (limit σ s))), (3, .int (zI (c + 1))), (4, .int (zI (k + 1)))]) [3, 4, 5, 1, 0] rfl ?_
          refine g_lv (lv' := [(0, .ref (ad (31 + s.toNat))), (1, .int (zI a)), (2, .int (zI (limit σ s))), (3, .int (zI (c + 1))), (4, .int (zI (k + 1)))]) rfl ?_
          exact ih (c + 1) (k + 1) (by omega) (by omega) (by omega) (by omega) (by rw [← hk3, show (limit σ s - k).toNat = (limit σ s - (k + 1)).toNat + 1 by omega, climbR, if_pos ⟨by omega, by omega⟩]) (by omega)
set_option maxRecDepth 100000 in
set_option maxHeartbeats 2000000 in
/-- PvArray$PvString.climbFrom  -/
theorem c_X4_climbFrom {D : va_G} {cy : Nat → ClassId} {l : Launch} {ad : Nat → Nat} {σ : Nat → Int → Int} {X : va_W} (hB : Bd σ) (hL : LC σ) (s : Int) (hs : 0 ≤ s ∧ s < 6) (a : Int) (ha : 0 ≤ a ∧ a ≤ limit σ s) : Con D cy l yX4_climbFrom cX4_climbFrom 7 (some .int) rm_X4_climbFrom [.ref (ad (31 + s.toNat)), .int (zI a)] (CW cy ad σ ++ X) (rdI (climb (spow σ s) (limit σ s) a) (CW cy ad σ ++ X)) := by
  refine Con.of (lv := [(0, .ref (ad (31 + s.toNat))), (1, .int (zI a))]) (by decide) (Nat.le_of_ble_eq_true rfl) rfl ?_
  have h0 := limit_b hB s
  refine g_aload_n (pc := 0) dX4_climbFrom_0 0 rfl ?_
  refine g_callV (pc := 1) (As := []) (rest := []) k_X4_49_X4 (c_X4_end (σ := σ) hB hL s (by omega)) ⟨rfl, rfl, Nat.le_of_ble_eq_true rfl, Nat.le_of_ble_eq_true rfl⟩ (31 + s.toNat) 3 rfl rfl (at_str (s := s) (by omega)) rfl rfl (Nat.le_of_ble_eq_true rfl) dX4_climbFrom_1 (fun v_ w_ hq_ => ?_)
  obtain ⟨rfl, rfl⟩ := hq_
  refine g_one ?_
  refine g_istore_n (pc := 4) (lv' := [(2, .int (zI (limit σ s))), (0, .ref (ad (31 + s.toNat))), (1, .int (zI a))]) dX4_climbFrom_4 (by decide) rfl ?_
  refine g_iload_n (pc := 5) dX4_climbFrom_5 2 rfl ?_
  refine g_istore_n (pc := 6) (lv' := [(3, .int (zI a)), (2, .int (zI (limit σ s))), (0, .ref (ad (31 + s.toNat))), (1, .int (zI a))]) dX4_climbFrom_6 (by decide) rfl ?_
  refine g_iconst (pc := 7) dX4_climbFrom_7 ?_
  refine g_istore (pc := 8) (lv' := [(4, .int (zI 0)), (3, .int (zI a)), (2, .int (zI (limit σ s))), (0, .ref (ad (31 + s.toNat))), (1, .int (zI a))]) dX4_climbFrom_8 (by decide) rfl ?_
  refine g_sub (lv' := [(0, .ref (ad (31 + s.toNat))), (1, .int (zI a)), (2, .int (zI (limit σ s))), (3, .int (zI a)), (4, .int (zI 0))]) [3, 4, 2, 1, 0] rfl ?_
  exact lp_X4_climbFrom hB hL s hs a ha ((limit σ s).toNat + 1) a 0 (by omega) (by omega) (by omega) (by omega) (by unfold climb; rw [show limit σ s - 0 = limit σ s by omega]) (by omega)
set_option maxRecDepth 100000 in
set_option maxHeartbeats 2000000 in
/-- PvArray$PvString.deliveredAt, the loop at 7  -/
theorem lp_X4_deliveredAt {D : va_G} {cy : Nat → ClassId} {l : Launch} {ad : Nat → Nat} {σ : Nat → Int → Int} {X : va_W} (hB : Bd σ) (hL : LC σ) (s : Int) (hs : 0 ≤ s ∧ s < 6) (v : Int) (hv : 0 ≤ v ∧ v ≤ 7200) : ∀ (n : Nat) (lo hi : Int), 0 ≤ lo → lo ≤ hi → hi ≤ limit σ s → (lo = 0 ∨ v ≤ svolt σ s lo) → (∀ i, hi < i → i ≤ limit σ s → svolt σ s i < v) → (hi - lo).toNat < n → GO D cy l rm_X4_deliveredAt cX4_deliveredAt 5 yX4_deliveredAt.cls (some .int) (CW cy ad σ ++ X) (rdI (dlv σ s v) (CW cy ad σ ++ X)) (CW cy ad σ ++ X) 7 [(0, .ref (ad (31 + s.toNat))), (1, .int (zI v)), (2, .int (zI lo)), (3, .int (zI hi))] [] := by
  intro n
  induction n with
  | zero =>
    intro lo hi h1 h2 h5 h3 h4 hn
    exact absurd hn (Nat.not_lt_zero _)
  | succ n ih =>
    intro lo hi h1 h2 h5 h3 h4 hn
    have h0 := limit_b hB s
    refine g_iload_n (pc := 7) dX4_deliveredAt_7 2 rfl ?_
    refine g_iload_n (pc := 8) dX4_deliveredAt_8 3 rfl ?_
    refine g_icmp_ge (pc := 9) 45 dX4_deliveredAt_9 (by decide) (by omega) (by omega) (fun h_1 => ?_) (fun h_1 => ?_)
    · refine g_iload_n (pc := 45) dX4_deliveredAt_45 2 rfl ?_
      exact g_iret (pc := 46) dX4_deliveredAt_46 rfl (rdI_of (by unfold dlv; exact (dlvT_eq _ h1 (by omega) h3 (fun i q1 q2 => h4 i (by omega) (by omega))).symm))
    · refine g_iload_n (pc := 12) dX4_deliveredAt_12 2 rfl ?_
      refine g_iload_n (pc := 13) dX4_deliveredAt_13 3 rfl ?_
      refine g_iadd (pc := 14) dX4_deliveredAt_14 ?_
      refine g_iconst (pc := 15) dX4_deliveredAt_15 ?_
      refine g_iadd (pc := 16) dX4_deliveredAt_16 ?_
      refine g_iconst (pc := 17) dX4_deliveredAt_17 ?_
      refine g_idiv (pc := 18) dX4_deliveredAt_18 (by omega) (by omega) ?_
      refine g_istore (pc := 19) (lv' := [(4, .int (zI (((lo + hi) + 1) / 2))), (0, .ref (ad (31 + s.toNat))), (1, .int (zI v)), (2, .int (zI lo)), (3, .int (zI hi))]) dX4_deliveredAt_19 (by decide) rfl ?_
      have v1 := svolt_b hB s (c := (lo + hi + 1) / 2) (by omega)
      refine g_aload_n (pc := 21) dX4_deliveredAt_21 1 rfl ?_
      refine g_iload (pc := 22) dX4_deliveredAt_22 0 rfl ?_
      refine g_callV (pc := 24) (As := [.int (zI (((lo + hi) + 1) / 2))]) (rest := []) k_X4_53_X4 (c_X4_valueAt (σ := σ) hB hL s (by omega) (((lo + hi) + 1) / 2) (by omega)) ⟨rfl, rfl, Nat.le_of_ble_eq_true rfl, Nat.le_of_ble_eq_true rfl⟩ (31 + s.toNat) 3 rfl rfl (at_str (s := s) (by omega)) rfl rfl (Nat.le_of_ble_eq_true rfl) dX4_deliveredAt_24 (fun v_ w_ hq_ => ?_)
      obtain ⟨rfl, rfl⟩ := hq_
      refine g_one ?_
      refine g_iload_n (pc := 27) dX4_deliveredAt_27 2 rfl ?_
      refine g_icmp_lt (pc := 28) 37 dX4_deliveredAt_28 (by decide) (by omega) (by omega) (fun h_2 => ?_) (fun h_2 => ?_)
      · refine g_iload (pc := 37) dX4_deliveredAt_37 0 rfl ?_
        refine g_iconst (pc := 39) dX4_deliveredAt_39 ?_
        refine g_isub (pc := 40) dX4_deliveredAt_40 ?_
        refine g_istore_n (pc := 41) (lv' := [(3, .int (zI ((((lo + hi) + 1) / 2) - 1))), (4, .int (zI (((lo + hi) + 1) / 2))), (0, .ref (ad (31 + s.toNat))), (1, .int (zI v)), (2, .int (zI lo))]) dX4_deliveredAt_41 (by decide) rfl ?_
        refine g_goto (pc := 42) 7 dX4_deliveredAt_42 (by decide) ?_
        refine g_sub (lv' := [(0, .ref (ad (31 + s.toNat))), (1, .int (zI v)), (2, .int (zI lo)), (3, .int (zI ((((lo + hi) + 1) / 2) - 1)))]) [2, 3, 4, 0] rfl ?_
        exact ih lo ((((lo + hi) + 1) / 2) - 1) (by omega) (by omega) (by omega) (h3) (fun i q1 q2 => by have := svolt_Mono hB s (limit σ s) ((lo + hi + 1) / 2) i (by omega) (by omega) q2; omega) (by omega)
      · refine g_iload (pc := 31) dX4_deliveredAt_31 0 rfl ?_
        refine g_istore_n (pc := 33) (lv' := [(2, .int (zI (((lo + hi) + 1) / 2))), (4, .int (zI (((lo + hi) + 1) / 2))), (0, .ref (ad (31 + s.toNat))), (1, .int (zI v)), (3, .int (zI hi))]) dX4_deliveredAt_33 (by decide) rfl ?_
        refine g_goto (pc := 34) 42 dX4_deliveredAt_34 (by decide) ?_
        refine g_goto (pc := 42) 7 dX4_deliveredAt_42 (by decide) ?_
        refine g_sub (lv' := [(0, .ref (ad (31 + s.toNat))), (1, .int (zI v)), (2, .int (zI (((lo + hi) + 1) / 2))), (3, .int (zI hi))]) [2, 3, 0, 4] rfl ?_
        exact ih (((lo + hi) + 1) / 2) hi (by omega) (by omega) (by omega) (Or.inr (by omega)) h4 (by omega)
set_option maxRecDepth 100000 in
set_option maxHeartbeats 2000000 in
/-- PvArray$PvString.deliveredAt  -/
theorem c_X4_deliveredAt {D : va_G} {cy : Nat → ClassId} {l : Launch} {ad : Nat → Nat} {σ : Nat → Int → Int} {X : va_W} (hB : Bd σ) (hL : LC σ) (s : Int) (hs : 0 ≤ s ∧ s < 6) (v : Int) (hv : 0 ≤ v ∧ v ≤ 7200) : Con D cy l yX4_deliveredAt cX4_deliveredAt 5 (some .int) rm_X4_deliveredAt [.ref (ad (31 + s.toNat)), .int (zI v)] (CW cy ad σ ++ X) (rdI (dlv σ s v) (CW cy ad σ ++ X)) := by
  refine Con.of (lv := [(0, .ref (ad (31 + s.toNat))), (1, .int (zI v))]) (by decide) (Nat.le_of_ble_eq_true rfl) rfl ?_
  have h0 := limit_b hB s
  refine g_iconst (pc := 0) dX4_deliveredAt_0 ?_
  refine g_istore_n (pc := 1) (lv' := [(2, .int (zI 0)), (0, .ref (ad (31 + s.toNat))), (1, .int (zI v))]) dX4_deliveredAt_1 (by decide) rfl ?_
  refine g_aload_n (pc := 2) dX4_deliveredAt_2 1 rfl ?_
  refine g_callV (pc := 3) (As := []) (rest := []) k_X4_49_X4 (c_X4_end (σ := σ) hB hL s (by omega)) ⟨rfl, rfl, Nat.le_of_ble_eq_true rfl, Nat.le_of_ble_eq_true rfl⟩ (31 + s.toNat) 3 rfl rfl (at_str (s := s) (by omega)) rfl rfl (Nat.le_of_ble_eq_true rfl) dX4_deliveredAt_3 (fun v_ w_ hq_ => ?_)
  obtain ⟨rfl, rfl⟩ := hq_
  refine g_one ?_
  refine g_istore_n (pc := 6) (lv' := [(3, .int (zI (limit σ s))), (2, .int (zI 0)), (0, .ref (ad (31 + s.toNat))), (1, .int (zI v))]) dX4_deliveredAt_6 (by decide) rfl ?_
  refine g_sub (lv' := [(0, .ref (ad (31 + s.toNat))), (1, .int (zI v)), (2, .int (zI 0)), (3, .int (zI (limit σ s)))]) [2, 3, 1, 0] rfl ?_
  exact lp_X4_deliveredAt hB hL s hs v hv ((limit σ s).toNat + 1) 0 (limit σ s) (by omega) (by omega) (by omega) (Or.inl rfl) (fun i q1 q2 => absurd q1 (by omega)) (by omega)
set_option maxRecDepth 100000 in
set_option maxHeartbeats 2000000 in
/-- PvArray$Parallel.valueAt, the loop at 4  -/
theorem lp_X2_valueAt {D : va_G} {cy : Nat → ClassId} {l : Launch} {ad : Nat → Nat} {σ : Nat → Int → Int} {X : va_W} (hB : Bd σ) (hL : LC σ) (v : Int) (hv : 0 ≤ v ∧ v ≤ 7200) : ∀ (n : Nat) (k : Int), 0 ≤ k → k ≤ σ 0 2 → (σ 0 2 - k).toNat < n → GO D cy l rm_X2_valueAt cX2_valueAt 4 yX2_valueAt.cls (some .int) (CW cy ad σ ++ X) (rdI (acur σ v) (CW cy ad σ ++ X)) (CW cy ad σ ++ X) 4 [(0, .ref (ad 4)), (1, .int (zI v)), (2, .int (zI (sumP (fun s => dlv σ s v) k.toNat))), (3, .int (zI k))] [] := by
  intro n
  induction n with
  | zero =>
    intro k hk hk2 hn
    exact absurd hn (Nat.not_lt_zero _)
  | succ n ih =>
    intro k hk hk2 hn
    have h0 := hB.sc
    have h1 := dlv_b hB k v
    have h2 := ac_b hB v (n := k.toNat) (by omega)
    refine g_iload_n (pc := 4) dX2_valueAt_4 3 rfl ?_
    refine g_aload_n (pc := 5) dX2_valueAt_5 0 rfl ?_
    refine g_get (pc := 6) (ci := 1) inG_X2 rfl 1 (by decide) rfl fl_X2_9 (4) at_par rfl dX2_valueAt_6 ?_
    refine g_icmp_ge (pc := 9) 31 dX2_valueAt_9 (by decide) (by omega) (by omega) (fun h_1 => ?_) (fun h_1 => ?_)
    · refine g_iload_n (pc := 31) dX2_valueAt_31 2 rfl ?_
      exact g_iret (pc := 32) dX2_valueAt_32 rfl (rdI_of (by unfold acur; rw [show k = σ 0 2 by omega]))
    · refine g_iload_n (pc := 12) dX2_valueAt_12 2 rfl ?_
      refine g_aload_n (pc := 13) dX2_valueAt_13 0 rfl ?_
      refine g_get (pc := 14) (ci := 1) inG_X2 rfl 0 (by decide) rfl fl_X2_15 (4) at_par rfl dX2_valueAt_14 ?_
      refine g_iload_n (pc := 17) dX2_valueAt_17 3 rfl ?_
      refine g_aald (pc := 18) 3 4 at_strs rfl (by omega) (by decide) rfl dX2_valueAt_18 ?_
      refine g_iload_n (pc := 19) dX2_valueAt_19 1 rfl ?_
      refine g_callN (pc := 20) (As := [.int (zI v)]) (rest := [.int (zI (sumP (fun s => dlv σ s v) k.toNat))]) k_X2_19_X4 (c_X4_deliveredAt (σ := σ) hB hL k (by omega) v (by omega)) ⟨rfl, rfl, Nat.le_of_ble_eq_true rfl, Nat.le_of_ble_eq_true rfl⟩ (31 + k.toNat) 3 rfl rfl (at_str (s := k) (by omega)) rfl rfl (Nat.le_of_ble_eq_true rfl) dX2_valueAt_20 (fun v_ w_ hq_ => ?_)
      obtain ⟨rfl, rfl⟩ := hq_
      refine g_one ?_
      refine g_iadd (pc := 23) dX2_valueAt_23 ?_
      refine g_istore_n (pc := 24) (lv' := [(2, .int (zI ((sumP (fun s => dlv σ s v) k.toNat) + (dlv σ k v)))), (0, .ref (ad 4)), (1, .int (zI v)), (3, .int (zI k))]) dX2_valueAt_24 (by decide) rfl ?_
      refine g_iinc (pc := 25) (lv' := [(3, .int (zI (k + 1))), (2, .int (zI ((sumP (fun s => dlv σ s v) k.toNat) + (dlv σ k v)))), (0, .ref (ad 4)), (1, .int (zI v))]) dX2_valueAt_25 (by decide) 3 rfl rfl ?_
      refine g_goto (pc := 28) 4 dX2_valueAt_28 (by decide) ?_
      refine g_sub (lv' := [(0, .ref (ad 4)), (1, .int (zI v)), (2, .int (zI ((sumP (fun s => dlv σ s v) k.toNat) + (dlv σ k v)))), (3, .int (zI (k + 1)))]) [2, 3, 1, 0] rfl ?_
      refine g_lv (lv' := [(0, .ref (ad 4)), (1, .int (zI v)), (2, .int (zI (sumP (fun s => dlv σ s v) (k + 1).toNat))), (3, .int (zI (k + 1)))]) (by rw [sumP_s _ hk]) ?_
      exact ih (k + 1) (by omega) (by omega) (by omega)
set_option maxRecDepth 100000 in
set_option maxHeartbeats 2000000 in
/-- PvArray$Parallel.valueAt  -/
theorem c_X2_valueAt {D : va_G} {cy : Nat → ClassId} {l : Launch} {ad : Nat → Nat} {σ : Nat → Int → Int} {X : va_W} (hB : Bd σ) (hL : LC σ) (v : Int) (hv : 0 ≤ v ∧ v ≤ 7200) : Con D cy l yX2_valueAt cX2_valueAt 4 (some .int) rm_X2_valueAt [.ref (ad 4), .int (zI v)] (CW cy ad σ ++ X) (rdI (acur σ v) (CW cy ad σ ++ X)) := by
  refine Con.of (lv := [(0, .ref (ad 4)), (1, .int (zI v))]) (by decide) (Nat.le_of_ble_eq_true rfl) rfl ?_
  have h0 := hB.sc
  refine g_iconst (pc := 0) dX2_valueAt_0 ?_
  refine g_istore_n (pc := 1) (lv' := [(2, .int (zI 0)), (0, .ref (ad 4)), (1, .int (zI v))]) dX2_valueAt_1 (by decide) rfl ?_
  refine g_iconst (pc := 2) dX2_valueAt_2 ?_
  refine g_istore_n (pc := 3) (lv' := [(3, .int (zI 0)), (2, .int (zI 0)), (0, .ref (ad 4)), (1, .int (zI v))]) dX2_valueAt_3 (by decide) rfl ?_
  refine g_sub (lv' := [(0, .ref (ad 4)), (1, .int (zI v)), (2, .int (zI 0)), (3, .int (zI 0))]) [2, 3, 1, 0] rfl ?_
  exact lp_X2_valueAt hB hL v hv ((σ 0 2).toNat + 1) 0 (by omega) (by omega) (by omega)
set_option maxRecDepth 100000 in
set_option maxHeartbeats 2000000 in
/-- PvArray$Parallel.end  -/
theorem c_X2_end {D : va_G} {cy : Nat → ClassId} {l : Launch} {ad : Nat → Nat} {σ : Nat → Int → Int} {X : va_W}  : Con D cy l yX2_end cX2_end 1 (some .int) rm_X2_end [.ref (ad 4)] (CW cy ad σ ++ X) (rdI 7200 (CW cy ad σ ++ X)) := by
  refine Con.of (lv := [(0, .ref (ad 4))]) (by decide) (Nat.le_of_ble_eq_true rfl) rfl ?_
  refine g_sipush (pc := 0) dX2_end_0 (by omega) ?_
  exact g_iret (pc := 3) dX2_end_3 rfl (rdI_of rfl)
set_option maxRecDepth 100000 in
set_option maxHeartbeats 2000000 in
/-- PvArray$Curve.bestPoint, the loop at 58  -/
theorem lp_X0_best_par {D : va_G} {cy : Nat → ClassId} {l : Launch} {ad : Nat → Nat} {σ : Nat → Int → Int} {X : va_W} (hB : Bd σ) (hL : LC σ)  : ∀ (n : Nat) (tb be pt : Int), BP (acur σ) (7200) tb be pt → (7200 + 1 - pt).toNat < n → GO D cy l rm_X0_bestPoint cX0_bestPoint 8 yX0_bestPoint.cls (some .int) (CW cy ad σ ++ X) (rdI (bestV σ) (CW cy ad σ ++ X)) (CW cy ad σ ++ X) 58 [(0, .ref (ad 4)), (1, .int (zI 7200)), (2, .int (zI (7200 / 32 + 1))), (3, .long (zJ tb)), (5, .int (zI be)), (6, .int (zI pt))] [] := by
  intro n
  induction n with
  | zero =>
    intro tb be pt hbp hn
    exact absurd hn (Nat.not_lt_zero _)
  | succ n ih =>
    intro tb be pt hbp hn
    have n1 := (show (0 : Int) ≤ 7200 ∧ (7200 : Int) ≤ 7200 by omega)
    obtain ⟨b1, b2, b3, b4, b5, b6, -⟩ := id hbp
    refine g_iload (pc := 58) dX0_bestPoint_58 5 rfl ?_
    refine g_iload_n (pc := 60) dX0_bestPoint_60 1 rfl ?_
    refine g_icmp_gt (pc := 61) 125 dX0_bestPoint_61 (by decide) (by omega) (by omega) (fun h_1 => ?_) (fun h_1 => ?_)
    · refine g_iload (pc := 125) dX0_bestPoint_125 4 rfl ?_
      exact g_iret (pc := 127) dX0_bestPoint_127 rfl (rdI_of (IsBest.eq (f := apow σ) ((show (0 : Int) ≤ 7200 ∧ (7200 : Int) ≤ 7200 by omega)).1 (hbp.out (by omega))))
    · refine g_aload_n (pc := 64) dX0_bestPoint_64 0 rfl ?_
      refine g_iload (pc := 65) dX0_bestPoint_65 5 rfl ?_
      refine g_callU (pc := 67) (As := [.int (zI pt)]) (rest := []) k_X0_9_X2 (c_X2_valueAt (σ := σ) hB hL pt (by omega)) ⟨rfl, rfl, Nat.le_of_ble_eq_true rfl, Nat.le_of_ble_eq_true rfl⟩ (4) 1 rfl rfl at_par rfl rfl (Nat.le_of_ble_eq_true rfl) dX0_bestPoint_67 (fun v_ w_ hq_ => ?_)
      obtain ⟨rfl, rfl⟩ := hq_
      refine g_one ?_
      have v1 := acur_b hB pt
      have v2 : -1728000 ≤ pt * acur σ pt ∧ pt * acur σ pt ≤ 51840000 := apow_b hB (c := pt) (by omega)
      refine g_istore (pc := 70) (lv' := [(7, .int (zI (acur σ pt))), (0, .ref (ad 4)), (1, .int (zI 7200)), (2, .int (zI (7200 / 32 + 1))), (3, .long (zJ tb)), (5, .int (zI be)), (6, .int (zI pt))]) dX0_bestPoint_70 (by decide) rfl ?_
      refine g_iload (pc := 72) dX0_bestPoint_72 0 rfl ?_
      refine g_if_gt (pc := 74) 80 dX0_bestPoint_74 (by decide) (by omega) (fun h_2 => ?_) (fun h_2 => ?_)
      · refine g_iload (pc := 80) dX0_bestPoint_80 6 rfl ?_
        refine g_i2l (pc := 82) dX0_bestPoint_82 (by omega) ?_
        refine g_iload (pc := 83) dX0_bestPoint_83 0 rfl ?_
        refine g_i2l (pc := 85) dX0_bestPoint_85 (by omega) ?_
        refine g_lmul (pc := 86) dX0_bestPoint_86 ?_
        refine g_lload_n (pc := 87) dX0_bestPoint_87 4 rfl ?_
        refine g_lcmp_le (pc := 88) 104 dX0_bestPoint_88 dX0_bestPoint_89 (by decide) (by omega) (by omega) (fun h_3 => ?_) (fun h_3 => ?_)
        · have v3 : 0 ≤ tb ∧ tb ≤ 52000000 := by first | omega | (have := hbp.nn (by omega); omega)
          have v4 := div_b v3 (show 0 < acur σ pt by omega)
          refine g_iload (pc := 104) dX0_bestPoint_104 6 rfl ?_
          refine g_i2l (pc := 106) dX0_bestPoint_106 (by omega) ?_
          refine g_lconst (pc := 107) (z := 1) dX0_bestPoint_107 rfl ?_
          refine g_ladd (pc := 108) dX0_bestPoint_108 ?_
          refine g_lload_n (pc := 109) dX0_bestPoint_109 4 rfl ?_
          refine g_iload (pc := 110) dX0_bestPoint_110 0 rfl ?_
          refine g_i2l (pc := 112) dX0_bestPoint_112 (by omega) ?_
          refine g_ldiv (pc := 113) dX0_bestPoint_113 (by omega) (by omega) ?_
          refine g_lconst (pc := 114) (z := 1) dX0_bestPoint_114 rfl ?_
          refine g_ladd (pc := 115) dX0_bestPoint_115 ?_
          refine g_maxl (pc := 116) ma_maxl_X0_28 ma_maxl_s ma_i ma_maxl_c (Nat.le_of_ble_eq_true rfl) (Nat.le_of_ble_eq_true rfl) (by omega) (by omega) dX0_bestPoint_116 ?_
          refine g_l2i (pc := 119) dX0_bestPoint_119 ?_
          refine g_istore (pc := 120) (lv' := [(6, .int (zI (max (pt + 1) ((tb / (acur σ pt)) + 1)))), (7, .int (zI (acur σ pt))), (0, .ref (ad 4)), (1, .int (zI 7200)), (2, .int (zI (7200 / 32 + 1))), (3, .long (zJ tb)), (5, .int (zI be))]) dX0_bestPoint_120 (by decide) rfl ?_
          refine g_goto (pc := 122) 58 dX0_bestPoint_122 (by decide) ?_
          refine g_sub (lv' := [(0, .ref (ad 4)), (1, .int (zI 7200)), (2, .int (zI (7200 / 32 + 1))), (3, .long (zJ tb)), (5, .int (zI be)), (6, .int (zI (max (pt + 1) ((tb / (acur σ pt)) + 1))))]) [2, 3, 4, 5, 6, 0] rfl ?_
          exact ih tb be (max (pt + 1) ((tb / (acur σ pt)) + 1)) (hbp.no (acur_Mono _) (by omega) (by omega) (by omega) (by omega)) (by omega)
        · refine g_iload (pc := 92) dX0_bestPoint_92 6 rfl ?_
          refine g_i2l (pc := 94) dX0_bestPoint_94 (by omega) ?_
          refine g_iload (pc := 95) dX0_bestPoint_95 0 rfl ?_
          refine g_i2l (pc := 97) dX0_bestPoint_97 (by omega) ?_
          refine g_lmul (pc := 98) dX0_bestPoint_98 ?_
          refine g_lstore_n (pc := 99) (lv' := [(3, .long (zJ (pt * (acur σ pt)))), (7, .int (zI (acur σ pt))), (0, .ref (ad 4)), (1, .int (zI 7200)), (2, .int (zI (7200 / 32 + 1))), (5, .int (zI be)), (6, .int (zI pt))]) dX0_bestPoint_99 (by decide) rfl ?_
          refine g_iload (pc := 100) dX0_bestPoint_100 6 rfl ?_
          refine g_istore (pc := 102) (lv' := [(5, .int (zI pt)), (3, .long (zJ (pt * (acur σ pt)))), (7, .int (zI (acur σ pt))), (0, .ref (ad 4)), (1, .int (zI 7200)), (2, .int (zI (7200 / 32 + 1))), (6, .int (zI pt))]) dX0_bestPoint_102 (by decide) rfl ?_
          have v3 : 0 ≤ (pt * (acur σ pt)) ∧ (pt * (acur σ pt)) ≤ 52000000 := by first | omega | (have := hbp.nn (by omega); omega)
          have v4 := div_b v3 (show 0 < acur σ pt by omega)
          refine g_iload (pc := 104) dX0_bestPoint_104 6 rfl ?_
          refine g_i2l (pc := 106) dX0_bestPoint_106 (by omega) ?_
          refine g_lconst (pc := 107) (z := 1) dX0_bestPoint_107 rfl ?_
          refine g_ladd (pc := 108) dX0_bestPoint_108 ?_
          refine g_lload_n (pc := 109) dX0_bestPoint_109 1 rfl ?_
          refine g_iload (pc := 110) dX0_bestPoint_110 2 rfl ?_
          refine g_i2l (pc := 112) dX0_bestPoint_112 (by omega) ?_
          refine g_ldiv (pc := 113) dX0_bestPoint_113 (by omega) (by omega) ?_
          refine g_lconst (pc := 114) (z := 1) dX0_bestPoint_114 rfl ?_
          refine g_ladd (pc := 115) dX0_bestPoint_115 ?_
          refine g_maxl (pc := 116) ma_maxl_X0_28 ma_maxl_s ma_i ma_maxl_c (Nat.le_of_ble_eq_true rfl) (Nat.le_of_ble_eq_true rfl) (by omega) (by omega) dX0_bestPoint_116 ?_
          refine g_l2i (pc := 119) dX0_bestPoint_119 ?_
          refine g_istore (pc := 120) (lv' := [(6, .int (zI (max (pt + 1) (((pt * (acur σ pt)) / (acur σ pt)) + 1)))), (5, .int (zI pt)), (3, .long (zJ (pt * (acur σ pt)))), (7, .int (zI (acur σ pt))), (0, .ref (ad 4)), (1, .int (zI 7200)), (2, .int (zI (7200 / 32 + 1)))]) dX0_bestPoint_120 (by decide) rfl ?_
          refine g_goto (pc := 122) 58 dX0_bestPoint_122 (by decide) ?_
          refine g_sub (lv' := [(0, .ref (ad 4)), (1, .int (zI 7200)), (2, .int (zI (7200 / 32 + 1))), (3, .long (zJ (pt * (acur σ pt)))), (5, .int (zI pt)), (6, .int (zI (max (pt + 1) (((pt * (acur σ pt)) / (acur σ pt)) + 1))))]) [4, 5, 6, 2, 1, 0] rfl ?_
          exact ih (pt * (acur σ pt)) pt (max (pt + 1) (((pt * (acur σ pt)) / (acur σ pt)) + 1)) (hbp.yes (acur_Mono _) (by omega) (by omega) (by omega) (by omega) (by omega)) (by omega)
      · refine g_goto (pc := 77) 125 dX0_bestPoint_77 (by decide) ?_
        refine g_iload (pc := 125) dX0_bestPoint_125 5 rfl ?_
        exact g_iret (pc := 127) dX0_bestPoint_127 rfl (rdI_of (IsBest.eq (f := apow σ) ((show (0 : Int) ≤ 7200 ∧ (7200 : Int) ≤ 7200 by omega)).1 (hbp.out0 (acur_Mono _) (by omega) (by omega))))
set_option maxRecDepth 100000 in
set_option maxHeartbeats 2000000 in
/-- PvArray$Curve.bestPoint, the loop at 19  -/
theorem lp_X0_coarse_par {D : va_G} {cy : Nat → ClassId} {l : Launch} {ad : Nat → Nat} {σ : Nat → Int → Int} {X : va_W} (hB : Bd σ) (hL : LC σ)  : ∀ (n : Nat) (tb co : Int), CR (acur σ) (7200) tb → 0 ≤ co → co ≤ 20000 → (7200 + 1 - co).toNat < n → GO D cy l rm_X0_bestPoint cX0_bestPoint 8 yX0_bestPoint.cls (some .int) (CW cy ad σ ++ X) (rdI (bestV σ) (CW cy ad σ ++ X)) (CW cy ad σ ++ X) 19 [(0, .ref (ad 4)), (1, .int (zI 7200)), (2, .int (zI (7200 / 32 + 1))), (3, .long (zJ tb)), (5, .int (zI co))] [] := by
  intro n
  induction n with
  | zero =>
    intro tb co hcr hco hco2 hn
    exact absurd hn (Nat.not_lt_zero _)
  | succ n ih =>
    intro tb co hcr hco hco2 hn
    have n1 := (show (0 : Int) ≤ 7200 ∧ (7200 : Int) ≤ 7200 by omega)
    obtain ⟨b1, b2, -⟩ := id hcr
    refine g_iload (pc := 19) dX0_bestPoint_19 4 rfl ?_
    refine g_iload_n (pc := 21) dX0_bestPoint_21 1 rfl ?_
    refine g_icmp_gt (pc := 22) 52 dX0_bestPoint_22 (by decide) (by omega) (by omega) (fun h_1 => ?_) (fun h_1 => ?_)
    · refine g_iconst (pc := 52) dX0_bestPoint_52 ?_
      refine g_istore (pc := 53) (lv' := [(5, .int (zI 0)), (0, .ref (ad 4)), (1, .int (zI 7200)), (2, .int (zI (7200 / 32 + 1))), (3, .long (zJ tb))]) dX0_bestPoint_53 (by decide) rfl ?_
      refine g_iconst (pc := 55) dX0_bestPoint_55 ?_
      refine g_istore (pc := 56) (lv' := [(6, .int (zI 0)), (5, .int (zI 0)), (0, .ref (ad 4)), (1, .int (zI 7200)), (2, .int (zI (7200 / 32 + 1))), (3, .long (zJ tb))]) dX0_bestPoint_56 (by decide) rfl ?_
      refine g_sub (lv' := [(0, .ref (ad 4)), (1, .int (zI 7200)), (2, .int (zI (7200 / 32 + 1))), (3, .long (zJ tb)), (5, .int (zI 0)), (6, .int (zI 0))]) [2, 3, 4, 5, 1, 0] rfl ?_
      exact lp_X0_best_par hB hL  (8000) tb 0 0 (BP.init n1.1 hcr) (by omega)
    · have v1 := acur_b hB co
      have v2 : -1728000 ≤ co * acur σ co ∧ co * acur σ co ≤ 51840000 := apow_b hB (c := co) (by omega)
      refine g_lload_n (pc := 25) dX0_bestPoint_25 3 rfl ?_
      refine g_iload (pc := 26) dX0_bestPoint_26 4 rfl ?_
      refine g_i2l (pc := 28) dX0_bestPoint_28 (by omega) ?_
      refine g_aload_n (pc := 29) dX0_bestPoint_29 0 rfl ?_
      refine g_iload (pc := 30) dX0_bestPoint_30 4 rfl ?_
      refine g_callU (pc := 32) (As := [.int (zI co)]) (rest := [.long (zJ co), .long (zJ tb)]) k_X0_9_X2 (c_X2_valueAt (σ := σ) hB hL co (by omega)) ⟨rfl, rfl, Nat.le_of_ble_eq_true rfl, Nat.le_of_ble_eq_true rfl⟩ (4) 1 rfl rfl at_par rfl rfl (Nat.le_of_ble_eq_true rfl) dX0_bestPoint_32 (fun v_ w_ hq_ => ?_)
      obtain ⟨rfl, rfl⟩ := hq_
      refine g_one ?_
      refine g_i2l (pc := 35) dX0_bestPoint_35 (by omega) ?_
      refine g_lmul (pc := 36) dX0_bestPoint_36 ?_
      refine g_lconst (pc := 37) (z := 1) dX0_bestPoint_37 rfl ?_
      refine g_lsub (pc := 38) dX0_bestPoint_38 ?_
      refine g_maxl (pc := 39) ma_maxl_X0_28 ma_maxl_s ma_i ma_maxl_c (Nat.le_of_ble_eq_true rfl) (Nat.le_of_ble_eq_true rfl) (by omega) (by omega) dX0_bestPoint_39 ?_
      refine g_lstore_n (pc := 42) (lv' := [(3, .long (zJ (max tb ((co * (acur σ co)) - 1)))), (0, .ref (ad 4)), (1, .int (zI 7200)), (2, .int (zI (7200 / 32 + 1))), (5, .int (zI co))]) dX0_bestPoint_42 (by decide) rfl ?_
      refine g_iload (pc := 43) dX0_bestPoint_43 4 rfl ?_
      refine g_iload_n (pc := 45) dX0_bestPoint_45 3 rfl ?_
      refine g_iadd (pc := 46) dX0_bestPoint_46 ?_
      refine g_istore (pc := 47) (lv' := [(5, .int (zI (co + (7200 / 32 + 1)))), (3, .long (zJ (max tb ((co * (acur σ co)) - 1)))), (0, .ref (ad 4)), (1, .int (zI 7200)), (2, .int (zI (7200 / 32 + 1)))]) dX0_bestPoint_47 (by decide) rfl ?_
      refine g_goto (pc := 49) 19 dX0_bestPoint_49 (by decide) ?_
      refine g_sub (lv' := [(0, .ref (ad 4)), (1, .int (zI 7200)), (2, .int (zI (7200 / 32 + 1))), (3, .long (zJ (max tb ((co * (acur σ co)) - 1)))), (5, .int (zI (co + (7200 / 32 + 1))))]) [2, 3, 4, 1, 0] rfl ?_
      exact ih (max tb ((co * (acur σ co)) - 1)) (co + (7200 / 32 + 1)) (hcr.step ⟨by omega, by omega⟩ (by omega)) (by omega) (by omega) (by omega)
set_option maxRecDepth 100000 in
set_option maxHeartbeats 2000000 in
/-- PvArray$Curve.bestPoint  -/
theorem c_X0_bestPoint_par {D : va_G} {cy : Nat → ClassId} {l : Launch} {ad : Nat → Nat} {σ : Nat → Int → Int} {X : va_W} (hB : Bd σ) (hL : LC σ)  : Con D cy l yX0_bestPoint cX0_bestPoint 8 (some .int) rm_X0_bestPoint [.ref (ad 4)] (CW cy ad σ ++ X) (rdI (bestV σ) (CW cy ad σ ++ X)) := by
  refine Con.of (lv := [(0, .ref (ad 4))]) (by decide) (Nat.le_of_ble_eq_true rfl) rfl ?_
  have n1 := (show (0 : Int) ≤ 7200 ∧ (7200 : Int) ≤ 7200 by omega)
  refine g_aload_n (pc := 0) dX0_bestPoint_0 0 rfl ?_
  refine g_callU (pc := 1) (As := []) (rest := []) k_X0_23_X2 (c_X2_end (σ := σ)) ⟨rfl, rfl, Nat.le_of_ble_eq_true rfl, Nat.le_of_ble_eq_true rfl⟩ (4) 1 rfl rfl at_par rfl rfl (Nat.le_of_ble_eq_true rfl) dX0_bestPoint_1 (fun v_ w_ hq_ => ?_)
  obtain ⟨rfl, rfl⟩ := hq_
  refine g_one ?_
  refine g_istore_n (pc := 4) (lv' := [(1, .int (zI 7200)), (0, .ref (ad 4))]) dX0_bestPoint_4 (by decide) rfl ?_
  refine g_iload_n (pc := 5) dX0_bestPoint_5 0 rfl ?_
  refine g_bipush (pc := 6) dX0_bestPoint_6 (by omega) ?_
  refine g_idiv (pc := 8) dX0_bestPoint_8 (by omega) (by omega) ?_
  refine g_iconst (pc := 9) dX0_bestPoint_9 ?_
  refine g_iadd (pc := 10) dX0_bestPoint_10 ?_
  refine g_istore_n (pc := 11) (lv' := [(2, .int (zI ((7200 / 32) + 1))), (1, .int (zI 7200)), (0, .ref (ad 4))]) dX0_bestPoint_11 (by decide) rfl ?_
  refine g_ldc2 (pc := 12) cl_X0_26 dX0_bestPoint_12 ?_
  refine g_lstore_n (pc := 15) (lv' := [(3, .long (zJ (-1))), (2, .int (zI ((7200 / 32) + 1))), (1, .int (zI 7200)), (0, .ref (ad 4))]) dX0_bestPoint_15 (by decide) rfl ?_
  refine g_iconst (pc := 16) dX0_bestPoint_16 ?_
  refine g_istore (pc := 17) (lv' := [(5, .int (zI 0)), (3, .long (zJ (-1))), (2, .int (zI ((7200 / 32) + 1))), (1, .int (zI 7200)), (0, .ref (ad 4))]) dX0_bestPoint_17 (by decide) rfl ?_
  refine g_sub (lv' := [(0, .ref (ad 4)), (1, .int (zI 7200)), (2, .int (zI ((7200 / 32) + 1))), (3, .long (zJ (-1))), (5, .int (zI 0))]) [4, 3, 2, 1, 0] rfl ?_
  exact lp_X0_coarse_par hB hL  (8000) (-1) 0 (CR.zero n1.1) (by omega) (by omega) (by omega)
