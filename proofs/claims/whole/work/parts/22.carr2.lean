set_option maxRecDepth 100000 in
set_option maxHeartbeats 2000000 in
/-- PvArray.peakCount, the loop at 27  -/
theorem lp_X5_peakCount {D : va_G} {cy : Nat → ClassId} {l : Launch} {ad : Nat → Nat} {σ : Nat → Int → Int} {X : va_W} (hB : Bd σ) (hL : LC σ) (s : Int) (hs : 0 ≤ s ∧ s < σ 0 2) : ∀ (n : Nat) (i : Int), 1 ≤ i → i ≤ limit σ s + 1 → (limit σ s + 1 - i).toNat < n → GO D cy l rm_X5_peakCount cX5_peakCount 5 yX5_peakCount.cls (some .int) (CW cy ad σ ++ X) (rdI (a_peakCount σ s) (CW cy ad σ ++ X)) (CW cy ad σ ++ X) 27 [(0, .ref (ad 0)), (1, .int (zI s)), (2, .int (zI (limit σ s))), (3, .int (zI (pkN (spow σ s) (limit σ s) (i - 1).toNat))), (4, .int (zI i))] [] := by
  intro n
  induction n with
  | zero =>
    intro i hi hi2 hn
    exact absurd hn (Nat.not_lt_zero _)
  | succ n ih =>
    intro i hi hi2 hn
    have g1 := hB.sc
    have g2 := hB.mc
    have g3 := limit_b hB s
    have g4 := pkN_b (spow σ s) (limit σ s) (i - 1).toNat
    refine g_iload (pc := 27) dX5_peakCount_27 4 rfl ?_
    refine g_iload_n (pc := 29) dX5_peakCount_29 2 rfl ?_
    refine g_icmp_gt (pc := 30) 57 dX5_peakCount_30 (by decide) (by omega) (by omega) (fun h_1 => ?_) (fun h_1 => ?_)
    · refine g_iload_n (pc := 57) dX5_peakCount_57 3 rfl ?_
      exact g_iret (pc := 58) dX5_peakCount_58 rfl (rdI_of (by unfold a_peakCount; rw [if_pos hs, show i - 1 = limit σ s by omega]))
    · refine g_aload_n (pc := 33) dX5_peakCount_33 0 rfl ?_
      refine g_get (pc := 34) (ci := 4) inG_X5 rfl 3 (by decide) rfl fl_X5_63 (0) at_arr rfl dX5_peakCount_34 ?_
      refine g_iload_n (pc := 37) dX5_peakCount_37 1 rfl ?_
      refine g_aald (pc := 38) 3 4 at_strs rfl (by omega) (by decide) rfl dX5_peakCount_38 ?_
      refine g_iload (pc := 39) dX5_peakCount_39 4 rfl ?_
      refine g_iload_n (pc := 41) dX5_peakCount_41 2 rfl ?_
      refine g_callN (pc := 42) (As := [.int (zI i), .int (zI (limit σ s))]) (rest := []) k_X5_151_X4 (c_X4_isPeak (σ := σ) hB hL s (by omega) i (by omega)) ⟨rfl, rfl, Nat.le_of_ble_eq_true rfl, Nat.le_of_ble_eq_true rfl⟩ (31 + s.toNat) 3 rfl rfl (at_str (s := s) (by omega)) rfl rfl (Nat.le_of_ble_eq_true rfl) dX5_peakCount_42 (fun v_ w_ hq_ => ?_)
      rcases hq_ with ⟨rfl, rfl, hk_2⟩ | ⟨rfl, rfl, hk_2⟩
      · refine g_one ?_
        refine g_if_eqF (pc := 45) 51 dX5_peakCount_45 (by decide) (by omega) (by omega) ?_
        refine g_iinc (pc := 48) (lv' := [(3, .int (zI ((pkN (spow σ s) (limit σ s) (i - 1).toNat) + 1))), (0, .ref (ad 0)), (1, .int (zI s)), (2, .int (zI (limit σ s))), (4, .int (zI i))]) dX5_peakCount_48 (by decide) 3 rfl rfl ?_
        refine g_iinc (pc := 51) (lv' := [(4, .int (zI (i + 1))), (3, .int (zI ((pkN (spow σ s) (limit σ s) (i - 1).toNat) + 1))), (0, .ref (ad 0)), (1, .int (zI s)), (2, .int (zI (limit σ s)))]) dX5_peakCount_51 (by decide) 4 rfl rfl ?_
        refine g_goto (pc := 54) 27 dX5_peakCount_54 (by decide) ?_
        refine g_sub (lv' := [(0, .ref (ad 0)), (1, .int (zI s)), (2, .int (zI (limit σ s))), (3, .int (zI ((pkN (spow σ s) (limit σ s) (i - 1).toNat) + 1))), (4, .int (zI (i + 1)))]) [2, 3, 4, 1, 0] rfl ?_
        refine g_lv (lv' := [(0, .ref (ad 0)), (1, .int (zI s)), (2, .int (zI (limit σ s))), (3, .int (zI (pkN (spow σ s) (limit σ s) (i + 1 - 1).toNat))), (4, .int (zI (i + 1)))]) (by rw [show (i + 1 - 1).toNat = i.toNat by omega, pkN_s _ _ hi, pkB_t hk_2]; rw [if_pos rfl]) ?_
        exact ih (i + 1) (by omega) (by omega) (by omega)
      · refine g_one ?_
        refine g_if_eqT (pc := 45) 51 dX5_peakCount_45 (by decide) (by omega) (by omega) ?_
        refine g_iinc (pc := 51) (lv' := [(4, .int (zI (i + 1))), (0, .ref (ad 0)), (1, .int (zI s)), (2, .int (zI (limit σ s))), (3, .int (zI (pkN (spow σ s) (limit σ s) (i - 1).toNat)))]) dX5_peakCount_51 (by decide) 4 rfl rfl ?_
        refine g_goto (pc := 54) 27 dX5_peakCount_54 (by decide) ?_
        refine g_sub (lv' := [(0, .ref (ad 0)), (1, .int (zI s)), (2, .int (zI (limit σ s))), (3, .int (zI (pkN (spow σ s) (limit σ s) (i - 1).toNat))), (4, .int (zI (i + 1)))]) [1, 2, 3, 4, 0] rfl ?_
        refine g_lv (lv' := [(0, .ref (ad 0)), (1, .int (zI s)), (2, .int (zI (limit σ s))), (3, .int (zI (pkN (spow σ s) (limit σ s) (i + 1 - 1).toNat))), (4, .int (zI (i + 1)))]) (by rw [show (i + 1 - 1).toNat = i.toNat by omega, pkN_s _ _ hi, pkB_f hk_2]; rw [if_neg (by decide), Int.add_zero]) ?_
        exact ih (i + 1) (by omega) (by omega) (by omega)
set_option maxRecDepth 100000 in
set_option maxHeartbeats 2000000 in
/-- PvArray.peakCount  -/
theorem c_X5_peakCount {D : va_G} {cy : Nat → ClassId} {l : Launch} {ad : Nat → Nat} {σ : Nat → Int → Int} {X : va_W} (hB : Bd σ) (hL : LC σ) (s : Int) (hs : -2147483648 ≤ s ∧ s ≤ 2147483647) : Con D cy l yX5_peakCount cX5_peakCount 5 (some .int) rm_X5_peakCount [.ref (ad 0), .int (zI s)] (CW cy ad σ ++ X) (rdI (a_peakCount σ s) (CW cy ad σ ++ X)) := by
  refine Con.of (lv := [(0, .ref (ad 0)), (1, .int (zI s))]) (by decide) (Nat.le_of_ble_eq_true rfl) rfl ?_
  have g1 := hB.sc
  have g2 := hB.mc
  have g3 := limit_b hB s
  refine g_aload_n (pc := 0) dX5_peakCount_0 0 rfl ?_
  refine g_iload_n (pc := 1) dX5_peakCount_1 1 rfl ?_
  refine g_callV (pc := 2) (As := [.int (zI s)]) (rest := []) k_X5_70_X5 (c_X5_isString (σ := σ) hB s (by omega)) ⟨rfl, rfl, Nat.le_of_ble_eq_true rfl, Nat.le_of_ble_eq_true rfl⟩ (0) 4 rfl rfl at_arr rfl rfl (Nat.le_of_ble_eq_true rfl) dX5_peakCount_2 (fun v_ w_ hq_ => ?_)
  rcases hq_ with ⟨rfl, rfl, hs_1⟩ | ⟨rfl, rfl, hs_1⟩
  · refine g_one ?_
    refine g_if_neT (pc := 5) 12 dX5_peakCount_5 (by decide) (by omega) (by omega) ?_
    refine g_aload_n (pc := 12) dX5_peakCount_12 0 rfl ?_
    refine g_get (pc := 13) (ci := 4) inG_X5 rfl 3 (by decide) rfl fl_X5_63 (0) at_arr rfl dX5_peakCount_13 ?_
    refine g_iload_n (pc := 16) dX5_peakCount_16 1 rfl ?_
    refine g_aald (pc := 17) 3 4 at_strs rfl (by omega) (by decide) rfl dX5_peakCount_17 ?_
    refine g_callV (pc := 18) (As := []) (rest := []) k_X5_139_X4 (c_X4_end (σ := σ) hB hL s (by omega)) ⟨rfl, rfl, Nat.le_of_ble_eq_true rfl, Nat.le_of_ble_eq_true rfl⟩ (31 + s.toNat) 3 rfl rfl (at_str (s := s) (by omega)) rfl rfl (Nat.le_of_ble_eq_true rfl) dX5_peakCount_18 (fun v_ w_ hq_ => ?_)
    obtain ⟨rfl, rfl⟩ := hq_
    refine g_one ?_
    refine g_istore_n (pc := 21) (lv' := [(2, .int (zI (limit σ s))), (0, .ref (ad 0)), (1, .int (zI s))]) dX5_peakCount_21 (by decide) rfl ?_
    refine g_iconst (pc := 22) dX5_peakCount_22 ?_
    refine g_istore_n (pc := 23) (lv' := [(3, .int (zI 0)), (2, .int (zI (limit σ s))), (0, .ref (ad 0)), (1, .int (zI s))]) dX5_peakCount_23 (by decide) rfl ?_
    refine g_iconst (pc := 24) dX5_peakCount_24 ?_
    refine g_istore (pc := 25) (lv' := [(4, .int (zI 1)), (3, .int (zI 0)), (2, .int (zI (limit σ s))), (0, .ref (ad 0)), (1, .int (zI s))]) dX5_peakCount_25 (by decide) rfl ?_
    refine g_sub (lv' := [(0, .ref (ad 0)), (1, .int (zI s)), (2, .int (zI (limit σ s))), (3, .int (zI 0)), (4, .int (zI 1))]) [3, 4, 2, 1, 0] rfl ?_
    exact lp_X5_peakCount hB hL s (by omega) ((limit σ s).toNat + 2) 1 (by omega) (by omega) (by omega)
  · refine g_one ?_
    refine g_if_neF (pc := 5) 12 dX5_peakCount_5 (by decide) (by omega) (by omega) ?_
    refine g_sipush (pc := 8) dX5_peakCount_8 (by omega) ?_
    exact g_iret (pc := 11) dX5_peakCount_11 rfl (rdI_of (by unfold a_peakCount; (repeat' split) <;> first | rfl | (exfalso; omega)))
set_option maxRecDepth 100000 in
set_option maxHeartbeats 2000000 in
/-- PvArray.peakCurrent, the loop at 36  -/
theorem lp_X5_peakCurrent {D : va_G} {cy : Nat → ClassId} {l : Launch} {ad : Nat → Nat} {σ : Nat → Int → Int} {X : va_W} (hB : Bd σ) (hL : LC σ) (s : Int) (hs : 0 ≤ s ∧ s < σ 0 2) (k : Int) (hk : 0 ≤ k ∧ k ≤ 2147483647) : ∀ (n : Nat) (b i : Int), 0 ≤ b → b ≤ k → 1 ≤ i → i ≤ limit σ s + 1 → pkS (spow σ s) (limit σ s) (limit σ s + 1 - i).toNat i (k - b) = a_peakCurrent σ s k → (limit σ s + 1 - i).toNat < n → GO D cy l rm_X5_peakCurrent cX5_peakCurrent 6 yX5_peakCurrent.cls (some .int) (CW cy ad σ ++ X) (rdI (a_peakCurrent σ s k) (CW cy ad σ ++ X)) (CW cy ad σ ++ X) 36 [(0, .ref (ad 0)), (1, .int (zI s)), (2, .int (zI k)), (3, .int (zI (limit σ s))), (4, .int (zI b)), (5, .int (zI i))] [] := by
  intro n
  induction n with
  | zero =>
    intro b i hb hb2 hi hi2 ha hn
    exact absurd hn (Nat.not_lt_zero _)
  | succ n ih =>
    intro b i hb hb2 hi hi2 ha hn
    have g1 := hB.sc
    have g2 := hB.mc
    have g3 := limit_b hB s
    refine g_iload (pc := 36) dX5_peakCurrent_36 5 rfl ?_
    refine g_iload_n (pc := 38) dX5_peakCurrent_38 3 rfl ?_
    refine g_icmp_gt (pc := 39) 75 dX5_peakCurrent_39 (by decide) (by omega) (by omega) (fun h_1 => ?_) (fun h_1 => ?_)
    · refine g_sipush (pc := 75) dX5_peakCurrent_75 (by omega) ?_
      exact g_iret (pc := 78) dX5_peakCurrent_78 rfl (rdI_of (by rw [← ha, show (limit σ s + 1 - i).toNat = 0 by omega]; rfl))
    · refine g_aload_n (pc := 42) dX5_peakCurrent_42 0 rfl ?_
      refine g_get (pc := 43) (ci := 4) inG_X5 rfl 3 (by decide) rfl fl_X5_63 (0) at_arr rfl dX5_peakCurrent_43 ?_
      refine g_iload_n (pc := 46) dX5_peakCurrent_46 1 rfl ?_
      refine g_aald (pc := 47) 3 4 at_strs rfl (by omega) (by decide) rfl dX5_peakCurrent_47 ?_
      refine g_iload (pc := 48) dX5_peakCurrent_48 5 rfl ?_
      refine g_iload_n (pc := 50) dX5_peakCurrent_50 3 rfl ?_
      refine g_callN (pc := 51) (As := [.int (zI i), .int (zI (limit σ s))]) (rest := []) k_X5_151_X4 (c_X4_isPeak (σ := σ) hB hL s (by omega) i (by omega)) ⟨rfl, rfl, Nat.le_of_ble_eq_true rfl, Nat.le_of_ble_eq_true rfl⟩ (31 + s.toNat) 3 rfl rfl (at_str (s := s) (by omega)) rfl rfl (Nat.le_of_ble_eq_true rfl) dX5_peakCurrent_51 (fun v_ w_ hq_ => ?_)
      rcases hq_ with ⟨rfl, rfl, hk_2⟩ | ⟨rfl, rfl, hk_2⟩
      · refine g_one ?_
        refine g_if_eqF (pc := 54) 69 dX5_peakCurrent_54 (by decide) (by omega) (by omega) ?_
        refine g_iload (pc := 57) dX5_peakCurrent_57 4 rfl ?_
        refine g_iload_n (pc := 59) dX5_peakCurrent_59 2 rfl ?_
        refine g_icmp_ne (pc := 60) 66 dX5_peakCurrent_60 (by decide) (by omega) (by omega) (fun h_3 => ?_) (fun h_3 => ?_)
        · refine g_iinc (pc := 66) (lv' := [(4, .int (zI (b + 1))), (0, .ref (ad 0)), (1, .int (zI s)), (2, .int (zI k)), (3, .int (zI (limit σ s))), (5, .int (zI i))]) dX5_peakCurrent_66 (by decide) 4 rfl rfl ?_
          refine g_iinc (pc := 69) (lv' := [(5, .int (zI (i + 1))), (4, .int (zI (b + 1))), (0, .ref (ad 0)), (1, .int (zI s)), (2, .int (zI k)), (3, .int (zI (limit σ s)))]) dX5_peakCurrent_69 (by decide) 5 rfl rfl ?_
          refine g_goto (pc := 72) 36 dX5_peakCurrent_72 (by decide) ?_
          refine g_sub (lv' := [(0, .ref (ad 0)), (1, .int (zI s)), (2, .int (zI k)), (3, .int (zI (limit σ s))), (4, .int (zI (b + 1))), (5, .int (zI (i + 1)))]) [2, 3, 4, 5, 1, 0] rfl ?_
          exact ih (b + 1) (i + 1) (by omega) (by omega) (by omega) (by omega) (by rw [← ha, show (limit σ s + 1 - i).toNat = (limit σ s + 1 - (i + 1)).toNat + 1 by omega, pkS, if_pos (pkB_t hk_2), if_neg (by omega), show k - b - 1 = k - (b + 1) by omega]) (by omega)
        · refine g_iload (pc := 63) dX5_peakCurrent_63 5 rfl ?_
          exact g_iret (pc := 65) dX5_peakCurrent_65 rfl (rdI_of (by rw [← ha, show (limit σ s + 1 - i).toNat = (limit σ s + 1 - (i + 1)).toNat + 1 by omega, pkS, if_pos (pkB_t hk_2), if_pos (by omega)]))
      · refine g_one ?_
        refine g_if_eqT (pc := 54) 69 dX5_peakCurrent_54 (by decide) (by omega) (by omega) ?_
        refine g_iinc (pc := 69) (lv' := [(5, .int (zI (i + 1))), (0, .ref (ad 0)), (1, .int (zI s)), (2, .int (zI k)), (3, .int (zI (limit σ s))), (4, .int (zI b))]) dX5_peakCurrent_69 (by decide) 5 rfl rfl ?_
        refine g_goto (pc := 72) 36 dX5_peakCurrent_72 (by decide) ?_
        refine g_sub (lv' := [(0, .ref (ad 0)), (1, .int (zI s)), (2, .int (zI k)), (3, .int (zI (limit σ s))), (4, .int (zI b)), (5, .int (zI (i + 1)))]) [1, 2, 3, 4, 5, 0] rfl ?_
        exact ih b (i + 1) (by omega) (by omega) (by omega) (by omega) (by rw [← ha, show (limit σ s + 1 - i).toNat = (limit σ s + 1 - (i + 1)).toNat + 1 by omega, pkS, if_neg (by rw [pkB_f hk_2]; decide)]) (by omega)
set_option maxRecDepth 100000 in
set_option maxHeartbeats 2000000 in
/-- PvArray.peakCurrent  -/
theorem c_X5_peakCurrent {D : va_G} {cy : Nat → ClassId} {l : Launch} {ad : Nat → Nat} {σ : Nat → Int → Int} {X : va_W} (hB : Bd σ) (hL : LC σ) (s : Int) (hs : -2147483648 ≤ s ∧ s ≤ 2147483647) (k : Int) (hk : -2147483648 ≤ k ∧ k ≤ 2147483647) : Con D cy l yX5_peakCurrent cX5_peakCurrent 6 (some .int) rm_X5_peakCurrent [.ref (ad 0), .int (zI s), .int (zI k)] (CW cy ad σ ++ X) (rdI (a_peakCurrent σ s k) (CW cy ad σ ++ X)) := by
  refine Con.of (lv := [(0, .ref (ad 0)), (1, .int (zI s)), (2, .int (zI k))]) (by decide) (Nat.le_of_ble_eq_true rfl) rfl ?_
  have g1 := hB.sc
  have g2 := hB.mc
  have g3 := limit_b hB s
  refine g_aload_n (pc := 0) dX5_peakCurrent_0 0 rfl ?_
  refine g_iload_n (pc := 1) dX5_peakCurrent_1 1 rfl ?_
  refine g_callV (pc := 2) (As := [.int (zI s)]) (rest := []) k_X5_70_X5 (c_X5_isString (σ := σ) hB s (by omega)) ⟨rfl, rfl, Nat.le_of_ble_eq_true rfl, Nat.le_of_ble_eq_true rfl⟩ (0) 4 rfl rfl at_arr rfl rfl (Nat.le_of_ble_eq_true rfl) dX5_peakCurrent_2 (fun v_ w_ hq_ => ?_)
  rcases hq_ with ⟨rfl, rfl, hs_1⟩ | ⟨rfl, rfl, hs_1⟩
  · refine g_one ?_
    refine g_if_neT (pc := 5) 12 dX5_peakCurrent_5 (by decide) (by omega) (by omega) ?_
    refine g_iload_n (pc := 12) dX5_peakCurrent_12 2 rfl ?_
    refine g_if_ge (pc := 13) 20 dX5_peakCurrent_13 (by decide) (by omega) (fun h_2 => ?_) (fun h_2 => ?_)
    · refine g_aload_n (pc := 20) dX5_peakCurrent_20 0 rfl ?_
      refine g_get (pc := 21) (ci := 4) inG_X5 rfl 3 (by decide) rfl fl_X5_63 (0) at_arr rfl dX5_peakCurrent_21 ?_
      refine g_iload_n (pc := 24) dX5_peakCurrent_24 1 rfl ?_
      refine g_aald (pc := 25) 3 4 at_strs rfl (by omega) (by decide) rfl dX5_peakCurrent_25 ?_
      refine g_callV (pc := 26) (As := []) (rest := []) k_X5_139_X4 (c_X4_end (σ := σ) hB hL s (by omega)) ⟨rfl, rfl, Nat.le_of_ble_eq_true rfl, Nat.le_of_ble_eq_true rfl⟩ (31 + s.toNat) 3 rfl rfl (at_str (s := s) (by omega)) rfl rfl (Nat.le_of_ble_eq_true rfl) dX5_peakCurrent_26 (fun v_ w_ hq_ => ?_)
      obtain ⟨rfl, rfl⟩ := hq_
      refine g_one ?_
      refine g_istore_n (pc := 29) (lv' := [(3, .int (zI (limit σ s))), (0, .ref (ad 0)), (1, .int (zI s)), (2, .int (zI k))]) dX5_peakCurrent_29 (by decide) rfl ?_
      refine g_iconst (pc := 30) dX5_peakCurrent_30 ?_
      refine g_istore (pc := 31) (lv' := [(4, .int (zI 0)), (3, .int (zI (limit σ s))), (0, .ref (ad 0)), (1, .int (zI s)), (2, .int (zI k))]) dX5_peakCurrent_31 (by decide) rfl ?_
      refine g_iconst (pc := 33) dX5_peakCurrent_33 ?_
      refine g_istore (pc := 34) (lv' := [(5, .int (zI 1)), (4, .int (zI 0)), (3, .int (zI (limit σ s))), (0, .ref (ad 0)), (1, .int (zI s)), (2, .int (zI k))]) dX5_peakCurrent_34 (by decide) rfl ?_
      refine g_sub (lv' := [(0, .ref (ad 0)), (1, .int (zI s)), (2, .int (zI k)), (3, .int (zI (limit σ s))), (4, .int (zI 0)), (5, .int (zI 1))]) [3, 4, 5, 2, 1, 0] rfl ?_
      exact lp_X5_peakCurrent hB hL s (by omega) k (by omega) ((limit σ s).toNat + 2) 0 1 (by omega) (by omega) (by omega) (by omega) (by unfold a_peakCurrent; rw [if_pos (by omega), if_neg (by omega), show limit σ s + 1 - 1 = limit σ s by omega, show k - 0 = k by omega]) (by omega)
    · refine g_sipush (pc := 16) dX5_peakCurrent_16 (by omega) ?_
      exact g_iret (pc := 19) dX5_peakCurrent_19 rfl (rdI_of (by unfold a_peakCurrent; (repeat' split) <;> first | rfl | (exfalso; omega)))
  · refine g_one ?_
    refine g_if_neF (pc := 5) 12 dX5_peakCurrent_5 (by decide) (by omega) (by omega) ?_
    refine g_sipush (pc := 8) dX5_peakCurrent_8 (by omega) ?_
    exact g_iret (pc := 11) dX5_peakCurrent_11 rfl (rdI_of (by unfold a_peakCurrent; (repeat' split) <;> first | rfl | (exfalso; omega)))
set_option maxRecDepth 100000 in
set_option maxHeartbeats 2000000 in
/-- PvArray.totalBestPower, the loop at 4  -/
theorem lp_X5_total {D : va_G} {cy : Nat → ClassId} {l : Launch} {ad : Nat → Nat} {σ : Nat → Int → Int} {X : va_W} (hB : Bd σ) (hL : LC σ) : ∀ (n : Nat) (k : Int), 0 ≤ k → k ≤ σ 0 2 → (σ 0 2 - k).toNat < n → GO D cy l rm_X5_totalBestPower cX5_totalBestPower 4 yX5_totalBestPower.cls (some .long) (CW cy ad σ ++ X) (rdJ (a_total σ) (CW cy ad σ ++ X)) (CW cy ad σ ++ X) 4 [(0, .ref (ad 0)), (1, .long (zJ (sumP (bestP σ) k.toNat))), (3, .int (zI k))] [] := by
  intro n
  induction n with
  | zero =>
    intro k hk hk2 hn
    exact absurd hn (Nat.not_lt_zero _)
  | succ n ih =>
    intro k hk hk2 hn
    have g1 := hB.sc
    have g2 := hB.mc
    refine g_iload_n (pc := 4) dX5_totalBestPower_4 2 rfl ?_
    refine g_aload_n (pc := 5) dX5_totalBestPower_5 0 rfl ?_
    refine g_get (pc := 6) (ci := 4) inG_X5 rfl 4 (by decide) rfl fl_X5_51 (0) at_arr rfl dX5_totalBestPower_6 ?_
    refine g_getN (pc := 9) (ci := 1) inG_X2 rfl 1 (by decide) rfl fl_X5_67 (4) at_par rfl dX5_totalBestPower_9 ?_
    refine g_icmp_ge (pc := 12) 33 dX5_totalBestPower_12 (by decide) (by omega) (by omega) (fun h_1 => ?_) (fun h_1 => ?_)
    · refine g_lload_n (pc := 33) dX5_totalBestPower_33 1 rfl ?_
      exact g_lret (pc := 34) dX5_totalBestPower_34 rfl (rdJ_of (by unfold a_total; rw [show k = σ 0 2 by omega]))
    · refine g_lload_n (pc := 15) dX5_totalBestPower_15 1 rfl ?_
      refine g_aload_n (pc := 16) dX5_totalBestPower_16 0 rfl ?_
      refine g_get (pc := 17) (ci := 4) inG_X5 rfl 3 (by decide) rfl fl_X5_63 (0) at_arr rfl dX5_totalBestPower_17 ?_
      refine g_iload_n (pc := 20) dX5_totalBestPower_20 2 rfl ?_
      refine g_aald (pc := 21) 3 4 at_strs rfl (by omega) (by decide) rfl dX5_totalBestPower_21 ?_
      refine g_callU (pc := 22) (As := []) (rest := [.long (zJ (sumP (bestP σ) k.toNat))]) k_X5_158_X4 (c_X0_greatestProduct_str (σ := σ) hB hL k (by omega)) ⟨rfl, rfl, Nat.le_of_ble_eq_true rfl, Nat.le_of_ble_eq_true rfl⟩ (31 + k.toNat) 3 rfl rfl (at_str (s := k) (by omega)) rfl rfl (Nat.le_of_ble_eq_true rfl) dX5_totalBestPower_22 (fun v_ w_ hq_ => ?_)
      obtain ⟨rfl, rfl⟩ := hq_
      refine g_one ?_
      refine g_ladd (pc := 25) dX5_totalBestPower_25 ?_
      refine g_lstore_n (pc := 26) (lv' := [(1, .long (zJ ((sumP (bestP σ) k.toNat) + (bestP σ k)))), (0, .ref (ad 0)), (3, .int (zI k))]) dX5_totalBestPower_26 (by decide) rfl ?_
      refine g_iinc (pc := 27) (lv' := [(3, .int (zI (k + 1))), (1, .long (zJ ((sumP (bestP σ) k.toNat) + (bestP σ k)))), (0, .ref (ad 0))]) dX5_totalBestPower_27 (by decide) 2 rfl rfl ?_
      refine g_goto (pc := 30) 4 dX5_totalBestPower_30 (by decide) ?_
      refine g_sub (lv' := [(0, .ref (ad 0)), (1, .long (zJ ((sumP (bestP σ) k.toNat) + (bestP σ k)))), (3, .int (zI (k + 1)))]) [2, 1, 0] rfl ?_
      refine g_lv (lv' := [(0, .ref (ad 0)), (1, .long (zJ (sumP (bestP σ) (k + 1).toNat))), (3, .int (zI (k + 1)))]) (by rw [sumP_s _ hk]) ?_
      exact ih (k + 1) (by omega) (by omega) (by omega)
set_option maxRecDepth 100000 in
set_option maxHeartbeats 2000000 in
/-- PvArray.totalBestPower  -/
theorem c_X5_totalBestPower {D : va_G} {cy : Nat → ClassId} {l : Launch} {ad : Nat → Nat} {σ : Nat → Int → Int} {X : va_W} (hB : Bd σ) (hL : LC σ) : Con D cy l yX5_totalBestPower cX5_totalBestPower 4 (some .long) rm_X5_totalBestPower [.ref (ad 0)] (CW cy ad σ ++ X) (rdJ (a_total σ) (CW cy ad σ ++ X)) := by
  refine Con.of (lv := [(0, .ref (ad 0))]) (by decide) (Nat.le_of_ble_eq_true rfl) rfl ?_
  have g1 := hB.sc
  have g2 := hB.mc
  refine g_lconst (pc := 0) (z := 0) dX5_totalBestPower_0 rfl ?_
  refine g_lstore_n (pc := 1) (lv' := [(1, .long (zJ 0)), (0, .ref (ad 0))]) dX5_totalBestPower_1 (by decide) rfl ?_
  refine g_iconst (pc := 2) dX5_totalBestPower_2 ?_
  refine g_istore_n (pc := 3) (lv' := [(3, .int (zI 0)), (1, .long (zJ 0)), (0, .ref (ad 0))]) dX5_totalBestPower_3 (by decide) rfl ?_
  refine g_sub (lv' := [(0, .ref (ad 0)), (1, .long (zJ 0)), (3, .int (zI 0))]) [2, 1, 0] rfl ?_
  exact lp_X5_total hB hL ((σ 0 2).toNat + 1) 0 (by omega) (by omega) (by omega)
set_option maxRecDepth 100000 in
set_option maxHeartbeats 2000000 in
/-- PvArray.mismatchLoss, the loop at 32  -/
theorem lp_X5_loss2 {D : va_G} {cy : Nat → ClassId} {l : Launch} {ad : Nat → Nat} {σ : Nat → Int → Int} {X : va_W} (hB : Bd σ) (hL : LC σ) : ∀ (n : Nat) (k : Int), 0 ≤ k → k ≤ σ 0 2 → (σ 0 2 - k).toNat < n → GO D cy l rm_X5_mismatchLoss cX5_mismatchLoss 4 yX5_mismatchLoss.cls (some .long) (CW cy ad σ ++ X) (rdJ (a_loss σ) (CW cy ad σ ++ X)) (CW cy ad σ ++ X) 32 [(0, .ref (ad 0)), (1, .long (zJ (sumP (mpeak σ) (σ 0 1).toNat - sumP (bestP σ) k.toNat))), (3, .int (zI k))] [] := by
  intro n
  induction n with
  | zero =>
    intro k hk hk2 hn
    exact absurd hn (Nat.not_lt_zero _)
  | succ n ih =>
    intro k hk hk2 hn
    have g1 := hB.sc
    have g2 := hB.mc
    refine g_iload_n (pc := 32) dX5_mismatchLoss_32 2 rfl ?_
    refine g_aload_n (pc := 33) dX5_mismatchLoss_33 0 rfl ?_
    refine g_get (pc := 34) (ci := 4) inG_X5 rfl 4 (by decide) rfl fl_X5_51 (0) at_arr rfl dX5_mismatchLoss_34 ?_
    refine g_getN (pc := 37) (ci := 1) inG_X2 rfl 1 (by decide) rfl fl_X5_67 (4) at_par rfl dX5_mismatchLoss_37 ?_
    refine g_icmp_ge (pc := 40) 61 dX5_mismatchLoss_40 (by decide) (by omega) (by omega) (fun h_1 => ?_) (fun h_1 => ?_)
    · refine g_lload_n (pc := 61) dX5_mismatchLoss_61 1 rfl ?_
      exact g_lret (pc := 62) dX5_mismatchLoss_62 rfl (rdJ_of (by unfold a_loss; rw [show k = σ 0 2 by omega]))
    · refine g_lload_n (pc := 43) dX5_mismatchLoss_43 1 rfl ?_
      refine g_aload_n (pc := 44) dX5_mismatchLoss_44 0 rfl ?_
      refine g_get (pc := 45) (ci := 4) inG_X5 rfl 3 (by decide) rfl fl_X5_63 (0) at_arr rfl dX5_mismatchLoss_45 ?_
      refine g_iload_n (pc := 48) dX5_mismatchLoss_48 2 rfl ?_
      refine g_aald (pc := 49) 3 4 at_strs rfl (by omega) (by decide) rfl dX5_mismatchLoss_49 ?_
      refine g_callU (pc := 50) (As := []) (rest := [.long (zJ (sumP (mpeak σ) (σ 0 1).toNat - sumP (bestP σ) k.toNat))]) k_X5_158_X4 (c_X0_greatestProduct_str (σ := σ) hB hL k (by omega)) ⟨rfl, rfl, Nat.le_of_ble_eq_true rfl, Nat.le_of_ble_eq_true rfl⟩ (31 + k.toNat) 3 rfl rfl (at_str (s := k) (by omega)) rfl rfl (Nat.le_of_ble_eq_true rfl) dX5_mismatchLoss_50 (fun v_ w_ hq_ => ?_)
      obtain ⟨rfl, rfl⟩ := hq_
      refine g_one ?_
      refine g_lsub (pc := 53) dX5_mismatchLoss_53 ?_
      refine g_lstore_n (pc := 54) (lv' := [(1, .long (zJ ((sumP (mpeak σ) (σ 0 1).toNat - sumP (bestP σ) k.toNat) - (bestP σ k)))), (0, .ref (ad 0)), (3, .int (zI k))]) dX5_mismatchLoss_54 (by decide) rfl ?_
      refine g_iinc (pc := 55) (lv' := [(3, .int (zI (k + 1))), (1, .long (zJ ((sumP (mpeak σ) (σ 0 1).toNat - sumP (bestP σ) k.toNat) - (bestP σ k)))), (0, .ref (ad 0))]) dX5_mismatchLoss_55 (by decide) 2 rfl rfl ?_
      refine g_goto (pc := 58) 32 dX5_mismatchLoss_58 (by decide) ?_
      refine g_sub (lv' := [(0, .ref (ad 0)), (1, .long (zJ ((sumP (mpeak σ) (σ 0 1).toNat - sumP (bestP σ) k.toNat) - (bestP σ k)))), (3, .int (zI (k + 1)))]) [2, 1, 0] rfl ?_
      refine g_lv (lv' := [(0, .ref (ad 0)), (1, .long (zJ (sumP (mpeak σ) (σ 0 1).toNat - sumP (bestP σ) (k + 1).toNat))), (3, .int (zI (k + 1)))]) (by rw [sumP_s _ hk, ← Int.sub_sub]) ?_
      exact ih (k + 1) (by omega) (by omega) (by omega)
set_option maxRecDepth 100000 in
set_option maxHeartbeats 2000000 in
/-- PvArray.mismatchLoss, the loop at 4  -/
theorem lp_X5_loss1 {D : va_G} {cy : Nat → ClassId} {l : Launch} {ad : Nat → Nat} {σ : Nat → Int → Int} {X : va_W} (hB : Bd σ) (hL : LC σ) : ∀ (n : Nat) (k : Int), 0 ≤ k → k ≤ σ 0 1 → (σ 0 1 - k).toNat < n → GO D cy l rm_X5_mismatchLoss cX5_mismatchLoss 4 yX5_mismatchLoss.cls (some .long) (CW cy ad σ ++ X) (rdJ (a_loss σ) (CW cy ad σ ++ X)) (CW cy ad σ ++ X) 4 [(0, .ref (ad 0)), (1, .long (zJ (sumP (mpeak σ) k.toNat))), (3, .int (zI k))] [] := by
  intro n
  induction n with
  | zero =>
    intro k hk hk2 hn
    exact absurd hn (Nat.not_lt_zero _)
  | succ n ih =>
    intro k hk hk2 hn
    have g1 := hB.sc
    have g2 := hB.mc
    refine g_iload_n (pc := 4) dX5_mismatchLoss_4 2 rfl ?_
    refine g_aload_n (pc := 5) dX5_mismatchLoss_5 0 rfl ?_
    refine g_get (pc := 6) (ci := 4) inG_X5 rfl 2 (by decide) rfl fl_X5_9 (0) at_arr rfl dX5_mismatchLoss_6 ?_
    refine g_icmp_ge (pc := 9) 30 dX5_mismatchLoss_9 (by decide) (by omega) (by omega) (fun h_1 => ?_) (fun h_1 => ?_)
    · refine g_iconst (pc := 30) dX5_mismatchLoss_30 ?_
      refine g_istore_n (pc := 31) (lv' := [(3, .int (zI 0)), (0, .ref (ad 0)), (1, .long (zJ (sumP (mpeak σ) k.toNat)))]) dX5_mismatchLoss_31 (by decide) rfl ?_
      refine g_sub (lv' := [(0, .ref (ad 0)), (1, .long (zJ (sumP (mpeak σ) k.toNat))), (3, .int (zI 0))]) [1, 2, 0] rfl ?_
      refine g_lv (lv' := [(0, .ref (ad 0)), (1, .long (zJ (sumP (mpeak σ) (σ 0 1).toNat - sumP (bestP σ) (0 : Int).toNat))), (3, .int (zI 0))]) (by rw [show k = σ 0 1 by omega, show sumP (bestP σ) (0 : Int).toNat = 0 from rfl, Int.sub_zero]) ?_
      exact lp_X5_loss2 hB hL ((σ 0 2).toNat + 1) 0 (by omega) (by omega) (by omega)
    · refine g_lload_n (pc := 12) dX5_mismatchLoss_12 1 rfl ?_
      refine g_aload_n (pc := 13) dX5_mismatchLoss_13 0 rfl ?_
      refine g_get (pc := 14) (ci := 4) inG_X5 rfl 1 (by decide) rfl fl_X5_59 (0) at_arr rfl dX5_mismatchLoss_14 ?_
      refine g_iload_n (pc := 17) dX5_mismatchLoss_17 2 rfl ?_
      refine g_aald (pc := 18) 2 3 at_mods rfl (by omega) (by decide) rfl dX5_mismatchLoss_18 ?_
      refine g_callU (pc := 19) (As := []) (rest := [.long (zJ (sumP (mpeak σ) k.toNat))]) k_X5_133_X3 (c_X0_greatestProduct_mod (σ := σ) hB hL k (by omega)) ⟨rfl, rfl, Nat.le_of_ble_eq_true rfl, Nat.le_of_ble_eq_true rfl⟩ (7 + k.toNat) 2 rfl rfl (at_mod (i := k) (by omega)) rfl rfl (Nat.le_of_ble_eq_true rfl) dX5_mismatchLoss_19 (fun v_ w_ hq_ => ?_)
      obtain ⟨rfl, rfl⟩ := hq_
      refine g_one ?_
      refine g_ladd (pc := 22) dX5_mismatchLoss_22 ?_
      refine g_lstore_n (pc := 23) (lv' := [(1, .long (zJ ((sumP (mpeak σ) k.toNat) + (mpeak σ k)))), (0, .ref (ad 0)), (3, .int (zI k))]) dX5_mismatchLoss_23 (by decide) rfl ?_
      refine g_iinc (pc := 24) (lv' := [(3, .int (zI (k + 1))), (1, .long (zJ ((sumP (mpeak σ) k.toNat) + (mpeak σ k)))), (0, .ref (ad 0))]) dX5_mismatchLoss_24 (by decide) 2 rfl rfl ?_
      refine g_goto (pc := 27) 4 dX5_mismatchLoss_27 (by decide) ?_
      refine g_sub (lv' := [(0, .ref (ad 0)), (1, .long (zJ ((sumP (mpeak σ) k.toNat) + (mpeak σ k)))), (3, .int (zI (k + 1)))]) [2, 1, 0] rfl ?_
      refine g_lv (lv' := [(0, .ref (ad 0)), (1, .long (zJ (sumP (mpeak σ) (k + 1).toNat))), (3, .int (zI (k + 1)))]) (by rw [sumP_s _ hk]) ?_
      exact ih (k + 1) (by omega) (by omega) (by omega)
set_option maxRecDepth 100000 in
set_option maxHeartbeats 2000000 in
/-- PvArray.mismatchLoss  -/
theorem c_X5_mismatchLoss {D : va_G} {cy : Nat → ClassId} {l : Launch} {ad : Nat → Nat} {σ : Nat → Int → Int} {X : va_W} (hB : Bd σ) (hL : LC σ) : Con D cy l yX5_mismatchLoss cX5_mismatchLoss 4 (some .long) rm_X5_mismatchLoss [.ref (ad 0)] (CW cy ad σ ++ X) (rdJ (a_loss σ) (CW cy ad σ ++ X)) := by
  refine Con.of (lv := [(0, .ref (ad 0))]) (by decide) (Nat.le_of_ble_eq_true rfl) rfl ?_
  have g1 := hB.sc
  have g2 := hB.mc
  refine g_lconst (pc := 0) (z := 0) dX5_mismatchLoss_0 rfl ?_
  refine g_lstore_n (pc := 1) (lv' := [(1, .long (zJ 0)), (0, .ref (ad 0))]) dX5_mismatchLoss_1 (by decide) rfl ?_
  refine g_iconst (pc := 2) dX5_mismatchLoss_2 ?_
  refine g_istore_n (pc := 3) (lv' := [(3, .int (zI 0)), (1, .long (zJ 0)), (0, .ref (ad 0))]) dX5_mismatchLoss_3 (by decide) rfl ?_
  refine g_sub (lv' := [(0, .ref (ad 0)), (1, .long (zJ 0)), (3, .int (zI 0))]) [2, 1, 0] rfl ?_
  exact lp_X5_loss1 hB hL ((σ 0 1).toNat + 1) 0 (by omega) (by omega) (by omega)
set_option maxRecDepth 100000 in
set_option maxHeartbeats 2000000 in
theorem st_X5_perturb_true {D : va_G} {cy : Nat → ClassId} {l : Launch} {ad : Nat → Nat} {σ : Nat → Int → Int} {X : va_W} (hB : Bd σ) (hL : LC σ) (s : Int) (hs : 0 ≤ s ∧ s < σ 0 2) (a t it : Int) (hac : (0 ≤ a ∧ a ≤ limit σ s) ∧ (1 ≤ t ∧ t ≤ 100) ∧ (0 ≤ it ∧ it ≤ 200)) (c n : Int) (hc1 : 0 ≤ c) (hc2 : c ≤ limit σ s) (hn1 : 0 ≤ n) (hn2 : n ≤ it) (ha : pobs (spow σ s) (limit σ s) t (it - n).toNat c true = a_perturb σ s a t it) (ihT : ∀ c m : Int, 0 ≤ c → c ≤ limit σ s → m = n + 1 → m ≤ it → pobs (spow σ s) (limit σ s) t (it - m).toNat c true = a_perturb σ s a t it → GO D cy l rm_X5_perturbAndObserve cX5_perturbAndObserve 11 yX5_perturbAndObserve.cls (some .int) (CW cy ad σ ++ X) (rdI (a_perturb σ s a t it) (CW cy ad σ ++ X)) (CW cy ad σ ++ X) 72 [(0, .ref (ad 0)), (1, .int (zI s)), (2, .int (zI a)), (3, .int (zI t)), (4, .int (zI it)), (5, .ref (ad (31 + s.toNat))), (6, .int (zI (limit σ s))), (7, .int (zI c)), (8, .int (zI 1)), (9, .int (zI m))] []) (ihF : ∀ c m : Int, 0 ≤ c → c ≤ limit σ s → m = n + 1 → m ≤ it → pobs (spow σ s) (limit σ s) t (it - m).toNat c false = a_perturb σ s a t it → GO D cy l rm_X5_perturbAndObserve cX5_perturbAndObserve 11 yX5_perturbAndObserve.cls (some .int) (CW cy ad σ ++ X) (rdI (a_perturb σ s a t it) (CW cy ad σ ++ X)) (CW cy ad σ ++ X) 72 [(0, .ref (ad 0)), (1, .int (zI s)), (2, .int (zI a)), (3, .int (zI t)), (4, .int (zI it)), (5, .ref (ad (31 + s.toNat))), (6, .int (zI (limit σ s))), (7, .int (zI c)), (8, .int (zI 0)), (9, .int (zI m))] []) : GO D cy l rm_X5_perturbAndObserve cX5_perturbAndObserve 11 yX5_perturbAndObserve.cls (some .int) (CW cy ad σ ++ X) (rdI (a_perturb σ s a t it) (CW cy ad σ ++ X)) (CW cy ad σ ++ X) 72 [(0, .ref (ad 0)), (1, .int (zI s)), (2, .int (zI a)), (3, .int (zI t)), (4, .int (zI it)), (5, .ref (ad (31 + s.toNat))), (6, .int (zI (limit σ s))), (7, .int (zI c)), (8, .int (zI 1)), (9, .int (zI n))] [] := by
  have g1 := hB.sc
  have g2 := hB.mc
  have g3 := limit_b hB s
  have q1 := spow_b2 hB s (c := c) (by omega)
  have q2 := spow_b2 hB s (c := min (c + t) (limit σ s)) (by omega)
  refine g_iload (pc := 72) dX5_perturbAndObserve_72 9 rfl ?_
  refine g_iload (pc := 74) dX5_perturbAndObserve_74 4 rfl ?_
  refine g_icmp_ge (pc := 76) 149 dX5_perturbAndObserve_76 (by decide) (by omega) (by omega) (fun h_1 => ?_) (fun h_1 => ?_)
  · refine g_iload (pc := 149) dX5_perturbAndObserve_149 7 rfl ?_
    exact g_iret (pc := 151) dX5_perturbAndObserve_151 rfl (rdI_of (by rw [← ha, show (it - n).toNat = 0 by omega]; rfl))
  · refine g_iload (pc := 79) dX5_perturbAndObserve_79 8 rfl ?_
    refine g_if_eqF (pc := 81) 96 dX5_perturbAndObserve_81 (by decide) (by omega) (by omega) ?_
    refine g_iload (pc := 84) dX5_perturbAndObserve_84 7 rfl ?_
    refine g_iload_n (pc := 86) dX5_perturbAndObserve_86 3 rfl ?_
    refine g_iadd (pc := 87) dX5_perturbAndObserve_87 ?_
    refine g_iload (pc := 88) dX5_perturbAndObserve_88 6 rfl ?_
    refine g_min (pc := 90) ma_min_X5_159 ma_min_s ma_i ma_min_c (Nat.le_of_ble_eq_true rfl) (Nat.le_of_ble_eq_true rfl) (by omega) (by omega) dX5_perturbAndObserve_90 ?_
    refine g_goto (pc := 93) 104 dX5_perturbAndObserve_93 (by decide) ?_
    refine g_istore (pc := 104) (lv' := [(10, .int (zI (min (c + t) (limit σ s)))), (0, .ref (ad 0)), (1, .int (zI s)), (2, .int (zI a)), (3, .int (zI t)), (4, .int (zI it)), (5, .ref (ad (31 + s.toNat))), (6, .int (zI (limit σ s))), (7, .int (zI c)), (8, .int (zI 1)), (9, .int (zI n))]) dX5_perturbAndObserve_104 (by decide) rfl ?_
    refine g_aload (pc := 106) dX5_perturbAndObserve_106 6 rfl ?_
    refine g_iload (pc := 108) dX5_perturbAndObserve_108 0 rfl ?_
    refine g_callU (pc := 110) (As := [.int (zI (min (c + t) (limit σ s)))]) (rest := []) k_X5_144_X4 (c_X0_productAt_str (σ := σ) hB hL s (by omega) (min (c + t) (limit σ s)) (by omega)) ⟨rfl, rfl, Nat.le_of_ble_eq_true rfl, Nat.le_of_ble_eq_true rfl⟩ (31 + s.toNat) 3 rfl rfl (at_str (s := s) (by omega)) rfl rfl (Nat.le_of_ble_eq_true rfl) dX5_perturbAndObserve_110 (fun v_ w_ hq_ => ?_)
    obtain ⟨rfl, rfl⟩ := hq_
    refine g_one ?_
    refine g_aload (pc := 113) dX5_perturbAndObserve_113 6 rfl ?_
    refine g_iload (pc := 115) dX5_perturbAndObserve_115 8 rfl ?_
    refine g_callU (pc := 117) (As := [.int (zI c)]) (rest := [.long (zJ (spow σ s (min (c + t) (limit σ s))))]) k_X5_144_X4 (c_X0_productAt_str (σ := σ) hB hL s (by omega) c (by omega)) ⟨rfl, rfl, Nat.le_of_ble_eq_true rfl, Nat.le_of_ble_eq_true rfl⟩ (31 + s.toNat) 3 rfl rfl (at_str (s := s) (by omega)) rfl rfl (Nat.le_of_ble_eq_true rfl) dX5_perturbAndObserve_117 (fun v_ w_ hq_ => ?_)
    obtain ⟨rfl, rfl⟩ := hq_
    refine g_one ?_
    refine g_lcmp_le (pc := 120) 131 dX5_perturbAndObserve_120 dX5_perturbAndObserve_121 (by decide) (by omega) (by omega) (fun h_2 => ?_) (fun h_2 => ?_)
    · refine g_iload (pc := 131) dX5_perturbAndObserve_131 9 rfl ?_
      refine g_if_neT (pc := 133) 140 dX5_perturbAndObserve_133 (by decide) (by omega) (by omega) ?_
      refine g_iconst (pc := 140) dX5_perturbAndObserve_140 ?_
      refine g_istore (pc := 141) (lv' := [(8, .int (zI 0)), (10, .int (zI (min (c + t) (limit σ s)))), (0, .ref (ad 0)), (1, .int (zI s)), (2, .int (zI a)), (3, .int (zI t)), (4, .int (zI it)), (5, .ref (ad (31 + s.toNat))), (6, .int (zI (limit σ s))), (7, .int (zI c)), (9, .int (zI n))]) dX5_perturbAndObserve_141 (by decide) rfl ?_
      refine g_iinc (pc := 143) (lv' := [(9, .int (zI (n + 1))), (8, .int (zI 0)), (10, .int (zI (min (c + t) (limit σ s)))), (0, .ref (ad 0)), (1, .int (zI s)), (2, .int (zI a)), (3, .int (zI t)), (4, .int (zI it)), (5, .ref (ad (31 + s.toNat))), (6, .int (zI (limit σ s))), (7, .int (zI c))]) dX5_perturbAndObserve_143 (by decide) 10 rfl rfl ?_
      refine g_goto (pc := 146) 72 dX5_perturbAndObserve_146 (by decide) ?_
      refine g_sub (lv' := [(0, .ref (ad 0)), (1, .int (zI s)), (2, .int (zI a)), (3, .int (zI t)), (4, .int (zI it)), (5, .ref (ad (31 + s.toNat))), (6, .int (zI (limit σ s))), (7, .int (zI c)), (8, .int (zI 0)), (9, .int (zI (n + 1)))]) [3, 4, 5, 6, 7, 8, 9, 10, 1, 0] rfl ?_
      exact ihF c (n + 1) (by omega) (by omega) rfl (by omega) (by rw [← ha, show (it - n).toNat = (it - (n + 1)).toNat + 1 by omega, pobs_t]; rw [if_neg (show ¬ (spow σ s) c < (spow σ s) (min (c + t) (limit σ s)) by omega)])
    · refine g_iload (pc := 124) dX5_perturbAndObserve_124 0 rfl ?_
      refine g_istore (pc := 126) (lv' := [(7, .int (zI (min (c + t) (limit σ s)))), (10, .int (zI (min (c + t) (limit σ s)))), (0, .ref (ad 0)), (1, .int (zI s)), (2, .int (zI a)), (3, .int (zI t)), (4, .int (zI it)), (5, .ref (ad (31 + s.toNat))), (6, .int (zI (limit σ s))), (8, .int (zI 1)), (9, .int (zI n))]) dX5_perturbAndObserve_126 (by decide) rfl ?_
      refine g_goto (pc := 128) 143 dX5_perturbAndObserve_128 (by decide) ?_
      refine g_iinc (pc := 143) (lv' := [(9, .int (zI (n + 1))), (7, .int (zI (min (c + t) (limit σ s)))), (10, .int (zI (min (c + t) (limit σ s)))), (0, .ref (ad 0)), (1, .int (zI s)), (2, .int (zI a)), (3, .int (zI t)), (4, .int (zI it)), (5, .ref (ad (31 + s.toNat))), (6, .int (zI (limit σ s))), (8, .int (zI 1))]) dX5_perturbAndObserve_143 (by decide) 10 rfl rfl ?_
      refine g_goto (pc := 146) 72 dX5_perturbAndObserve_146 (by decide) ?_
      refine g_sub (lv' := [(0, .ref (ad 0)), (1, .int (zI s)), (2, .int (zI a)), (3, .int (zI t)), (4, .int (zI it)), (5, .ref (ad (31 + s.toNat))), (6, .int (zI (limit σ s))), (7, .int (zI (min (c + t) (limit σ s)))), (8, .int (zI 1)), (9, .int (zI (n + 1)))]) [3, 4, 5, 6, 7, 8, 9, 1, 10, 0] rfl ?_
      exact ihT (min (c + t) (limit σ s)) (n + 1) (by omega) (by omega) rfl (by omega) (by rw [← ha, show (it - n).toNat = (it - (n + 1)).toNat + 1 by omega, pobs_t]; rw [if_pos (show (spow σ s) c < (spow σ s) (min (c + t) (limit σ s)) by omega)])
set_option maxRecDepth 100000 in
set_option maxHeartbeats 2000000 in
theorem st_X5_perturb_false {D : va_G} {cy : Nat → ClassId} {l : Launch} {ad : Nat → Nat} {σ : Nat → Int → Int} {X : va_W} (hB : Bd σ) (hL : LC σ) (s : Int) (hs : 0 ≤ s ∧ s < σ 0 2) (a t it : Int) (hac : (0 ≤ a ∧ a ≤ limit σ s) ∧ (1 ≤ t ∧ t ≤ 100) ∧ (0 ≤ it ∧ it ≤ 200)) (c n : Int) (hc1 : 0 ≤ c) (hc2 : c ≤ limit σ s) (hn1 : 0 ≤ n) (hn2 : n ≤ it) (ha : pobs (spow σ s) (limit σ s) t (it - n).toNat c false = a_perturb σ s a t it) (ihT : ∀ c m : Int, 0 ≤ c → c ≤ limit σ s → m = n + 1 → m ≤ it → pobs (spow σ s) (limit σ s) t (it - m).toNat c true = a_perturb σ s a t it → GO D cy l rm_X5_perturbAndObserve cX5_perturbAndObserve 11 yX5_perturbAndObserve.cls (some .int) (CW cy ad σ ++ X) (rdI (a_perturb σ s a t it) (CW cy ad σ ++ X)) (CW cy ad σ ++ X) 72 [(0, .ref (ad 0)), (1, .int (zI s)), (2, .int (zI a)), (3, .int (zI t)), (4, .int (zI it)), (5, .ref (ad (31 + s.toNat))), (6, .int (zI (limit σ s))), (7, .int (zI c)), (8, .int (zI 1)), (9, .int (zI m))] []) (ihF : ∀ c m : Int, 0 ≤ c → c ≤ limit σ s → m = n + 1 → m ≤ it → pobs (spow σ s) (limit σ s) t (it - m).toNat c false = a_perturb σ s a t it → GO D cy l rm_X5_perturbAndObserve cX5_perturbAndObserve 11 yX5_perturbAndObserve.cls (some .int) (CW cy ad σ ++ X) (rdI (a_perturb σ s a t it) (CW cy ad σ ++ X)) (CW cy ad σ ++ X) 72 [(0, .ref (ad 0)), (1, .int (zI s)), (2, .int (zI a)), (3, .int (zI t)), (4, .int (zI it)), (5, .ref (ad (31 + s.toNat))), (6, .int (zI (limit σ s))), (7, .int (zI c)), (8, .int (zI 0)), (9, .int (zI m))] []) : GO D cy l rm_X5_perturbAndObserve cX5_perturbAndObserve 11 yX5_perturbAndObserve.cls (some .int) (CW cy ad σ ++ X) (rdI (a_perturb σ s a t it) (CW cy ad σ ++ X)) (CW cy ad σ ++ X) 72 [(0, .ref (ad 0)), (1, .int (zI s)), (2, .int (zI a)), (3, .int (zI t)), (4, .int (zI it)), (5, .ref (ad (31 + s.toNat))), (6, .int (zI (limit σ s))), (7, .int (zI c)), (8, .int (zI 0)), (9, .int (zI n))] [] := by
  have g1 := hB.sc
  have g2 := hB.mc
  have g3 := limit_b hB s
  have q1 := spow_b2 hB s (c := c) (by omega)
  have q2 := spow_b2 hB s (c := max (c - t) 0) (by omega)
  refine g_iload (pc := 72) dX5_perturbAndObserve_72 9 rfl ?_
  refine g_iload (pc := 74) dX5_perturbAndObserve_74 4 rfl ?_
  refine g_icmp_ge (pc := 76) 149 dX5_perturbAndObserve_76 (by decide) (by omega) (by omega) (fun h_1 => ?_) (fun h_1 => ?_)
  · refine g_iload (pc := 149) dX5_perturbAndObserve_149 7 rfl ?_
    exact g_iret (pc := 151) dX5_perturbAndObserve_151 rfl (rdI_of (by rw [← ha, show (it - n).toNat = 0 by omega]; rfl))
  · refine g_iload (pc := 79) dX5_perturbAndObserve_79 8 rfl ?_
    refine g_if_eqT (pc := 81) 96 dX5_perturbAndObserve_81 (by decide) (by omega) (by omega) ?_
    refine g_iload (pc := 96) dX5_perturbAndObserve_96 7 rfl ?_
    refine g_iload_n (pc := 98) dX5_perturbAndObserve_98 3 rfl ?_
    refine g_isub (pc := 99) dX5_perturbAndObserve_99 ?_
    refine g_iconst (pc := 100) dX5_perturbAndObserve_100 ?_
    refine g_max (pc := 101) ma_max_X5_164 ma_max_s ma_i ma_max_c (Nat.le_of_ble_eq_true rfl) (Nat.le_of_ble_eq_true rfl) (by omega) (by omega) dX5_perturbAndObserve_101 ?_
    refine g_istore (pc := 104) (lv' := [(10, .int (zI (max (c - t) 0))), (0, .ref (ad 0)), (1, .int (zI s)), (2, .int (zI a)), (3, .int (zI t)), (4, .int (zI it)), (5, .ref (ad (31 + s.toNat))), (6, .int (zI (limit σ s))), (7, .int (zI c)), (8, .int (zI 0)), (9, .int (zI n))]) dX5_perturbAndObserve_104 (by decide) rfl ?_
    refine g_aload (pc := 106) dX5_perturbAndObserve_106 6 rfl ?_
    refine g_iload (pc := 108) dX5_perturbAndObserve_108 0 rfl ?_
    refine g_callU (pc := 110) (As := [.int (zI (max (c - t) 0))]) (rest := []) k_X5_144_X4 (c_X0_productAt_str (σ := σ) hB hL s (by omega) (max (c - t) 0) (by omega)) ⟨rfl, rfl, Nat.le_of_ble_eq_true rfl, Nat.le_of_ble_eq_true rfl⟩ (31 + s.toNat) 3 rfl rfl (at_str (s := s) (by omega)) rfl rfl (Nat.le_of_ble_eq_true rfl) dX5_perturbAndObserve_110 (fun v_ w_ hq_ => ?_)
    obtain ⟨rfl, rfl⟩ := hq_
    refine g_one ?_
    refine g_aload (pc := 113) dX5_perturbAndObserve_113 6 rfl ?_
    refine g_iload (pc := 115) dX5_perturbAndObserve_115 8 rfl ?_
    refine g_callU (pc := 117) (As := [.int (zI c)]) (rest := [.long (zJ (spow σ s (max (c - t) 0)))]) k_X5_144_X4 (c_X0_productAt_str (σ := σ) hB hL s (by omega) c (by omega)) ⟨rfl, rfl, Nat.le_of_ble_eq_true rfl, Nat.le_of_ble_eq_true rfl⟩ (31 + s.toNat) 3 rfl rfl (at_str (s := s) (by omega)) rfl rfl (Nat.le_of_ble_eq_true rfl) dX5_perturbAndObserve_117 (fun v_ w_ hq_ => ?_)
    obtain ⟨rfl, rfl⟩ := hq_
    refine g_one ?_
    refine g_lcmp_le (pc := 120) 131 dX5_perturbAndObserve_120 dX5_perturbAndObserve_121 (by decide) (by omega) (by omega) (fun h_2 => ?_) (fun h_2 => ?_)
    · refine g_iload (pc := 131) dX5_perturbAndObserve_131 9 rfl ?_
      refine g_if_neF (pc := 133) 140 dX5_perturbAndObserve_133 (by decide) (by omega) (by omega) ?_
      refine g_iconst (pc := 136) dX5_perturbAndObserve_136 ?_
      refine g_goto (pc := 137) 141 dX5_perturbAndObserve_137 (by decide) ?_
      refine g_istore (pc := 141) (lv' := [(8, .int (zI 1)), (10, .int (zI (max (c - t) 0))), (0, .ref (ad 0)), (1, .int (zI s)), (2, .int (zI a)), (3, .int (zI t)), (4, .int (zI it)), (5, .ref (ad (31 + s.toNat))), (6, .int (zI (limit σ s))), (7, .int (zI c)), (9, .int (zI n))]) dX5_perturbAndObserve_141 (by decide) rfl ?_
      refine g_iinc (pc := 143) (lv' := [(9, .int (zI (n + 1))), (8, .int (zI 1)), (10, .int (zI (max (c - t) 0))), (0, .ref (ad 0)), (1, .int (zI s)), (2, .int (zI a)), (3, .int (zI t)), (4, .int (zI it)), (5, .ref (ad (31 + s.toNat))), (6, .int (zI (limit σ s))), (7, .int (zI c))]) dX5_perturbAndObserve_143 (by decide) 10 rfl rfl ?_
      refine g_goto (pc := 146) 72 dX5_perturbAndObserve_146 (by decide) ?_
      refine g_sub (lv' := [(0, .ref (ad 0)), (1, .int (zI s)), (2, .int (zI a)), (3, .int (zI t)), (4, .int (zI it)), (5, .ref (ad (31 + s.toNat))), (6, .int (zI (limit σ s))), (7, .int (zI c)), (8, .int (zI 1)), (9, .int (zI (n + 1)))]) [3, 4, 5, 6, 7, 8, 9, 10, 1, 0] rfl ?_
      exact ihT c (n + 1) (by omega) (by omega) rfl (by omega) (by rw [← ha, show (it - n).toNat = (it - (n + 1)).toNat + 1 by omega, pobs_f]; rw [if_neg (show ¬ (spow σ s) c < (spow σ s) (max (c - t) 0) by omega)])
    · refine g_iload (pc := 124) dX5_perturbAndObserve_124 0 rfl ?_
      refine g_istore (pc := 126) (lv' := [(7, .int (zI (max (c - t) 0))), (10, .int (zI (max (c - t) 0))), (0, .ref (ad 0)), (1, .int (zI s)), (2, .int (zI a)), (3, .int (zI t)), (4, .int (zI it)), (5, .ref (ad (31 + s.toNat))), (6, .int (zI (limit σ s))), (8, .int (zI 0)), (9, .int (zI n))]) dX5_perturbAndObserve_126 (by decide) rfl ?_
      refine g_goto (pc := 128) 143 dX5_perturbAndObserve_128 (by decide) ?_
      refine g_iinc (pc := 143) (lv' := [(9, .int (zI (n + 1))), (7, .int (zI (max (c - t) 0))), (10, .int (zI (max (c - t) 0))), (0, .ref (ad 0)), (1, .int (zI s)), (2, .int (zI a)), (3, .int (zI t)), (4, .int (zI it)), (5, .ref (ad (31 + s.toNat))), (6, .int (zI (limit σ s))), (8, .int (zI 0))]) dX5_perturbAndObserve_143 (by decide) 10 rfl rfl ?_
      refine g_goto (pc := 146) 72 dX5_perturbAndObserve_146 (by decide) ?_
      refine g_sub (lv' := [(0, .ref (ad 0)), (1, .int (zI s)), (2, .int (zI a)), (3, .int (zI t)), (4, .int (zI it)), (5, .ref (ad (31 + s.toNat))), (6, .int (zI (limit σ s))), (7, .int (zI (max (c - t) 0))), (8, .int (zI 0)), (9, .int (zI (n + 1)))]) [3, 4, 5, 6, 7, 8, 9, 1, 10, 0] rfl ?_
      exact ihF (max (c - t) 0) (n + 1) (by omega) (by omega) rfl (by omega) (by rw [← ha, show (it - n).toNat = (it - (n + 1)).toNat + 1 by omega, pobs_f]; rw [if_pos (show (spow σ s) c < (spow σ s) (max (c - t) 0) by omega)])
set_option maxRecDepth 100000 in
set_option maxHeartbeats 2000000 in
theorem lp_X5_perturb {D : va_G} {cy : Nat → ClassId} {l : Launch} {ad : Nat → Nat} {σ : Nat → Int → Int} {X : va_W} (hB : Bd σ) (hL : LC σ) (s : Int) (hs : 0 ≤ s ∧ s < σ 0 2) (a t it : Int) (hac : (0 ≤ a ∧ a ≤ limit σ s) ∧ (1 ≤ t ∧ t ≤ 100) ∧ (0 ≤ it ∧ it ≤ 200)) : ∀ (k : Nat) (u : Bool) (c n : Int), 0 ≤ c → c ≤ limit σ s → 0 ≤ n → n ≤ it → pobs (spow σ s) (limit σ s) t (it - n).toNat c u = a_perturb σ s a t it → (it - n).toNat < k → GO D cy l rm_X5_perturbAndObserve cX5_perturbAndObserve 11 yX5_perturbAndObserve.cls (some .int) (CW cy ad σ ++ X) (rdI (a_perturb σ s a t it) (CW cy ad σ ++ X)) (CW cy ad σ ++ X) 72 [(0, .ref (ad 0)), (1, .int (zI s)), (2, .int (zI a)), (3, .int (zI t)), (4, .int (zI it)), (5, .ref (ad (31 + s.toNat))), (6, .int (zI (limit σ s))), (7, .int (zI c)), (8, .int (zI (if u = true then 1 else 0))), (9, .int (zI n))] [] := by
  intro k
  induction k with
  | zero =>
    intro u c n h1 h2 h3 h4 h5 hn
    exact absurd hn (Nat.not_lt_zero _)
  | succ k ih =>
    intro u c n h1 h2 h3 h4 h5 hn
    by_cases hlast : n = it
    · cases u with
      | true => exact st_X5_perturb_true hB hL s hs a t it hac c n h1 h2 h3 h4 h5 (fun c m q1 q2 q3 q4 q5 => absurd q4 (by omega)) (fun c m q1 q2 q3 q4 q5 => absurd q4 (by omega))
      | false => exact st_X5_perturb_false hB hL s hs a t it hac c n h1 h2 h3 h4 h5 (fun c m q1 q2 q3 q4 q5 => absurd q4 (by omega)) (fun c m q1 q2 q3 q4 q5 => absurd q4 (by omega))
    · cases u with
      | true => exact st_X5_perturb_true hB hL s hs a t it hac c n h1 h2 h3 h4 h5 (fun c m q1 q2 q3 q4 q5 => ih true c m q1 q2 (by omega) q4 q5 (by omega)) (fun c m q1 q2 q3 q4 q5 => ih false c m q1 q2 (by omega) q4 q5 (by omega))
      | false => exact st_X5_perturb_false hB hL s hs a t it hac c n h1 h2 h3 h4 h5 (fun c m q1 q2 q3 q4 q5 => ih true c m q1 q2 (by omega) q4 q5 (by omega)) (fun c m q1 q2 q3 q4 q5 => ih false c m q1 q2 (by omega) q4 q5 (by omega))
set_option maxRecDepth 100000 in
set_option maxHeartbeats 2000000 in
/-- PvArray.perturbAndObserve  -/
theorem c_X5_perturbAndObserve {D : va_G} {cy : Nat → ClassId} {l : Launch} {ad : Nat → Nat} {σ : Nat → Int → Int} {X : va_W} (hB : Bd σ) (hL : LC σ) (s : Int) (hs : -2147483648 ≤ s ∧ s ≤ 2147483647) (a : Int) (ha : -2147483648 ≤ a ∧ a ≤ 2147483647) (t : Int) (ht : -2147483648 ≤ t ∧ t ≤ 2147483647) (it : Int) (hit : -2147483648 ≤ it ∧ it ≤ 2147483647) : Con D cy l yX5_perturbAndObserve cX5_perturbAndObserve 11 (some .int) rm_X5_perturbAndObserve [.ref (ad 0), .int (zI s), .int (zI a), .int (zI t), .int (zI it)] (CW cy ad σ ++ X) (rdI (a_perturb σ s a t it) (CW cy ad σ ++ X)) := by
  refine Con.of (lv := [(0, .ref (ad 0)), (1, .int (zI s)), (2, .int (zI a)), (3, .int (zI t)), (4, .int (zI it))]) (by decide) (Nat.le_of_ble_eq_true rfl) rfl ?_
  have g1 := hB.sc
  have g2 := hB.mc
  have g3 := limit_b hB s
  refine g_aload_n (pc := 0) dX5_perturbAndObserve_0 0 rfl ?_
  refine g_iload_n (pc := 1) dX5_perturbAndObserve_1 1 rfl ?_
  refine g_callV (pc := 2) (As := [.int (zI s)]) (rest := []) k_X5_70_X5 (c_X5_isString (σ := σ) hB s (by omega)) ⟨rfl, rfl, Nat.le_of_ble_eq_true rfl, Nat.le_of_ble_eq_true rfl⟩ (0) 4 rfl rfl at_arr rfl rfl (Nat.le_of_ble_eq_true rfl) dX5_perturbAndObserve_2 (fun v_ w_ hq_ => ?_)
  rcases hq_ with ⟨rfl, rfl, hs_1⟩ | ⟨rfl, rfl, hs_1⟩
  · refine g_one ?_
    refine g_if_neT (pc := 5) 12 dX5_perturbAndObserve_5 (by decide) (by omega) (by omega) ?_
    refine g_aload_n (pc := 12) dX5_perturbAndObserve_12 0 rfl ?_
    refine g_get (pc := 13) (ci := 4) inG_X5 rfl 3 (by decide) rfl fl_X5_63 (0) at_arr rfl dX5_perturbAndObserve_13 ?_
    refine g_iload_n (pc := 16) dX5_perturbAndObserve_16 1 rfl ?_
    refine g_aald (pc := 17) 3 4 at_strs rfl (by omega) (by decide) rfl dX5_perturbAndObserve_17 ?_
    refine g_astore (pc := 18) (lv' := [(5, .ref (ad (31 + s.toNat))), (0, .ref (ad 0)), (1, .int (zI s)), (2, .int (zI a)), (3, .int (zI t)), (4, .int (zI it))]) dX5_perturbAndObserve_18 (by decide) rfl ?_
    refine g_aload (pc := 20) dX5_perturbAndObserve_20 0 rfl ?_
    refine g_callV (pc := 22) (As := []) (rest := []) k_X5_139_X4 (c_X4_end (σ := σ) hB hL s (by omega)) ⟨rfl, rfl, Nat.le_of_ble_eq_true rfl, Nat.le_of_ble_eq_true rfl⟩ (31 + s.toNat) 3 rfl rfl (at_str (s := s) (by omega)) rfl rfl (Nat.le_of_ble_eq_true rfl) dX5_perturbAndObserve_22 (fun v_ w_ hq_ => ?_)
    obtain ⟨rfl, rfl⟩ := hq_
    refine g_one ?_
    refine g_istore (pc := 25) (lv' := [(6, .int (zI (limit σ s))), (5, .ref (ad (31 + s.toNat))), (0, .ref (ad 0)), (1, .int (zI s)), (2, .int (zI a)), (3, .int (zI t)), (4, .int (zI it))]) dX5_perturbAndObserve_25 (by decide) rfl ?_
    refine g_iload_n (pc := 27) dX5_perturbAndObserve_27 4 rfl ?_
    refine g_iconst (pc := 28) dX5_perturbAndObserve_28 ?_
    refine g_iload (pc := 29) dX5_perturbAndObserve_29 0 rfl ?_
    refine g_callS (pc := 31) (As := [.int (zI a), .int (zI 0), .int (zI (limit σ s))]) (rest := []) k_X5_74_X5 (c_X5_isWithin (σ := σ) a 0 (limit σ s) (by omega) (by omega) (by omega)) ⟨rfl, rfl, Nat.le_of_ble_eq_true rfl, Nat.le_of_ble_eq_true rfl⟩ rfl rfl (Nat.le_of_ble_eq_true rfl) dX5_perturbAndObserve_31 (fun v_ w_ hq_ => ?_)
    rcases hq_ with ⟨rfl, rfl, hw_2⟩ | ⟨rfl, rfl, hw_2⟩
    · refine g_one ?_
      refine g_if_eqF (pc := 34) 59 dX5_perturbAndObserve_34 (by decide) (by omega) (by omega) ?_
      refine g_iload_n (pc := 37) dX5_perturbAndObserve_37 5 rfl ?_
      refine g_iconst (pc := 38) dX5_perturbAndObserve_38 ?_
      refine g_bipush (pc := 39) dX5_perturbAndObserve_39 (by omega) ?_
      refine g_callS (pc := 41) (As := [.int (zI t), .int (zI 1), .int (zI 100)]) (rest := []) k_X5_74_X5 (c_X5_isWithin (σ := σ) t 1 100 (by omega) (by omega) (by omega)) ⟨rfl, rfl, Nat.le_of_ble_eq_true rfl, Nat.le_of_ble_eq_true rfl⟩ rfl rfl (Nat.le_of_ble_eq_true rfl) dX5_perturbAndObserve_41 (fun v_ w_ hq_ => ?_)
      rcases hq_ with ⟨rfl, rfl, hw_3⟩ | ⟨rfl, rfl, hw_3⟩
      · refine g_one ?_
        refine g_if_eqF (pc := 44) 59 dX5_perturbAndObserve_44 (by decide) (by omega) (by omega) ?_
        refine g_iload (pc := 47) dX5_perturbAndObserve_47 6 rfl ?_
        refine g_iconst (pc := 49) dX5_perturbAndObserve_49 ?_
        refine g_sipush (pc := 50) dX5_perturbAndObserve_50 (by omega) ?_
        refine g_callS (pc := 53) (As := [.int (zI it), .int (zI 0), .int (zI 200)]) (rest := []) k_X5_74_X5 (c_X5_isWithin (σ := σ) it 0 200 (by omega) (by omega) (by omega)) ⟨rfl, rfl, Nat.le_of_ble_eq_true rfl, Nat.le_of_ble_eq_true rfl⟩ rfl rfl (Nat.le_of_ble_eq_true rfl) dX5_perturbAndObserve_53 (fun v_ w_ hq_ => ?_)
        rcases hq_ with ⟨rfl, rfl, hw_4⟩ | ⟨rfl, rfl, hw_4⟩
        · refine g_one ?_
          refine g_if_neT (pc := 56) 63 dX5_perturbAndObserve_56 (by decide) (by omega) (by omega) ?_
          refine g_iload_n (pc := 63) dX5_perturbAndObserve_63 4 rfl ?_
          refine g_istore (pc := 64) (lv' := [(7, .int (zI a)), (6, .int (zI (limit σ s))), (5, .ref (ad (31 + s.toNat))), (0, .ref (ad 0)), (1, .int (zI s)), (2, .int (zI a)), (3, .int (zI t)), (4, .int (zI it))]) dX5_perturbAndObserve_64 (by decide) rfl ?_
          refine g_iconst (pc := 66) dX5_perturbAndObserve_66 ?_
          refine g_istore (pc := 67) (lv' := [(8, .int (zI 1)), (7, .int (zI a)), (6, .int (zI (limit σ s))), (5, .ref (ad (31 + s.toNat))), (0, .ref (ad 0)), (1, .int (zI s)), (2, .int (zI a)), (3, .int (zI t)), (4, .int (zI it))]) dX5_perturbAndObserve_67 (by decide) rfl ?_
          refine g_iconst (pc := 69) dX5_perturbAndObserve_69 ?_
          refine g_istore (pc := 70) (lv' := [(9, .int (zI 0)), (8, .int (zI 1)), (7, .int (zI a)), (6, .int (zI (limit σ s))), (5, .ref (ad (31 + s.toNat))), (0, .ref (ad 0)), (1, .int (zI s)), (2, .int (zI a)), (3, .int (zI t)), (4, .int (zI it))]) dX5_perturbAndObserve_70 (by decide) rfl ?_
          refine g_sub (lv' := [(0, .ref (ad 0)), (1, .int (zI s)), (2, .int (zI a)), (3, .int (zI t)), (4, .int (zI it)), (5, .ref (ad (31 + s.toNat))), (6, .int (zI (limit σ s))), (7, .int (zI a)), (8, .int (zI 1)), (9, .int (zI 0))]) [5, 6, 7, 8, 9, 4, 3, 2, 1, 0] rfl ?_
          exact lp_X5_perturb hB hL s (by omega) a t it ⟨by omega, by omega, by omega⟩ (it.toNat + 1) true a 0 (by omega) (by omega) (by omega) (by omega) (by unfold a_perturb; rw [if_pos (by omega), if_pos (by omega), show it - 0 = it by omega]) (by omega)
        · refine g_one ?_
          refine g_if_neF (pc := 56) 63 dX5_perturbAndObserve_56 (by decide) (by omega) (by omega) ?_
          refine g_sipush (pc := 59) dX5_perturbAndObserve_59 (by omega) ?_
          exact g_iret (pc := 62) dX5_perturbAndObserve_62 rfl (rdI_of (by unfold a_perturb; (repeat' split) <;> first | rfl | (exfalso; omega)))
      · refine g_one ?_
        refine g_if_eqT (pc := 44) 59 dX5_perturbAndObserve_44 (by decide) (by omega) (by omega) ?_
        refine g_sipush (pc := 59) dX5_perturbAndObserve_59 (by omega) ?_
        exact g_iret (pc := 62) dX5_perturbAndObserve_62 rfl (rdI_of (by unfold a_perturb; (repeat' split) <;> first | rfl | (exfalso; omega)))
    · refine g_one ?_
      refine g_if_eqT (pc := 34) 59 dX5_perturbAndObserve_34 (by decide) (by omega) (by omega) ?_
      refine g_sipush (pc := 59) dX5_perturbAndObserve_59 (by omega) ?_
      exact g_iret (pc := 62) dX5_perturbAndObserve_62 rfl (rdI_of (by unfold a_perturb; (repeat' split) <;> first | rfl | (exfalso; omega)))
  · refine g_one ?_
    refine g_if_neF (pc := 5) 12 dX5_perturbAndObserve_5 (by decide) (by omega) (by omega) ?_
    refine g_sipush (pc := 8) dX5_perturbAndObserve_8 (by omega) ?_
    exact g_iret (pc := 11) dX5_perturbAndObserve_11 rfl (rdI_of (by unfold a_perturb; (repeat' split) <;> first | rfl | (exfalso; omega)))
