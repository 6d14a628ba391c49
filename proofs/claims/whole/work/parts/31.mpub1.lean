set_option maxRecDepth 100000 in
set_option maxHeartbeats 2000000 in
/-- PvArrayModel.moduleAt  -/
theorem c_X6_moduleAt {D : va_G} {cy : Nat → ClassId} {l : Launch} {bd : Nat → Nat} {τ : Nat → Int → Int} {X : va_W} (hB : Bd τ) (s : Int) (hs : -2147483648 ≤ s ∧ s ≤ 2147483647) (p : Int) (hp : -2147483648 ≤ p ∧ p ≤ 2147483647) : Con D cy l yX6_moduleAt cX6_moduleAt 3 (some .int) rm_X6_moduleAt [.ref (bd 0), .int (zI s), .int (zI p)] (MW cy bd τ ++ X) (rdI (a_moduleAt τ s p) (MW cy bd τ ++ X)) := by
  refine Con.of (lv := [(0, .ref (bd 0)), (1, .int (zI s)), (2, .int (zI p))]) (by decide) (Nat.le_of_ble_eq_true rfl) rfl ?_
  have g1 := hB.sc
  have g2 := hB.mc
  have g3 := hB.b6 s
  refine g_aload_n (pc := 0) dX6_moduleAt_0 0 rfl ?_
  refine g_iload_n (pc := 1) dX6_moduleAt_1 1 rfl ?_
  refine g_callV (pc := 2) (As := [.int (zI s)]) (rest := []) k_X6_62_X6 (c_X6_isString (τ := τ) hB s (by omega)) ⟨rfl, rfl, Nat.le_of_ble_eq_true rfl, Nat.le_of_ble_eq_true rfl⟩ (0) 5 rfl rfl am_obj rfl rfl (Nat.le_of_ble_eq_true rfl) dX6_moduleAt_2 (fun v_ w_ hq_ => ?_)
  rcases hq_ with ⟨rfl, rfl, hs_1⟩ | ⟨rfl, rfl, hs_1⟩
  · refine g_one ?_
    refine g_if_neT (pc := 5) 12 dX6_moduleAt_5 (by decide) (by omega) (by omega) ?_
    refine g_iload_n (pc := 12) dX6_moduleAt_12 2 rfl ?_
    refine g_if_ge (pc := 13) 20 dX6_moduleAt_13 (by decide) (by omega) (fun h_2 => ?_) (fun h_2 => ?_)
    · refine g_iload_n (pc := 20) dX6_moduleAt_20 2 rfl ?_
      refine g_aload_n (pc := 21) dX6_moduleAt_21 0 rfl ?_
      refine g_get (pc := 22) (ci := 5) inG_X6 rfl 8 (by decide) rfl fl_X6_26 (0) am_obj rfl dX6_moduleAt_22 ?_
      refine g_iload_n (pc := 25) dX6_moduleAt_25 1 rfl ?_
      refine g_iald (pc := 26) 6 am_6 (by omega) (by decide) dX6_moduleAt_26 ?_
      refine g_icmp_ge (pc := 27) 44 dX6_moduleAt_27 (by decide) (by omega) (by omega) (fun h_3 => ?_) (fun h_3 => ?_)
      · refine g_sipush (pc := 44) dX6_moduleAt_44 (by omega) ?_
        exact g_iret (pc := 47) dX6_moduleAt_47 rfl (rdI_of (by unfold a_moduleAt memb; (repeat' split) <;> first | rfl | (exfalso; omega)))
      · refine g_aload_n (pc := 30) dX6_moduleAt_30 0 rfl ?_
        refine g_get (pc := 31) (ci := 5) inG_X6 rfl 9 (by decide) rfl fl_X6_29 (0) am_obj rfl dX6_moduleAt_31 ?_
        refine g_bipush (pc := 34) dX6_moduleAt_34 (by omega) ?_
        refine g_iload_n (pc := 36) dX6_moduleAt_36 1 rfl ?_
        refine g_imul (pc := 37) dX6_moduleAt_37 ?_
        refine g_iload_n (pc := 38) dX6_moduleAt_38 2 rfl ?_
        refine g_iadd (pc := 39) dX6_moduleAt_39 ?_
        refine g_iald (pc := 40) 7 am_7 (by omega) (by decide) dX6_moduleAt_40 ?_
        refine g_goto (pc := 41) 47 dX6_moduleAt_41 (by decide) ?_
        exact g_iret (pc := 47) dX6_moduleAt_47 rfl (rdI_of (by unfold a_moduleAt memb; (repeat' split) <;> first | rfl | (exfalso; omega)))
    · refine g_sipush (pc := 16) dX6_moduleAt_16 (by omega) ?_
      exact g_iret (pc := 19) dX6_moduleAt_19 rfl (rdI_of (by unfold a_moduleAt memb; (repeat' split) <;> first | rfl | (exfalso; omega)))
  · refine g_one ?_
    refine g_if_neF (pc := 5) 12 dX6_moduleAt_5 (by decide) (by omega) (by omega) ?_
    refine g_sipush (pc := 8) dX6_moduleAt_8 (by omega) ?_
    exact g_iret (pc := 11) dX6_moduleAt_11 rfl (rdI_of (by unfold a_moduleAt memb; (repeat' split) <;> first | rfl | (exfalso; omega)))
set_option maxRecDepth 100000 in
set_option maxHeartbeats 2000000 in
/-- PvArrayModel.photocurrent  -/
theorem c_X6_photocurrent {D : va_G} {cy : Nat → ClassId} {l : Launch} {bd : Nat → Nat} {τ : Nat → Int → Int} {X : va_W} (hB : Bd τ) (m : Int) (hm : -2147483648 ≤ m ∧ m ≤ 2147483647) : Con D cy l yX6_photocurrent cX6_photocurrent 2 (some .int) rm_X6_photocurrent [.ref (bd 0), .int (zI m)] (MW cy bd τ ++ X) (rdI (a_photocurrent τ m) (MW cy bd τ ++ X)) := by
  refine Con.of (lv := [(0, .ref (bd 0)), (1, .int (zI m))]) (by decide) (Nat.le_of_ble_eq_true rfl) rfl ?_
  have g1 := hB.sc
  have g2 := hB.mc
  refine g_aload_n (pc := 0) dX6_photocurrent_0 0 rfl ?_
  refine g_iload_n (pc := 1) dX6_photocurrent_1 1 rfl ?_
  refine g_callV (pc := 2) (As := [.int (zI m)]) (rest := []) k_X6_70_X6 (c_X6_isModule (τ := τ) hB m (by omega)) ⟨rfl, rfl, Nat.le_of_ble_eq_true rfl, Nat.le_of_ble_eq_true rfl⟩ (0) 5 rfl rfl am_obj rfl rfl (Nat.le_of_ble_eq_true rfl) dX6_photocurrent_2 (fun v_ w_ hq_ => ?_)
  rcases hq_ with ⟨rfl, rfl, hm_1⟩ | ⟨rfl, rfl, hm_1⟩
  · refine g_one ?_
    refine g_if_eqF (pc := 5) 16 dX6_photocurrent_5 (by decide) (by omega) (by omega) ?_
    refine g_aload_n (pc := 8) dX6_photocurrent_8 0 rfl ?_
    refine g_iload_n (pc := 9) dX6_photocurrent_9 1 rfl ?_
    refine g_callV (pc := 10) (As := [.int (zI m)]) (rest := []) k_X6_84_X6 (c_X6_photocurrentOf (τ := τ) hB m (by omega)) ⟨rfl, rfl, Nat.le_of_ble_eq_true rfl, Nat.le_of_ble_eq_true rfl⟩ (0) 5 rfl rfl am_obj rfl rfl (Nat.le_of_ble_eq_true rfl) dX6_photocurrent_10 (fun v_ w_ hq_ => ?_)
    obtain ⟨rfl, rfl⟩ := hq_
    refine g_one ?_
    refine g_goto (pc := 13) 19 dX6_photocurrent_13 (by decide) ?_
    exact g_iret (pc := 19) dX6_photocurrent_19 rfl (rdI_of (by unfold a_photocurrent; (repeat' split) <;> first | rfl | (exfalso; omega)))
  · refine g_one ?_
    refine g_if_eqT (pc := 5) 16 dX6_photocurrent_5 (by decide) (by omega) (by omega) ?_
    refine g_sipush (pc := 16) dX6_photocurrent_16 (by omega) ?_
    exact g_iret (pc := 19) dX6_photocurrent_19 rfl (rdI_of (by unfold a_photocurrent; (repeat' split) <;> first | rfl | (exfalso; omega)))
set_option maxRecDepth 100000 in
set_option maxHeartbeats 2000000 in
/-- PvArrayModel.moduleVoltage  -/
theorem c_X6_moduleVoltage {D : va_G} {cy : Nat → ClassId} {l : Launch} {bd : Nat → Nat} {τ : Nat → Int → Int} {X : va_W} (hB : Bd τ) (m : Int) (hm : -2147483648 ≤ m ∧ m ≤ 2147483647) (c : Int) (hc : -2147483648 ≤ c ∧ c ≤ 2147483647) : Con D cy l yX6_moduleVoltage cX6_moduleVoltage 3 (some .int) rm_X6_moduleVoltage [.ref (bd 0), .int (zI m), .int (zI c)] (MW cy bd τ ++ X) (rdI (a_moduleVoltage τ m c) (MW cy bd τ ++ X)) := by
  refine Con.of (lv := [(0, .ref (bd 0)), (1, .int (zI m)), (2, .int (zI c))]) (by decide) (Nat.le_of_ble_eq_true rfl) rfl ?_
  have g1 := hB.sc
  have g2 := hB.mc
  have g3 := photo_b hB m
  have g4 := hB.b5 m
  refine g_aload_n (pc := 0) dX6_moduleVoltage_0 0 rfl ?_
  refine g_iload_n (pc := 1) dX6_moduleVoltage_1 1 rfl ?_
  refine g_callV (pc := 2) (As := [.int (zI m)]) (rest := []) k_X6_70_X6 (c_X6_isModule (τ := τ) hB m (by omega)) ⟨rfl, rfl, Nat.le_of_ble_eq_true rfl, Nat.le_of_ble_eq_true rfl⟩ (0) 5 rfl rfl am_obj rfl rfl (Nat.le_of_ble_eq_true rfl) dX6_moduleVoltage_2 (fun v_ w_ hq_ => ?_)
  rcases hq_ with ⟨rfl, rfl, hm_1⟩ | ⟨rfl, rfl, hm_1⟩
  · refine g_one ?_
    refine g_if_neT (pc := 5) 12 dX6_moduleVoltage_5 (by decide) (by omega) (by omega) ?_
    refine g_iload_n (pc := 12) dX6_moduleVoltage_12 2 rfl ?_
    refine g_iconst (pc := 13) dX6_moduleVoltage_13 ?_
    refine g_sipush (pc := 14) dX6_moduleVoltage_14 (by omega) ?_
    refine g_callS (pc := 17) (As := [.int (zI c), .int (zI 0), .int (zI 1200)]) (rest := []) k_X6_55_X6 (c_X6_isBetween (τ := τ) c 0 1200 (by omega) (by omega) (by omega)) ⟨rfl, rfl, Nat.le_of_ble_eq_true rfl, Nat.le_of_ble_eq_true rfl⟩ rfl rfl (Nat.le_of_ble_eq_true rfl) dX6_moduleVoltage_17 (fun v_ w_ hq_ => ?_)
    rcases hq_ with ⟨rfl, rfl, hw_2⟩ | ⟨rfl, rfl, hw_2⟩
    · refine g_one ?_
      refine g_if_neT (pc := 20) 27 dX6_moduleVoltage_20 (by decide) (by omega) (by omega) ?_
      refine g_iload_n (pc := 27) dX6_moduleVoltage_27 2 rfl ?_
      refine g_aload_n (pc := 28) dX6_moduleVoltage_28 0 rfl ?_
      refine g_iload_n (pc := 29) dX6_moduleVoltage_29 1 rfl ?_
      refine g_callV (pc := 30) (As := [.int (zI m)]) (rest := [.int (zI c)]) k_X6_84_X6 (c_X6_photocurrentOf (τ := τ) hB m (by omega)) ⟨rfl, rfl, Nat.le_of_ble_eq_true rfl, Nat.le_of_ble_eq_true rfl⟩ (0) 5 rfl rfl am_obj rfl rfl (Nat.le_of_ble_eq_true rfl) dX6_moduleVoltage_30 (fun v_ w_ hq_ => ?_)
      obtain ⟨rfl, rfl⟩ := hq_
      refine g_one ?_
      refine g_icmp_le (pc := 33) 49 dX6_moduleVoltage_33 (by decide) (by omega) (by omega) (fun h_3 => ?_) (fun h_3 => ?_)
      · refine g_aload_n (pc := 49) dX6_moduleVoltage_49 0 rfl ?_
        refine g_iload_n (pc := 50) dX6_moduleVoltage_50 1 rfl ?_
        refine g_iload_n (pc := 51) dX6_moduleVoltage_51 2 rfl ?_
        refine g_callV (pc := 52) (As := [.int (zI m), .int (zI c)]) (rest := []) k_X6_91_X6 (c_X6_voltageOf (τ := τ) hB m (by omega) c (by omega)) ⟨rfl, rfl, Nat.le_of_ble_eq_true rfl, Nat.le_of_ble_eq_true rfl⟩ (0) 5 rfl rfl am_obj rfl rfl (Nat.le_of_ble_eq_true rfl) dX6_moduleVoltage_52 (fun v_ w_ hq_ => ?_)
        obtain ⟨rfl, rfl⟩ := hq_
        refine g_one ?_
        exact g_iret (pc := 55) dX6_moduleVoltage_55 rfl (rdI_of (by unfold a_moduleVoltage; (repeat' split) <;> first | rfl | (exfalso; omega)))
      · refine g_aload_n (pc := 36) dX6_moduleVoltage_36 0 rfl ?_
        refine g_get (pc := 37) (ci := 5) inG_X6 rfl 6 (by decide) rfl fl_X6_22 (0) am_obj rfl dX6_moduleVoltage_37 ?_
        refine g_iload_n (pc := 40) dX6_moduleVoltage_40 1 rfl ?_
        refine g_zald (pc := 41) 5 am_5 (by omega) (by decide) dX6_moduleVoltage_41 ?_
        refine g_if_ne (pc := 42) 49 dX6_moduleVoltage_42 (by decide) (by omega) (fun h_4 => ?_) (fun h_4 => ?_)
        · refine g_aload_n (pc := 49) dX6_moduleVoltage_49 0 rfl ?_
          refine g_iload_n (pc := 50) dX6_moduleVoltage_50 1 rfl ?_
          refine g_iload_n (pc := 51) dX6_moduleVoltage_51 2 rfl ?_
          refine g_callV (pc := 52) (As := [.int (zI m), .int (zI c)]) (rest := []) k_X6_91_X6 (c_X6_voltageOf (τ := τ) hB m (by omega) c (by omega)) ⟨rfl, rfl, Nat.le_of_ble_eq_true rfl, Nat.le_of_ble_eq_true rfl⟩ (0) 5 rfl rfl am_obj rfl rfl (Nat.le_of_ble_eq_true rfl) dX6_moduleVoltage_52 (fun v_ w_ hq_ => ?_)
          obtain ⟨rfl, rfl⟩ := hq_
          refine g_one ?_
          exact g_iret (pc := 55) dX6_moduleVoltage_55 rfl (rdI_of (by unfold a_moduleVoltage; (repeat' split) <;> first | rfl | (exfalso; omega)))
        · refine g_sipush (pc := 45) dX6_moduleVoltage_45 (by omega) ?_
          exact g_iret (pc := 48) dX6_moduleVoltage_48 rfl (rdI_of (by unfold a_moduleVoltage; (repeat' split) <;> first | rfl | (exfalso; omega)))
    · refine g_one ?_
      refine g_if_neF (pc := 20) 27 dX6_moduleVoltage_20 (by decide) (by omega) (by omega) ?_
      refine g_sipush (pc := 23) dX6_moduleVoltage_23 (by omega) ?_
      exact g_iret (pc := 26) dX6_moduleVoltage_26 rfl (rdI_of (by unfold a_moduleVoltage; (repeat' split) <;> first | rfl | (exfalso; omega)))
  · refine g_one ?_
    refine g_if_neF (pc := 5) 12 dX6_moduleVoltage_5 (by decide) (by omega) (by omega) ?_
    refine g_sipush (pc := 8) dX6_moduleVoltage_8 (by omega) ?_
    exact g_iret (pc := 11) dX6_moduleVoltage_11 rfl (rdI_of (by unfold a_moduleVoltage; (repeat' split) <;> first | rfl | (exfalso; omega)))
set_option maxRecDepth 100000 in
set_option maxHeartbeats 2000000 in
/-- PvArrayModel.modulePeakPower  -/
theorem c_X6_modulePeakPower {D : va_G} {cy : Nat → ClassId} {l : Launch} {bd : Nat → Nat} {τ : Nat → Int → Int} {X : va_W} (hB : Bd τ) (m : Int) (hm : -2147483648 ≤ m ∧ m ≤ 2147483647) : Con D cy l yX6_modulePeakPower cX6_modulePeakPower 2 (some .long) rm_X6_modulePeakPower [.ref (bd 0), .int (zI m)] (MW cy bd τ ++ X) (rdJ (a_modulePeakPower τ m) (MW cy bd τ ++ X)) := by
  refine Con.of (lv := [(0, .ref (bd 0)), (1, .int (zI m))]) (by decide) (Nat.le_of_ble_eq_true rfl) rfl ?_
  have g1 := hB.sc
  have g2 := hB.mc
  refine g_aload_n (pc := 0) dX6_modulePeakPower_0 0 rfl ?_
  refine g_iload_n (pc := 1) dX6_modulePeakPower_1 1 rfl ?_
  refine g_callV (pc := 2) (As := [.int (zI m)]) (rest := []) k_X6_70_X6 (c_X6_isModule (τ := τ) hB m (by omega)) ⟨rfl, rfl, Nat.le_of_ble_eq_true rfl, Nat.le_of_ble_eq_true rfl⟩ (0) 5 rfl rfl am_obj rfl rfl (Nat.le_of_ble_eq_true rfl) dX6_modulePeakPower_2 (fun v_ w_ hq_ => ?_)
  rcases hq_ with ⟨rfl, rfl, hm_1⟩ | ⟨rfl, rfl, hm_1⟩
  · refine g_one ?_
    refine g_if_eqF (pc := 5) 16 dX6_modulePeakPower_5 (by decide) (by omega) (by omega) ?_
    refine g_aload_n (pc := 8) dX6_modulePeakPower_8 0 rfl ?_
    refine g_iload_n (pc := 9) dX6_modulePeakPower_9 1 rfl ?_
    refine g_callV (pc := 10) (As := [.int (zI m)]) (rest := []) k_X6_94_X6 (c_X6_peakPowerOf (τ := τ) hB m (by omega)) ⟨rfl, rfl, Nat.le_of_ble_eq_true rfl, Nat.le_of_ble_eq_true rfl⟩ (0) 5 rfl rfl am_obj rfl rfl (Nat.le_of_ble_eq_true rfl) dX6_modulePeakPower_10 (fun v_ w_ hq_ => ?_)
    obtain ⟨rfl, rfl⟩ := hq_
    refine g_one ?_
    refine g_goto (pc := 13) 19 dX6_modulePeakPower_13 (by decide) ?_
    exact g_lret (pc := 19) dX6_modulePeakPower_19 rfl (rdJ_of (by unfold a_modulePeakPower; (repeat' split) <;> first | rfl | (exfalso; omega)))
  · refine g_one ?_
    refine g_if_eqT (pc := 5) 16 dX6_modulePeakPower_5 (by decide) (by omega) (by omega) ?_
    refine g_ldc2 (pc := 16) cl_X6_98 dX6_modulePeakPower_16 ?_
    exact g_lret (pc := 19) dX6_modulePeakPower_19 rfl (rdJ_of (by unfold a_modulePeakPower; (repeat' split) <;> first | rfl | (exfalso; omega)))
set_option maxRecDepth 100000 in
set_option maxHeartbeats 2000000 in
/-- PvArrayModel.currentLimit  -/
theorem c_X6_currentLimit {D : va_G} {cy : Nat → ClassId} {l : Launch} {bd : Nat → Nat} {τ : Nat → Int → Int} {X : va_W} (hB : Bd τ) (s : Int) (hs : -2147483648 ≤ s ∧ s ≤ 2147483647) : Con D cy l yX6_currentLimit cX6_currentLimit 2 (some .int) rm_X6_currentLimit [.ref (bd 0), .int (zI s)] (MW cy bd τ ++ X) (rdI (a_currentLimit τ s) (MW cy bd τ ++ X)) := by
  refine Con.of (lv := [(0, .ref (bd 0)), (1, .int (zI s))]) (by decide) (Nat.le_of_ble_eq_true rfl) rfl ?_
  have g1 := hB.sc
  have g2 := hB.mc
  refine g_aload_n (pc := 0) dX6_currentLimit_0 0 rfl ?_
  refine g_iload_n (pc := 1) dX6_currentLimit_1 1 rfl ?_
  refine g_callV (pc := 2) (As := [.int (zI s)]) (rest := []) k_X6_62_X6 (c_X6_isString (τ := τ) hB s (by omega)) ⟨rfl, rfl, Nat.le_of_ble_eq_true rfl, Nat.le_of_ble_eq_true rfl⟩ (0) 5 rfl rfl am_obj rfl rfl (Nat.le_of_ble_eq_true rfl) dX6_currentLimit_2 (fun v_ w_ hq_ => ?_)
  rcases hq_ with ⟨rfl, rfl, hs_1⟩ | ⟨rfl, rfl, hs_1⟩
  · refine g_one ?_
    refine g_if_eqF (pc := 5) 16 dX6_currentLimit_5 (by decide) (by omega) (by omega) ?_
    refine g_aload_n (pc := 8) dX6_currentLimit_8 0 rfl ?_
    refine g_iload_n (pc := 9) dX6_currentLimit_9 1 rfl ?_
    refine g_callV (pc := 10) (As := [.int (zI s)]) (rest := []) k_X6_103_X6 (c_X6_limitOf (τ := τ) hB s (by omega)) ⟨rfl, rfl, Nat.le_of_ble_eq_true rfl, Nat.le_of_ble_eq_true rfl⟩ (0) 5 rfl rfl am_obj rfl rfl (Nat.le_of_ble_eq_true rfl) dX6_currentLimit_10 (fun v_ w_ hq_ => ?_)
    obtain ⟨rfl, rfl⟩ := hq_
    refine g_one ?_
    refine g_goto (pc := 13) 19 dX6_currentLimit_13 (by decide) ?_
    exact g_iret (pc := 19) dX6_currentLimit_19 rfl (rdI_of (by unfold a_currentLimit; (repeat' split) <;> first | rfl | (exfalso; omega)))
  · refine g_one ?_
    refine g_if_eqT (pc := 5) 16 dX6_currentLimit_5 (by decide) (by omega) (by omega) ?_
    refine g_sipush (pc := 16) dX6_currentLimit_16 (by omega) ?_
    exact g_iret (pc := 19) dX6_currentLimit_19 rfl (rdI_of (by unfold a_currentLimit; (repeat' split) <;> first | rfl | (exfalso; omega)))
set_option maxRecDepth 100000 in
set_option maxHeartbeats 2000000 in
/-- PvArrayModel.stringVoltage  -/
theorem c_X6_stringVoltage {D : va_G} {cy : Nat → ClassId} {l : Launch} {bd : Nat → Nat} {τ : Nat → Int → Int} {X : va_W} (hB : Bd τ) (s : Int) (hs : -2147483648 ≤ s ∧ s ≤ 2147483647) (c : Int) (hc : -2147483648 ≤ c ∧ c ≤ 2147483647) : Con D cy l yX6_stringVoltage cX6_stringVoltage 3 (some .int) rm_X6_stringVoltage [.ref (bd 0), .int (zI s), .int (zI c)] (MW cy bd τ ++ X) (rdI (a_stringVoltage τ s c) (MW cy bd τ ++ X)) := by
  refine Con.of (lv := [(0, .ref (bd 0)), (1, .int (zI s)), (2, .int (zI c))]) (by decide) (Nat.le_of_ble_eq_true rfl) rfl ?_
  have g1 := hB.sc
  have g2 := hB.mc
  have g3 := limit_b hB s
  refine g_aload_n (pc := 0) dX6_stringVoltage_0 0 rfl ?_
  refine g_iload_n (pc := 1) dX6_stringVoltage_1 1 rfl ?_
  refine g_callV (pc := 2) (As := [.int (zI s)]) (rest := []) k_X6_62_X6 (c_X6_isString (τ := τ) hB s (by omega)) ⟨rfl, rfl, Nat.le_of_ble_eq_true rfl, Nat.le_of_ble_eq_true rfl⟩ (0) 5 rfl rfl am_obj rfl rfl (Nat.le_of_ble_eq_true rfl) dX6_stringVoltage_2 (fun v_ w_ hq_ => ?_)
  rcases hq_ with ⟨rfl, rfl, hs_1⟩ | ⟨rfl, rfl, hs_1⟩
  · refine g_one ?_
    refine g_if_neT (pc := 5) 12 dX6_stringVoltage_5 (by decide) (by omega) (by omega) ?_
    refine g_iload_n (pc := 12) dX6_stringVoltage_12 2 rfl ?_
    refine g_iconst (pc := 13) dX6_stringVoltage_13 ?_
    refine g_aload_n (pc := 14) dX6_stringVoltage_14 0 rfl ?_
    refine g_iload_n (pc := 15) dX6_stringVoltage_15 1 rfl ?_
    refine g_callV (pc := 16) (As := [.int (zI s)]) (rest := [.int (zI 0), .int (zI c)]) k_X6_103_X6 (c_X6_limitOf (τ := τ) hB s (by omega)) ⟨rfl, rfl, Nat.le_of_ble_eq_true rfl, Nat.le_of_ble_eq_true rfl⟩ (0) 5 rfl rfl am_obj rfl rfl (Nat.le_of_ble_eq_true rfl) dX6_stringVoltage_16 (fun v_ w_ hq_ => ?_)
    obtain ⟨rfl, rfl⟩ := hq_
    refine g_one ?_
    refine g_callS (pc := 19) (As := [.int (zI c), .int (zI 0), .int (zI (limit τ s))]) (rest := []) k_X6_55_X6 (c_X6_isBetween (τ := τ) c 0 (limit τ s) (by omega) (by omega) (by omega)) ⟨rfl, rfl, Nat.le_of_ble_eq_true rfl, Nat.le_of_ble_eq_true rfl⟩ rfl rfl (Nat.le_of_ble_eq_true rfl) dX6_stringVoltage_19 (fun v_ w_ hq_ => ?_)
    rcases hq_ with ⟨rfl, rfl, hw_2⟩ | ⟨rfl, rfl, hw_2⟩
    · refine g_one ?_
      refine g_if_eqF (pc := 22) 34 dX6_stringVoltage_22 (by decide) (by omega) (by omega) ?_
      refine g_aload_n (pc := 25) dX6_stringVoltage_25 0 rfl ?_
      refine g_iload_n (pc := 26) dX6_stringVoltage_26 1 rfl ?_
      refine g_iload_n (pc := 27) dX6_stringVoltage_27 2 rfl ?_
      refine g_callV (pc := 28) (As := [.int (zI s), .int (zI c)]) (rest := []) k_X6_100_X6 (c_X6_voltageAt (τ := τ) hB s (by omega) c (by omega)) ⟨rfl, rfl, Nat.le_of_ble_eq_true rfl, Nat.le_of_ble_eq_true rfl⟩ (0) 5 rfl rfl am_obj rfl rfl (Nat.le_of_ble_eq_true rfl) dX6_stringVoltage_28 (fun v_ w_ hq_ => ?_)
      obtain ⟨rfl, rfl⟩ := hq_
      refine g_one ?_
      refine g_goto (pc := 31) 37 dX6_stringVoltage_31 (by decide) ?_
      exact g_iret (pc := 37) dX6_stringVoltage_37 rfl (rdI_of (by unfold a_stringVoltage; (repeat' split) <;> first | rfl | (exfalso; omega)))
    · refine g_one ?_
      refine g_if_eqT (pc := 22) 34 dX6_stringVoltage_22 (by decide) (by omega) (by omega) ?_
      refine g_sipush (pc := 34) dX6_stringVoltage_34 (by omega) ?_
      exact g_iret (pc := 37) dX6_stringVoltage_37 rfl (rdI_of (by unfold a_stringVoltage; (repeat' split) <;> first | rfl | (exfalso; omega)))
  · refine g_one ?_
    refine g_if_neF (pc := 5) 12 dX6_stringVoltage_5 (by decide) (by omega) (by omega) ?_
    refine g_sipush (pc := 8) dX6_stringVoltage_8 (by omega) ?_
    exact g_iret (pc := 11) dX6_stringVoltage_11 rfl (rdI_of (by unfold a_stringVoltage; (repeat' split) <;> first | rfl | (exfalso; omega)))
set_option maxRecDepth 100000 in
set_option maxHeartbeats 2000000 in
/-- PvArrayModel.stringPower  -/
theorem c_X6_stringPower {D : va_G} {cy : Nat → ClassId} {l : Launch} {bd : Nat → Nat} {τ : Nat → Int → Int} {X : va_W} (hB : Bd τ) (s : Int) (hs : -2147483648 ≤ s ∧ s ≤ 2147483647) (c : Int) (hc : -2147483648 ≤ c ∧ c ≤ 2147483647) : Con D cy l yX6_stringPower cX6_stringPower 3 (some .long) rm_X6_stringPower [.ref (bd 0), .int (zI s), .int (zI c)] (MW cy bd τ ++ X) (rdJ (a_stringPower τ s c) (MW cy bd τ ++ X)) := by
  refine Con.of (lv := [(0, .ref (bd 0)), (1, .int (zI s)), (2, .int (zI c))]) (by decide) (Nat.le_of_ble_eq_true rfl) rfl ?_
  have g1 := hB.sc
  have g2 := hB.mc
  have g3 := limit_b hB s
  refine g_aload_n (pc := 0) dX6_stringPower_0 0 rfl ?_
  refine g_iload_n (pc := 1) dX6_stringPower_1 1 rfl ?_
  refine g_callV (pc := 2) (As := [.int (zI s)]) (rest := []) k_X6_62_X6 (c_X6_isString (τ := τ) hB s (by omega)) ⟨rfl, rfl, Nat.le_of_ble_eq_true rfl, Nat.le_of_ble_eq_true rfl⟩ (0) 5 rfl rfl am_obj rfl rfl (Nat.le_of_ble_eq_true rfl) dX6_stringPower_2 (fun v_ w_ hq_ => ?_)
  rcases hq_ with ⟨rfl, rfl, hs_1⟩ | ⟨rfl, rfl, hs_1⟩
  · refine g_one ?_
    refine g_if_eqF (pc := 5) 30 dX6_stringPower_5 (by decide) (by omega) (by omega) ?_
    refine g_iload_n (pc := 8) dX6_stringPower_8 2 rfl ?_
    refine g_iconst (pc := 9) dX6_stringPower_9 ?_
    refine g_aload_n (pc := 10) dX6_stringPower_10 0 rfl ?_
    refine g_iload_n (pc := 11) dX6_stringPower_11 1 rfl ?_
    refine g_callV (pc := 12) (As := [.int (zI s)]) (rest := [.int (zI 0), .int (zI c)]) k_X6_103_X6 (c_X6_limitOf (τ := τ) hB s (by omega)) ⟨rfl, rfl, Nat.le_of_ble_eq_true rfl, Nat.le_of_ble_eq_true rfl⟩ (0) 5 rfl rfl am_obj rfl rfl (Nat.le_of_ble_eq_true rfl) dX6_stringPower_12 (fun v_ w_ hq_ => ?_)
    obtain ⟨rfl, rfl⟩ := hq_
    refine g_one ?_
    refine g_callS (pc := 15) (As := [.int (zI c), .int (zI 0), .int (zI (limit τ s))]) (rest := []) k_X6_55_X6 (c_X6_isBetween (τ := τ) c 0 (limit τ s) (by omega) (by omega) (by omega)) ⟨rfl, rfl, Nat.le_of_ble_eq_true rfl, Nat.le_of_ble_eq_true rfl⟩ rfl rfl (Nat.le_of_ble_eq_true rfl) dX6_stringPower_15 (fun v_ w_ hq_ => ?_)
    rcases hq_ with ⟨rfl, rfl, hw_2⟩ | ⟨rfl, rfl, hw_2⟩
    · refine g_one ?_
      refine g_if_eqF (pc := 18) 30 dX6_stringPower_18 (by decide) (by omega) (by omega) ?_
      refine g_aload_n (pc := 21) dX6_stringPower_21 0 rfl ?_
      refine g_iload_n (pc := 22) dX6_stringPower_22 1 rfl ?_
      refine g_iload_n (pc := 23) dX6_stringPower_23 2 rfl ?_
      refine g_callV (pc := 24) (As := [.int (zI s), .int (zI c)]) (rest := []) k_X6_106_X6 (c_X6_powerAt (τ := τ) hB s (by omega) c (by omega)) ⟨rfl, rfl, Nat.le_of_ble_eq_true rfl, Nat.le_of_ble_eq_true rfl⟩ (0) 5 rfl rfl am_obj rfl rfl (Nat.le_of_ble_eq_true rfl) dX6_stringPower_24 (fun v_ w_ hq_ => ?_)
      obtain ⟨rfl, rfl⟩ := hq_
      refine g_one ?_
      refine g_goto (pc := 27) 33 dX6_stringPower_27 (by decide) ?_
      exact g_lret (pc := 33) dX6_stringPower_33 rfl (rdJ_of (by unfold a_stringPower; (repeat' split) <;> first | rfl | (exfalso; omega)))
    · refine g_one ?_
      refine g_if_eqT (pc := 18) 30 dX6_stringPower_18 (by decide) (by omega) (by omega) ?_
      refine g_ldc2 (pc := 30) cl_X6_98 dX6_stringPower_30 ?_
      exact g_lret (pc := 33) dX6_stringPower_33 rfl (rdJ_of (by unfold a_stringPower; (repeat' split) <;> first | rfl | (exfalso; omega)))
  · refine g_one ?_
    refine g_if_eqT (pc := 5) 30 dX6_stringPower_5 (by decide) (by omega) (by omega) ?_
    refine g_ldc2 (pc := 30) cl_X6_98 dX6_stringPower_30 ?_
    exact g_lret (pc := 33) dX6_stringPower_33 rfl (rdJ_of (by unfold a_stringPower; (repeat' split) <;> first | rfl | (exfalso; omega)))
set_option maxRecDepth 100000 in
set_option maxHeartbeats 2000000 in
/-- PvArrayModel.bypassedModules, the loop at 34  -/
theorem lp_X6_byp {D : va_G} {cy : Nat → ClassId} {l : Launch} {bd : Nat → Nat} {τ : Nat → Int → Int} {X : va_W} (hB : Bd τ) (s : Int) (hs : 0 ≤ s ∧ s < τ 0 2) (c : Int) (hc : 0 ≤ c ∧ c ≤ limit τ s) : ∀ (n : Nat) (p : Int), 0 ≤ p → p ≤ τ 6 s → (τ 6 s - p).toNat < n → GO D cy l rm_X6_bypassedModules cX6_bypassedModules 5 yX6_bypassedModules.cls (some .int) (MW cy bd τ ++ X) (fun v w' => v = some (.int (a_bypassedModules τ s c)) ∧ w' = MW cy bd τ ++ X) (MW cy bd τ ++ X) 34 [(0, .ref (bd 0)), (1, .int (zI s)), (2, .int (zI c)), (3, .int (bitP (fun p => decide (photo τ (memb τ s p) < c)) p.toNat)), (4, .int (zI p))] [] := by
  intro n
  induction n with
  | zero =>
    intro p hp hp2 hn
    exact absurd hn (Nat.not_lt_zero _)
  | succ n ih =>
    intro p hp hp2 hn
    have g1 := hB.sc
    have g2 := hB.mc
    have g3 := limit_b hB s
    have h1 := hB.b6 s
    have h2 := hB.b7 (12 * s + p)
    have h5 := photo_b hB (τ 7 (12 * s + p))
    refine g_iload (pc := 34) dX6_bypassedModules_34 4 rfl ?_
    refine g_aload_n (pc := 36) dX6_bypassedModules_36 0 rfl ?_
    refine g_get (pc := 37) (ci := 5) inG_X6 rfl 8 (by decide) rfl fl_X6_26 (0) am_obj rfl dX6_bypassedModules_37 ?_
    refine g_iload_n (pc := 40) dX6_bypassedModules_40 1 rfl ?_
    refine g_iald (pc := 41) 6 am_6 (by omega) (by decide) dX6_bypassedModules_41 ?_
    refine g_icmp_ge (pc := 42) 82 dX6_bypassedModules_42 (by decide) (by omega) (by omega) (fun h_1 => ?_) (fun h_1 => ?_)
    · refine g_iload_n (pc := 82) dX6_bypassedModules_82 3 rfl ?_
      exact g_iret (pc := 83) dX6_bypassedModules_83 rfl (⟨by unfold a_bypassedModules byp; rw [if_pos hs, if_pos hc, show p = τ 6 s by omega], rfl⟩)
    · refine g_iload_n (pc := 45) dX6_bypassedModules_45 3 rfl ?_
      refine g_iload_n (pc := 46) dX6_bypassedModules_46 2 rfl ?_
      refine g_aload_n (pc := 47) dX6_bypassedModules_47 0 rfl ?_
      refine g_aload_n (pc := 48) dX6_bypassedModules_48 0 rfl ?_
      refine g_get (pc := 49) (ci := 5) inG_X6 rfl 9 (by decide) rfl fl_X6_29 (0) am_obj rfl dX6_bypassedModules_49 ?_
      refine g_bipush (pc := 52) dX6_bypassedModules_52 (by omega) ?_
      refine g_iload_n (pc := 54) dX6_bypassedModules_54 1 rfl ?_
      refine g_imul (pc := 55) dX6_bypassedModules_55 ?_
      refine g_iload (pc := 56) dX6_bypassedModules_56 4 rfl ?_
      refine g_iadd (pc := 58) dX6_bypassedModules_58 ?_
      refine g_iald (pc := 59) 7 am_7 (by omega) (by decide) dX6_bypassedModules_59 ?_
      refine g_callV (pc := 60) (As := [.int (zI (τ 7 ((12 * s) + p)))]) (rest := [.int (zI c), .int (bitP (fun p => decide (photo τ (memb τ s p) < c)) p.toNat)]) k_X6_84_X6 (c_X6_photocurrentOf (τ := τ) hB (τ 7 ((12 * s) + p)) (by omega)) ⟨rfl, rfl, Nat.le_of_ble_eq_true rfl, Nat.le_of_ble_eq_true rfl⟩ (0) 5 rfl rfl am_obj rfl rfl (Nat.le_of_ble_eq_true rfl) dX6_bypassedModules_60 (fun v_ w_ hq_ => ?_)
      obtain ⟨rfl, rfl⟩ := hq_
      refine g_one ?_
      refine g_icmp_le (pc := 63) 73 dX6_bypassedModules_63 (by decide) (by omega) (by omega) (fun h_2 => ?_) (fun h_2 => ?_)
      · refine g_iconst (pc := 73) dX6_bypassedModules_73 ?_
        refine g_ior (pc := 74) dX6_bypassedModules_74 ?_
        refine g_istore_n (pc := 75) (lv' := [(3, .int ((bitP (fun p => decide (photo τ (memb τ s p) < c)) p.toNat) ||| (zI 0))), (0, .ref (bd 0)), (1, .int (zI s)), (2, .int (zI c)), (4, .int (zI p))]) dX6_bypassedModules_75 (by decide) rfl ?_
        refine g_iinc (pc := 76) (lv' := [(4, .int (zI (p + 1))), (3, .int ((bitP (fun p => decide (photo τ (memb τ s p) < c)) p.toNat) ||| (zI 0))), (0, .ref (bd 0)), (1, .int (zI s)), (2, .int (zI c))]) dX6_bypassedModules_76 (by decide) 4 rfl rfl ?_
        refine g_goto (pc := 79) 34 dX6_bypassedModules_79 (by decide) ?_
        refine g_sub (lv' := [(0, .ref (bd 0)), (1, .int (zI s)), (2, .int (zI c)), (3, .int ((bitP (fun p => decide (photo τ (memb τ s p) < c)) p.toNat) ||| (zI 0))), (4, .int (zI (p + 1)))]) [2, 3, 4, 1, 0] rfl ?_
        refine g_lv (lv' := [(0, .ref (bd 0)), (1, .int (zI s)), (2, .int (zI c)), (3, .int (bitP (fun p => decide (photo τ (memb τ s p) < c)) (p + 1).toNat)), (4, .int (zI (p + 1)))]) (by rw [bitP_s _ hp, if_neg (show ¬ (fun p => decide (photo τ (memb τ s p) < c)) p = true by simp only [decide_eq_true_eq]; unfold memb; omega)]; rw [show ∀ x : Int32, x ||| zI 0 = x from fun x => Int32.or_zero]) ?_
        exact ih (p + 1) (by omega) (by omega) (by omega)
      · refine g_iconst (pc := 66) dX6_bypassedModules_66 ?_
        refine g_iload (pc := 67) dX6_bypassedModules_67 4 rfl ?_
        refine g_ishl (pc := 69) dX6_bypassedModules_69 ?_
        refine g_goto (pc := 70) 74 dX6_bypassedModules_70 (by decide) ?_
        refine g_ior (pc := 74) dX6_bypassedModules_74 ?_
        refine g_istore_n (pc := 75) (lv' := [(3, .int ((bitP (fun p => decide (photo τ (memb τ s p) < c)) p.toNat) ||| ((zI 1) <<< ((zI p) &&& 31)))), (0, .ref (bd 0)), (1, .int (zI s)), (2, .int (zI c)), (4, .int (zI p))]) dX6_bypassedModules_75 (by decide) rfl ?_
        refine g_iinc (pc := 76) (lv' := [(4, .int (zI (p + 1))), (3, .int ((bitP (fun p => decide (photo τ (memb τ s p) < c)) p.toNat) ||| ((zI 1) <<< ((zI p) &&& 31)))), (0, .ref (bd 0)), (1, .int (zI s)), (2, .int (zI c))]) dX6_bypassedModules_76 (by decide) 4 rfl rfl ?_
        refine g_goto (pc := 79) 34 dX6_bypassedModules_79 (by decide) ?_
        refine g_sub (lv' := [(0, .ref (bd 0)), (1, .int (zI s)), (2, .int (zI c)), (3, .int ((bitP (fun p => decide (photo τ (memb τ s p) < c)) p.toNat) ||| ((zI 1) <<< ((zI p) &&& 31)))), (4, .int (zI (p + 1)))]) [2, 3, 4, 1, 0] rfl ?_
        refine g_lv (lv' := [(0, .ref (bd 0)), (1, .int (zI s)), (2, .int (zI c)), (3, .int (bitP (fun p => decide (photo τ (memb τ s p) < c)) (p + 1).toNat)), (4, .int (zI (p + 1)))]) (by rw [bitP_s _ hp, if_pos (show (fun p => decide (photo τ (memb τ s p) < c)) p = true by simp only [decide_eq_true_eq]; unfold memb; omega)]) ?_
        exact ih (p + 1) (by omega) (by omega) (by omega)
set_option maxRecDepth 100000 in
set_option maxHeartbeats 2000000 in
/-- PvArrayModel.bypassedModules  -/
theorem c_X6_bypassedModules {D : va_G} {cy : Nat → ClassId} {l : Launch} {bd : Nat → Nat} {τ : Nat → Int → Int} {X : va_W} (hB : Bd τ) (s : Int) (hs : -2147483648 ≤ s ∧ s ≤ 2147483647) (c : Int) (hc : -2147483648 ≤ c ∧ c ≤ 2147483647) : Con D cy l yX6_bypassedModules cX6_bypassedModules 5 (some .int) rm_X6_bypassedModules [.ref (bd 0), .int (zI s), .int (zI c)] (MW cy bd τ ++ X) (fun v w' => v = some (.int (a_bypassedModules τ s c)) ∧ w' = MW cy bd τ ++ X) := by
  refine Con.of (lv := [(0, .ref (bd 0)), (1, .int (zI s)), (2, .int (zI c))]) (by decide) (Nat.le_of_ble_eq_true rfl) rfl ?_
  have g1 := hB.sc
  have g2 := hB.mc
  have g3 := limit_b hB s
  have h1 := hB.b6 s
  refine g_aload_n (pc := 0) dX6_bypassedModules_0 0 rfl ?_
  refine g_iload_n (pc := 1) dX6_bypassedModules_1 1 rfl ?_
  refine g_callV (pc := 2) (As := [.int (zI s)]) (rest := []) k_X6_62_X6 (c_X6_isString (τ := τ) hB s (by omega)) ⟨rfl, rfl, Nat.le_of_ble_eq_true rfl, Nat.le_of_ble_eq_true rfl⟩ (0) 5 rfl rfl am_obj rfl rfl (Nat.le_of_ble_eq_true rfl) dX6_bypassedModules_2 (fun v_ w_ hq_ => ?_)
  rcases hq_ with ⟨rfl, rfl, hs_1⟩ | ⟨rfl, rfl, hs_1⟩
  · refine g_one ?_
    refine g_if_neT (pc := 5) 12 dX6_bypassedModules_5 (by decide) (by omega) (by omega) ?_
    refine g_iload_n (pc := 12) dX6_bypassedModules_12 2 rfl ?_
    refine g_iconst (pc := 13) dX6_bypassedModules_13 ?_
    refine g_aload_n (pc := 14) dX6_bypassedModules_14 0 rfl ?_
    refine g_iload_n (pc := 15) dX6_bypassedModules_15 1 rfl ?_
    refine g_callV (pc := 16) (As := [.int (zI s)]) (rest := [.int (zI 0), .int (zI c)]) k_X6_103_X6 (c_X6_limitOf (τ := τ) hB s (by omega)) ⟨rfl, rfl, Nat.le_of_ble_eq_true rfl, Nat.le_of_ble_eq_true rfl⟩ (0) 5 rfl rfl am_obj rfl rfl (Nat.le_of_ble_eq_true rfl) dX6_bypassedModules_16 (fun v_ w_ hq_ => ?_)
    obtain ⟨rfl, rfl⟩ := hq_
    refine g_one ?_
    refine g_callS (pc := 19) (As := [.int (zI c), .int (zI 0), .int (zI (limit τ s))]) (rest := []) k_X6_55_X6 (c_X6_isBetween (τ := τ) c 0 (limit τ s) (by omega) (by omega) (by omega)) ⟨rfl, rfl, Nat.le_of_ble_eq_true rfl, Nat.le_of_ble_eq_true rfl⟩ rfl rfl (Nat.le_of_ble_eq_true rfl) dX6_bypassedModules_19 (fun v_ w_ hq_ => ?_)
    rcases hq_ with ⟨rfl, rfl, hw_2⟩ | ⟨rfl, rfl, hw_2⟩
    · refine g_one ?_
      refine g_if_neT (pc := 22) 29 dX6_bypassedModules_22 (by decide) (by omega) (by omega) ?_
      refine g_iconst (pc := 29) dX6_bypassedModules_29 ?_
      refine g_istore_n (pc := 30) (lv' := [(3, .int (zI 0)), (0, .ref (bd 0)), (1, .int (zI s)), (2, .int (zI c))]) dX6_bypassedModules_30 (by decide) rfl ?_
      refine g_iconst (pc := 31) dX6_bypassedModules_31 ?_
      refine g_istore (pc := 32) (lv' := [(4, .int (zI 0)), (3, .int (zI 0)), (0, .ref (bd 0)), (1, .int (zI s)), (2, .int (zI c))]) dX6_bypassedModules_32 (by decide) rfl ?_
      refine g_sub (lv' := [(0, .ref (bd 0)), (1, .int (zI s)), (2, .int (zI c)), (3, .int (zI 0)), (4, .int (zI 0))]) [2, 3, 4, 1, 0] rfl ?_
      exact lp_X6_byp hB s (by omega) c (by omega) ((τ 6 s).toNat + 1) 0 (by omega) (by omega) (by omega)
    · refine g_one ?_
      refine g_if_neF (pc := 22) 29 dX6_bypassedModules_22 (by decide) (by omega) (by omega) ?_
      refine g_sipush (pc := 25) dX6_bypassedModules_25 (by omega) ?_
      exact g_iret (pc := 28) dX6_bypassedModules_28 rfl (⟨by unfold a_bypassedModules; (repeat' split) <;> first | rfl | (exfalso; omega), rfl⟩)
  · refine g_one ?_
    refine g_if_neF (pc := 5) 12 dX6_bypassedModules_5 (by decide) (by omega) (by omega) ?_
    refine g_sipush (pc := 8) dX6_bypassedModules_8 (by omega) ?_
    exact g_iret (pc := 11) dX6_bypassedModules_11 rfl (⟨by unfold a_bypassedModules; (repeat' split) <;> first | rfl | (exfalso; omega), rfl⟩)
def u_setIrr (τ : Nat → Int → Int) (m z : Int) : Nat → Int → Int := if (0 ≤ m ∧ m < τ 0 1) ∧ (0 ≤ z ∧ z ≤ 1200) then up τ 3 m z else τ
def u_setDio (τ : Nat → Int → Int) (m b : Int) : Nat → Int → Int := if 0 ≤ m ∧ m < τ 0 1 then up τ 5 m b else τ
def u_addStr (τ : Nat → Int → Int) : Nat → Int → Int := if τ 0 2 < 6 then up (up τ 6 (τ 0 2) 0) 0 2 (τ 0 2 + 1) else τ
def u_shade (τ : Nat → Int → Int) (a b q : Int) : Nat → Int → Int := if ((0 ≤ a ∧ a < τ 0 1) ∧ (0 ≤ b ∧ b < τ 0 1)) ∧ (a ≤ b ∧ 0 ≤ q ∧ q ≤ 100) then setR τ 3 (shR (τ 3) a (b + 1) q) else τ
set_option maxRecDepth 100000 in
set_option maxHeartbeats 2000000 in
/-- PvArrayModel.addString  -/
theorem c_X6_addString {D : va_G} {cy : Nat → ClassId} {l : Launch} {bd : Nat → Nat} {τ : Nat → Int → Int} {X : va_W} (hB : Bd τ) : Con D cy l yX6_addString cX6_addString 1 (some .int) rm_X6_addString [.ref (bd 0)] (MW cy bd τ ++ X) (rdI (a_addStr τ) (MW cy bd (u_addStr τ) ++ X)) := by
  refine Con.of (lv := [(0, .ref (bd 0))]) (by decide) (Nat.le_of_ble_eq_true rfl) rfl ?_
  have g1 := hB.sc
  have g2 := hB.mc
  refine g_aload_n (pc := 0) dX6_addString_0 0 rfl ?_
  refine g_get (pc := 1) (ci := 5) inG_X6 rfl 7 (by decide) rfl fl_X6_59 (0) am_obj rfl dX6_addString_1 ?_
  refine g_bipush (pc := 4) dX6_addString_4 (by omega) ?_
  refine g_icmp_ne (pc := 6) 13 dX6_addString_6 (by decide) (by omega) (by omega) (fun h_1 => ?_) (fun h_1 => ?_)
  · refine g_aload_n (pc := 13) dX6_addString_13 0 rfl ?_
    refine g_get (pc := 14) (ci := 5) inG_X6 rfl 8 (by decide) rfl fl_X6_26 (0) am_obj rfl dX6_addString_14 ?_
    refine g_aload_n (pc := 17) dX6_addString_17 0 rfl ?_
    refine g_get (pc := 18) (ci := 5) inG_X6 rfl 7 (by decide) rfl fl_X6_59 (0) am_obj rfl dX6_addString_18 ?_
    refine g_iconst (pc := 21) dX6_addString_21 ?_
    refine g_iast (pc := 22) 6 am_6 (by omega) (by decide) sm_6 dX6_addString_22 ?_
    refine g_aload_n (pc := 23) dX6_addString_23 0 rfl ?_
    refine g_dup (pc := 24) dX6_addString_24 rfl ?_
    refine g_get (pc := 25) (ci := 5) inG_X6 rfl 7 (by decide) rfl fl_X6_59 (0) am_obj rfl dX6_addString_25 ?_
    refine g_iconst (pc := 28) dX6_addString_28 ?_
    refine g_iadd (pc := 29) dX6_addString_29 ?_
    refine g_put (pc := 30) (ci := 5) inG_X6 tyX6 tyX6_ok nmX6 rfl 7 (by decide) rfl rfl fl_X6_59 (0) am_obj rfl rfl (Nat.le_of_ble_eq_true rfl) sm_0_2 dX6_addString_30 ?_
    refine g_aload_n (pc := 33) dX6_addString_33 0 rfl ?_
    refine g_get (pc := 34) (ci := 5) inG_X6 rfl 7 (by decide) rfl fl_X6_59 (0) am_obj rfl dX6_addString_34 ?_
    refine g_iconst (pc := 37) dX6_addString_37 ?_
    refine g_isub (pc := 38) dX6_addString_38 ?_
    exact g_iret (pc := 39) dX6_addString_39 rfl (wm_of (by unfold a_addStr; rw [if_pos (by omega)]; show up (up τ 6 (τ 0 2) 0) 0 2 (τ 0 2 + 1) 0 2 - 1 = τ 0 2; rw [up_r, zup_s]; omega) (by unfold u_addStr; rw [if_pos (by omega)]; rfl))
  · refine g_sipush (pc := 9) dX6_addString_9 (by omega) ?_
    exact g_iret (pc := 12) dX6_addString_12 rfl (wm_of (by unfold a_addStr; (repeat' split) <;> first | rfl | (exfalso; omega)) (by unfold u_addStr; (repeat' split) <;> first | rfl | (exfalso; omega)))
set_option maxRecDepth 100000 in
set_option maxHeartbeats 2000000 in
/-- PvArrayModel.setIrradiance  -/
theorem c_X6_setIrradiance {D : va_G} {cy : Nat → ClassId} {l : Launch} {bd : Nat → Nat} {τ : Nat → Int → Int} {X : va_W} (hB : Bd τ) (m : Int) (hm : -2147483648 ≤ m ∧ m ≤ 2147483647) (z : Int) (hz : -2147483648 ≤ z ∧ z ≤ 2147483647) : Con D cy l yX6_setIrradiance cX6_setIrradiance 4 (some .int) rm_X6_setIrradiance [.ref (bd 0), .int (zI m), .int (zI z)] (MW cy bd τ ++ X) (rdI (a_setIrr τ m z) (MW cy bd (u_setIrr τ m z) ++ X)) := by
  refine Con.of (lv := [(0, .ref (bd 0)), (1, .int (zI m)), (2, .int (zI z))]) (by decide) (Nat.le_of_ble_eq_true rfl) rfl ?_
  have g1 := hB.sc
  have g2 := hB.mc
  refine g_aload_n (pc := 0) dX6_setIrradiance_0 0 rfl ?_
  refine g_iload_n (pc := 1) dX6_setIrradiance_1 1 rfl ?_
  refine g_callV (pc := 2) (As := [.int (zI m)]) (rest := []) k_X6_70_X6 (c_X6_isModule (τ := τ) hB m (by omega)) ⟨rfl, rfl, Nat.le_of_ble_eq_true rfl, Nat.le_of_ble_eq_true rfl⟩ (0) 5 rfl rfl am_obj rfl rfl (Nat.le_of_ble_eq_true rfl) dX6_setIrradiance_2 (fun v_ w_ hq_ => ?_)
  rcases hq_ with ⟨rfl, rfl, hm_1⟩ | ⟨rfl, rfl, hm_1⟩
  · refine g_one ?_
    refine g_if_neT (pc := 5) 12 dX6_setIrradiance_5 (by decide) (by omega) (by omega) ?_
    refine g_iload_n (pc := 12) dX6_setIrradiance_12 2 rfl ?_
    refine g_iconst (pc := 13) dX6_setIrradiance_13 ?_
    refine g_sipush (pc := 14) dX6_setIrradiance_14 (by omega) ?_
    refine g_callS (pc := 17) (As := [.int (zI z), .int (zI 0), .int (zI 1200)]) (rest := []) k_X6_55_X6 (c_X6_isBetween (τ := τ) z 0 1200 (by omega) (by omega) (by omega)) ⟨rfl, rfl, Nat.le_of_ble_eq_true rfl, Nat.le_of_ble_eq_true rfl⟩ rfl rfl (Nat.le_of_ble_eq_true rfl) dX6_setIrradiance_17 (fun v_ w_ hq_ => ?_)
    rcases hq_ with ⟨rfl, rfl, hw_2⟩ | ⟨rfl, rfl, hw_2⟩
    · refine g_one ?_
      refine g_if_neT (pc := 20) 27 dX6_setIrradiance_20 (by decide) (by omega) (by omega) ?_
      refine g_aload_n (pc := 27) dX6_setIrradiance_27 0 rfl ?_
      refine g_get (pc := 28) (ci := 5) inG_X6 rfl 4 (by decide) rfl fl_X6_16 (0) am_obj rfl dX6_setIrradiance_28 ?_
      refine g_iload_n (pc := 31) dX6_setIrradiance_31 1 rfl ?_
      refine g_iald (pc := 32) 3 am_3 (by omega) (by decide) dX6_setIrradiance_32 ?_
      refine g_istore_n (pc := 33) (lv' := [(3, .int (zI (τ 3 m))), (0, .ref (bd 0)), (1, .int (zI m)), (2, .int (zI z))]) dX6_setIrradiance_33 (by decide) rfl ?_
      refine g_aload_n (pc := 34) dX6_setIrradiance_34 1 rfl ?_
      refine g_get (pc := 35) (ci := 5) inG_X6 rfl 4 (by decide) rfl fl_X6_16 (0) am_obj rfl dX6_setIrradiance_35 ?_
      refine g_iload_n (pc := 38) dX6_setIrradiance_38 2 rfl ?_
      refine g_iload_n (pc := 39) dX6_setIrradiance_39 3 rfl ?_
      refine g_iast (pc := 40) 3 am_3 (by omega) (by decide) sm_3 dX6_setIrradiance_40 ?_
      refine g_iload_n (pc := 41) dX6_setIrradiance_41 0 rfl ?_
      exact g_iret (pc := 42) dX6_setIrradiance_42 rfl (wm_of (by unfold a_setIrr; (repeat' split) <;> first | rfl | (exfalso; omega)) (by unfold u_setIrr; (repeat' split) <;> first | rfl | (exfalso; omega)))
    · refine g_one ?_
      refine g_if_neF (pc := 20) 27 dX6_setIrradiance_20 (by decide) (by omega) (by omega) ?_
      refine g_sipush (pc := 23) dX6_setIrradiance_23 (by omega) ?_
      exact g_iret (pc := 26) dX6_setIrradiance_26 rfl (wm_of (by unfold a_setIrr; (repeat' split) <;> first | rfl | (exfalso; omega)) (by unfold u_setIrr; (repeat' split) <;> first | rfl | (exfalso; omega)))
  · refine g_one ?_
    refine g_if_neF (pc := 5) 12 dX6_setIrradiance_5 (by decide) (by omega) (by omega) ?_
    refine g_sipush (pc := 8) dX6_setIrradiance_8 (by omega) ?_
    exact g_iret (pc := 11) dX6_setIrradiance_11 rfl (wm_of (by unfold a_setIrr; (repeat' split) <;> first | rfl | (exfalso; omega)) (by unfold u_setIrr; (repeat' split) <;> first | rfl | (exfalso; omega)))
set_option maxRecDepth 100000 in
set_option maxHeartbeats 2000000 in
/-- PvArrayModel.setResistance  -/
theorem c_X6_setResistance {D : va_G} {cy : Nat → ClassId} {l : Launch} {bd : Nat → Nat} {τ : Nat → Int → Int} {X : va_W} (hB : Bd τ) (m : Int) (hm : -2147483648 ≤ m ∧ m ≤ 2147483647) (z : Int) (hz : -2147483648 ≤ z ∧ z ≤ 2147483647) : Con D cy l yX6_setResistance cX6_setResistance 4 (some .int) rm_X6_setResistance [.ref (bd 0), .int (zI m), .int (zI z)] (MW cy bd τ ++ X) (rdI (a_setRes τ m z) (MW cy bd (t_setRes τ m z) ++ X)) := by
  refine Con.of (lv := [(0, .ref (bd 0)), (1, .int (zI m)), (2, .int (zI z))]) (by decide) (Nat.le_of_ble_eq_true rfl) rfl ?_
  have g1 := hB.sc
  have g2 := hB.mc
  refine g_aload_n (pc := 0) dX6_setResistance_0 0 rfl ?_
  refine g_iload_n (pc := 1) dX6_setResistance_1 1 rfl ?_
  refine g_callV (pc := 2) (As := [.int (zI m)]) (rest := []) k_X6_70_X6 (c_X6_isModule (τ := τ) hB m (by omega)) ⟨rfl, rfl, Nat.le_of_ble_eq_true rfl, Nat.le_of_ble_eq_true rfl⟩ (0) 5 rfl rfl am_obj rfl rfl (Nat.le_of_ble_eq_true rfl) dX6_setResistance_2 (fun v_ w_ hq_ => ?_)
  rcases hq_ with ⟨rfl, rfl, hm_1⟩ | ⟨rfl, rfl, hm_1⟩
  · refine g_one ?_
    refine g_if_neT (pc := 5) 12 dX6_setResistance_5 (by decide) (by omega) (by omega) ?_
    refine g_iload_n (pc := 12) dX6_setResistance_12 2 rfl ?_
    refine g_iconst (pc := 13) dX6_setResistance_13 ?_
    refine g_sipush (pc := 14) dX6_setResistance_14 (by omega) ?_
    refine g_callS (pc := 17) (As := [.int (zI z), .int (zI 0), .int (zI 5000)]) (rest := []) k_X6_55_X6 (c_X6_isBetween (τ := τ) z 0 5000 (by omega) (by omega) (by omega)) ⟨rfl, rfl, Nat.le_of_ble_eq_true rfl, Nat.le_of_ble_eq_true rfl⟩ rfl rfl (Nat.le_of_ble_eq_true rfl) dX6_setResistance_17 (fun v_ w_ hq_ => ?_)
    rcases hq_ with ⟨rfl, rfl, hw_2⟩ | ⟨rfl, rfl, hw_2⟩
    · refine g_one ?_
      refine g_if_neT (pc := 20) 27 dX6_setResistance_20 (by decide) (by omega) (by omega) ?_
      refine g_aload_n (pc := 27) dX6_setResistance_27 0 rfl ?_
      refine g_get (pc := 28) (ci := 5) inG_X6 rfl 5 (by decide) rfl fl_X6_19 (0) am_obj rfl dX6_setResistance_28 ?_
      refine g_iload_n (pc := 31) dX6_setResistance_31 1 rfl ?_
      refine g_iald (pc := 32) 4 am_4 (by omega) (by decide) dX6_setResistance_32 ?_
      refine g_istore_n (pc := 33) (lv' := [(3, .int (zI (τ 4 m))), (0, .ref (bd 0)), (1, .int (zI m)), (2, .int (zI z))]) dX6_setResistance_33 (by decide) rfl ?_
      refine g_aload_n (pc := 34) dX6_setResistance_34 1 rfl ?_
      refine g_get (pc := 35) (ci := 5) inG_X6 rfl 5 (by decide) rfl fl_X6_19 (0) am_obj rfl dX6_setResistance_35 ?_
      refine g_iload_n (pc := 38) dX6_setResistance_38 2 rfl ?_
      refine g_iload_n (pc := 39) dX6_setResistance_39 3 rfl ?_
      refine g_iast (pc := 40) 4 am_4 (by omega) (by decide) sm_4 dX6_setResistance_40 ?_
      refine g_iload_n (pc := 41) dX6_setResistance_41 0 rfl ?_
      exact g_iret (pc := 42) dX6_setResistance_42 rfl (wm_of (by unfold a_setRes; (repeat' split) <;> first | rfl | (exfalso; omega)) (by unfold t_setRes; (repeat' split) <;> first | rfl | (exfalso; omega)))
    · refine g_one ?_
      refine g_if_neF (pc := 20) 27 dX6_setResistance_20 (by decide) (by omega) (by omega) ?_
      refine g_sipush (pc := 23) dX6_setResistance_23 (by omega) ?_
      exact g_iret (pc := 26) dX6_setResistance_26 rfl (wm_of (by unfold a_setRes; (repeat' split) <;> first | rfl | (exfalso; omega)) (by unfold t_setRes; (repeat' split) <;> first | rfl | (exfalso; omega)))
  · refine g_one ?_
    refine g_if_neF (pc := 5) 12 dX6_setResistance_5 (by decide) (by omega) (by omega) ?_
    refine g_sipush (pc := 8) dX6_setResistance_8 (by omega) ?_
    exact g_iret (pc := 11) dX6_setResistance_11 rfl (wm_of (by unfold a_setRes; (repeat' split) <;> first | rfl | (exfalso; omega)) (by unfold t_setRes; (repeat' split) <;> first | rfl | (exfalso; omega)))
set_option maxRecDepth 100000 in
set_option maxHeartbeats 2000000 in
/-- PvArrayModel.setBypassDiode  -/
theorem c_X6_setBypassDiode {D : va_G} {cy : Nat → ClassId} {l : Launch} {bd : Nat → Nat} {τ : Nat → Int → Int} {X : va_W} (hB : Bd τ) (m : Int) (hm : -2147483648 ≤ m ∧ m ≤ 2147483647) (b : Int) (hb : b = 0 ∨ b = 1) : Con D cy l yX6_setBypassDiode cX6_setBypassDiode 4 (some .int) rm_X6_setBypassDiode [.ref (bd 0), .int (zI m), .int (zI b)] (MW cy bd τ ++ X) (rdI (a_setDio τ m b) (MW cy bd (u_setDio τ m b) ++ X)) := by
  refine Con.of (lv := [(0, .ref (bd 0)), (1, .int (zI m)), (2, .int (zI b))]) (by decide) (Nat.le_of_ble_eq_true rfl) rfl ?_
  have g1 := hB.sc
  have g2 := hB.mc
  have g3 := hB.b5 m
  refine g_aload_n (pc := 0) dX6_setBypassDiode_0 0 rfl ?_
  refine g_iload_n (pc := 1) dX6_setBypassDiode_1 1 rfl ?_
  refine g_callV (pc := 2) (As := [.int (zI m)]) (rest := []) k_X6_70_X6 (c_X6_isModule (τ := τ) hB m (by omega)) ⟨rfl, rfl, Nat.le_of_ble_eq_true rfl, Nat.le_of_ble_eq_true rfl⟩ (0) 5 rfl rfl am_obj rfl rfl (Nat.le_of_ble_eq_true rfl) dX6_setBypassDiode_2 (fun v_ w_ hq_ => ?_)
  rcases hq_ with ⟨rfl, rfl, hm_1⟩ | ⟨rfl, rfl, hm_1⟩
  · refine g_one ?_
    refine g_if_neT (pc := 5) 12 dX6_setBypassDiode_5 (by decide) (by omega) (by omega) ?_
    refine g_aload_n (pc := 12) dX6_setBypassDiode_12 0 rfl ?_
    refine g_get (pc := 13) (ci := 5) inG_X6 rfl 6 (by decide) rfl fl_X6_22 (0) am_obj rfl dX6_setBypassDiode_13 ?_
    refine g_iload_n (pc := 16) dX6_setBypassDiode_16 1 rfl ?_
    refine g_zald (pc := 17) 5 am_5 (by omega) (by decide) dX6_setBypassDiode_17 ?_
    refine g_istore_n (pc := 18) (lv' := [(3, .int (zI (τ 5 m))), (0, .ref (bd 0)), (1, .int (zI m)), (2, .int (zI b))]) dX6_setBypassDiode_18 (by decide) rfl ?_
    refine g_aload_n (pc := 19) dX6_setBypassDiode_19 1 rfl ?_
    refine g_get (pc := 20) (ci := 5) inG_X6 rfl 6 (by decide) rfl fl_X6_22 (0) am_obj rfl dX6_setBypassDiode_20 ?_
    refine g_iload_n (pc := 23) dX6_setBypassDiode_23 2 rfl ?_
    refine g_iload_n (pc := 24) dX6_setBypassDiode_24 3 rfl ?_
    refine g_zast (pc := 25) 5 am_5 (by omega) (by decide) (by omega) sm_5 dX6_setBypassDiode_25 ?_
    refine g_iload_n (pc := 26) dX6_setBypassDiode_26 0 rfl ?_
    refine g_iload_n (pc := 27) dX6_setBypassDiode_27 3 rfl ?_
    refine g_icmp_ne (pc := 28) 35 dX6_setBypassDiode_28 (by decide) (by omega) (by omega) (fun h_2 => ?_) (fun h_2 => ?_)
    · refine g_iconst (pc := 35) dX6_setBypassDiode_35 ?_
      exact g_iret (pc := 36) dX6_setBypassDiode_36 rfl (wm_of (by unfold a_setDio; (repeat' split) <;> first | rfl | (exfalso; omega)) (by unfold u_setDio; (repeat' split) <;> first | rfl | (exfalso; omega)))
    · refine g_iconst (pc := 31) dX6_setBypassDiode_31 ?_
      refine g_goto (pc := 32) 36 dX6_setBypassDiode_32 (by decide) ?_
      exact g_iret (pc := 36) dX6_setBypassDiode_36 rfl (wm_of (by unfold a_setDio; (repeat' split) <;> first | rfl | (exfalso; omega)) (by unfold u_setDio; (repeat' split) <;> first | rfl | (exfalso; omega)))
  · refine g_one ?_
    refine g_if_neF (pc := 5) 12 dX6_setBypassDiode_5 (by decide) (by omega) (by omega) ?_
    refine g_sipush (pc := 8) dX6_setBypassDiode_8 (by omega) ?_
    exact g_iret (pc := 11) dX6_setBypassDiode_11 rfl (wm_of (by unfold a_setDio; (repeat' split) <;> first | rfl | (exfalso; omega)) (by unfold u_setDio; (repeat' split) <;> first | rfl | (exfalso; omega)))
set_option maxRecDepth 100000 in
set_option maxHeartbeats 2000000 in
/-- PvArrayModel.setDiodeDrop  -/
theorem c_X6_setDiodeDrop {D : va_G} {cy : Nat → ClassId} {l : Launch} {bd : Nat → Nat} {τ : Nat → Int → Int} {X : va_W} (hB : Bd τ) (z : Int) (hz : -2147483648 ≤ z ∧ z ≤ 2147483647) : Con D cy l yX6_setDiodeDrop cX6_setDiodeDrop 3 (some .int) rm_X6_setDiodeDrop [.ref (bd 0), .int (zI z)] (MW cy bd τ ++ X) (rdI (a_setDrop τ z) (MW cy bd (t_setDrop τ z) ++ X)) := by
  refine Con.of (lv := [(0, .ref (bd 0)), (1, .int (zI z))]) (by decide) (Nat.le_of_ble_eq_true rfl) rfl ?_
  have g1 := hB.sc
  have g2 := hB.mc
  have g3 := hB.d
  refine g_iload_n (pc := 0) dX6_setDiodeDrop_0 1 rfl ?_
  refine g_iconst (pc := 1) dX6_setDiodeDrop_1 ?_
  refine g_bipush (pc := 2) dX6_setDiodeDrop_2 (by omega) ?_
  refine g_callS (pc := 4) (As := [.int (zI z), .int (zI 0), .int (zI 20)]) (rest := []) k_X6_55_X6 (c_X6_isBetween (τ := τ) z 0 20 (by omega) (by omega) (by omega)) ⟨rfl, rfl, Nat.le_of_ble_eq_true rfl, Nat.le_of_ble_eq_true rfl⟩ rfl rfl (Nat.le_of_ble_eq_true rfl) dX6_setDiodeDrop_4 (fun v_ w_ hq_ => ?_)
  rcases hq_ with ⟨rfl, rfl, hw_1⟩ | ⟨rfl, rfl, hw_1⟩
  · refine g_one ?_
    refine g_if_neT (pc := 7) 14 dX6_setDiodeDrop_7 (by decide) (by omega) (by omega) ?_
    refine g_aload_n (pc := 14) dX6_setDiodeDrop_14 0 rfl ?_
    refine g_get (pc := 15) (ci := 5) inG_X6 rfl 0 (by decide) rfl fl_X6_48 (0) am_obj rfl dX6_setDiodeDrop_15 ?_
    refine g_istore_n (pc := 18) (lv' := [(2, .int (zI (τ 0 0))), (0, .ref (bd 0)), (1, .int (zI z))]) dX6_setDiodeDrop_18 (by decide) rfl ?_
    refine g_aload_n (pc := 19) dX6_setDiodeDrop_19 1 rfl ?_
    refine g_iload_n (pc := 20) dX6_setDiodeDrop_20 2 rfl ?_
    refine g_put (pc := 21) (ci := 5) inG_X6 tyX6 tyX6_ok nmX6 rfl 0 (by decide) rfl rfl fl_X6_48 (0) am_obj rfl rfl (Nat.le_of_ble_eq_true rfl) sm_0_0 dX6_setDiodeDrop_21 ?_
    refine g_iload_n (pc := 24) dX6_setDiodeDrop_24 0 rfl ?_
    exact g_iret (pc := 25) dX6_setDiodeDrop_25 rfl (wm_of (by unfold a_setDrop; (repeat' split) <;> first | rfl | (exfalso; omega)) (by unfold t_setDrop; (repeat' split) <;> first | rfl | (exfalso; omega)))
  · refine g_one ?_
    refine g_if_neF (pc := 7) 14 dX6_setDiodeDrop_7 (by decide) (by omega) (by omega) ?_
    refine g_sipush (pc := 10) dX6_setDiodeDrop_10 (by omega) ?_
    exact g_iret (pc := 13) dX6_setDiodeDrop_13 rfl (wm_of (by unfold a_setDrop; (repeat' split) <;> first | rfl | (exfalso; omega)) (by unfold t_setDrop; (repeat' split) <;> first | rfl | (exfalso; omega)))
theorem setR_put0 (σ : Nat → Int → Int) (f : Nat) (r : Int → Int) (i v : Int) : up (setR σ f r) f i v = setR σ f (zup r i v) := by
  funext g
  by_cases h : g = f
  · subst h; rw [up_r, setR_s, setR_s]
  · rw [up_o _ _ _ h, setR_o _ _ h, setR_o _ _ h]
set_option maxRecDepth 100000 in
set_option maxHeartbeats 2000000 in
/-- PvArrayModel.shade, the loop at 45  -/
theorem lp_X6_shade {D : va_G} {cy : Nat → ClassId} {l : Launch} {bd : Nat → Nat} {τ : Nat → Int → Int} {X : va_W} (hB : Bd τ) (a b q : Int) (ha : 0 ≤ a ∧ a < τ 0 1) (hb : 0 ≤ b ∧ b < τ 0 1) (hq : 0 ≤ q ∧ q ≤ 100) (hab : a ≤ b) : ∀ (n : Nat) (m : Int), a ≤ m → m ≤ b + 1 → (b + 1 - m).toNat < n → GO D cy l rm_X6_shade cX6_shade 7 yX6_shade.cls (some .int) (MW cy bd τ ++ X) (rdI (a_shade τ a b q) (MW cy bd (u_shade τ a b q) ++ X)) (MW cy bd (setR τ 3 (shR (τ 3) a m q)) ++ X) 45 [(0, .ref (bd 0)), (1, .int (zI a)), (2, .int (zI b)), (3, .int (zI q)), (4, .int (zI (shC (τ 3) q a (m - a).toNat))), (5, .int (zI m))] [] := by
  intro n
  induction n with
  | zero =>
    intro m hm hm2 hn
    exact absurd hn (Nat.not_lt_zero _)
  | succ n ih =>
    intro m hm hm2 hn
    have g1 := hB.sc
    have g2 := hB.mc
    have g3 := mulq_b (hB.b3 m) hq
    have g4 := hB.b3 m
    have g5 := shC_b (τ 3) q a (m - a).toNat
    refine g_iload (pc := 45) dX6_shade_45 5 rfl ?_
    refine g_iload_n (pc := 47) dX6_shade_47 2 rfl ?_
    refine g_icmp_gt (pc := 48) 105 dX6_shade_48 (by decide) (by omega) (by omega) (fun h_1 => ?_) (fun h_1 => ?_)
    · refine g_iload (pc := 105) dX6_shade_105 4 rfl ?_
      exact g_iret (pc := 107) dX6_shade_107 rfl (wm_of (by unfold a_shade; rw [if_pos (by omega), if_pos (by omega), show m = b + 1 by omega]) (by unfold u_shade; rw [if_pos (by omega), show m = b + 1 by omega]))
    · refine g_aload_n (pc := 51) dX6_shade_51 0 rfl ?_
      refine g_get (pc := 52) (ci := 5) inG_X6 rfl 4 (by decide) rfl fl_X6_16 (0) am_obj rfl dX6_shade_52 ?_
      refine g_iload (pc := 55) dX6_shade_55 5 rfl ?_
      refine g_iald (pc := 57) 3 am_3 (by omega) (by decide) dX6_shade_57 ?_
      refine g_topI (show (setR τ 3 (shR (τ 3) a m q)) 3 m = τ 3 m from shR_at _ _ _ _) ?_
      refine g_bipush (pc := 58) dX6_shade_58 (by omega) ?_
      refine g_iload_n (pc := 60) dX6_shade_60 3 rfl ?_
      refine g_isub (pc := 61) dX6_shade_61 ?_
      refine g_imul (pc := 62) dX6_shade_62 ?_
      refine g_bipush (pc := 63) dX6_shade_63 (by omega) ?_
      refine g_idiv (pc := 65) dX6_shade_65 (by omega) (by omega) ?_
      refine g_istore (pc := 66) (lv' := [(6, .int (zI (((τ 3 m) * (100 - q)) / 100))), (0, .ref (bd 0)), (1, .int (zI a)), (2, .int (zI b)), (3, .int (zI q)), (4, .int (zI (shC (τ 3) q a (m - a).toNat))), (5, .int (zI m))]) dX6_shade_66 (by decide) rfl ?_
      refine g_iload (pc := 68) dX6_shade_68 5 rfl ?_
      refine g_iload (pc := 70) dX6_shade_70 0 rfl ?_
      refine g_aload_n (pc := 72) dX6_shade_72 1 rfl ?_
      refine g_get (pc := 73) (ci := 5) inG_X6 rfl 4 (by decide) rfl fl_X6_16 (0) am_obj rfl dX6_shade_73 ?_
      refine g_iload (pc := 76) dX6_shade_76 6 rfl ?_
      refine g_iald (pc := 78) 3 am_3 (by omega) (by decide) dX6_shade_78 ?_
      refine g_topI (show (setR τ 3 (shR (τ 3) a m q)) 3 m = τ 3 m from shR_at _ _ _ _) ?_
      refine g_icmp_ne (pc := 79) 86 dX6_shade_79 (by decide) (by omega) (by omega) (fun h_2 => ?_) (fun h_2 => ?_)
      · refine g_iconst (pc := 86) dX6_shade_86 ?_
        refine g_iadd (pc := 87) dX6_shade_87 ?_
        refine g_istore (pc := 88) (lv' := [(4, .int (zI ((shC (τ 3) q a (m - a).toNat) + 1))), (6, .int (zI (((τ 3 m) * (100 - q)) / 100))), (0, .ref (bd 0)), (1, .int (zI a)), (2, .int (zI b)), (3, .int (zI q)), (5, .int (zI m))]) dX6_shade_88 (by decide) rfl ?_
        refine g_aload_n (pc := 90) dX6_shade_90 2 rfl ?_
        refine g_get (pc := 91) (ci := 5) inG_X6 rfl 4 (by decide) rfl fl_X6_16 (0) am_obj rfl dX6_shade_91 ?_
        refine g_iload (pc := 94) dX6_shade_94 6 rfl ?_
        refine g_iload (pc := 96) dX6_shade_96 1 rfl ?_
        refine g_iast (pc := 98) 3 am_3 (by omega) (by decide) sm_3 dX6_shade_98 ?_
        refine g_iinc (pc := 99) (lv' := [(5, .int (zI (m + 1))), (4, .int (zI ((shC (τ 3) q a (m - a).toNat) + 1))), (6, .int (zI (((τ 3 m) * (100 - q)) / 100))), (0, .ref (bd 0)), (1, .int (zI a)), (2, .int (zI b)), (3, .int (zI q))]) dX6_shade_99 (by decide) 6 rfl rfl ?_
        refine g_goto (pc := 102) 45 dX6_shade_102 (by decide) ?_
        refine g_sub (lv' := [(0, .ref (bd 0)), (1, .int (zI a)), (2, .int (zI b)), (3, .int (zI q)), (4, .int (zI ((shC (τ 3) q a (m - a).toNat) + 1))), (5, .int (zI (m + 1)))]) [3, 4, 5, 6, 1, 0] rfl ?_
        refine g_lv (lv' := [(0, .ref (bd 0)), (1, .int (zI a)), (2, .int (zI b)), (3, .int (zI q)), (4, .int (zI (shC (τ 3) q a ((m + 1) - a).toNat))), (5, .int (zI (m + 1)))]) (by rw [shC_s _ _ hm]; rw [if_neg (by omega)]) ?_
        refine g_world (w' := MW cy bd (setR τ 3 (shR (τ 3) a (m + 1) q)) ++ X) (by rw [shR_s _ hm, ← setR_put]) ?_
        exact ih (m + 1) (by omega) (by omega) (by omega)
      · refine g_iconst (pc := 82) dX6_shade_82 ?_
        refine g_goto (pc := 83) 87 dX6_shade_83 (by decide) ?_
        refine g_iadd (pc := 87) dX6_shade_87 ?_
        refine g_istore (pc := 88) (lv' := [(4, .int (zI ((shC (τ 3) q a (m - a).toNat) + 0))), (6, .int (zI (((τ 3 m) * (100 - q)) / 100))), (0, .ref (bd 0)), (1, .int (zI a)), (2, .int (zI b)), (3, .int (zI q)), (5, .int (zI m))]) dX6_shade_88 (by decide) rfl ?_
        refine g_aload_n (pc := 90) dX6_shade_90 2 rfl ?_
        refine g_get (pc := 91) (ci := 5) inG_X6 rfl 4 (by decide) rfl fl_X6_16 (0) am_obj rfl dX6_shade_91 ?_
        refine g_iload (pc := 94) dX6_shade_94 6 rfl ?_
        refine g_iload (pc := 96) dX6_shade_96 1 rfl ?_
        refine g_iast (pc := 98) 3 am_3 (by omega) (by decide) sm_3 dX6_shade_98 ?_
        refine g_iinc (pc := 99) (lv' := [(5, .int (zI (m + 1))), (4, .int (zI ((shC (τ 3) q a (m - a).toNat) + 0))), (6, .int (zI (((τ 3 m) * (100 - q)) / 100))), (0, .ref (bd 0)), (1, .int (zI a)), (2, .int (zI b)), (3, .int (zI q))]) dX6_shade_99 (by decide) 6 rfl rfl ?_
        refine g_goto (pc := 102) 45 dX6_shade_102 (by decide) ?_
        refine g_sub (lv' := [(0, .ref (bd 0)), (1, .int (zI a)), (2, .int (zI b)), (3, .int (zI q)), (4, .int (zI ((shC (τ 3) q a (m - a).toNat) + 0))), (5, .int (zI (m + 1)))]) [3, 4, 5, 6, 1, 0] rfl ?_
        refine g_lv (lv' := [(0, .ref (bd 0)), (1, .int (zI a)), (2, .int (zI b)), (3, .int (zI q)), (4, .int (zI (shC (τ 3) q a ((m + 1) - a).toNat))), (5, .int (zI (m + 1)))]) (by rw [shC_s _ _ hm]; rw [if_pos (by omega)]) ?_
        refine g_world (w' := MW cy bd (setR τ 3 (shR (τ 3) a (m + 1) q)) ++ X) (by rw [shR_s _ hm, ← setR_put]) ?_
        exact ih (m + 1) (by omega) (by omega) (by omega)
set_option maxRecDepth 100000 in
set_option maxHeartbeats 2000000 in
/-- PvArrayModel.shade  -/
theorem c_X6_shade {D : va_G} {cy : Nat → ClassId} {l : Launch} {bd : Nat → Nat} {τ : Nat → Int → Int} {X : va_W} (hB : Bd τ) (a : Int) (ha : -2147483648 ≤ a ∧ a ≤ 2147483647) (b : Int) (hb : -2147483648 ≤ b ∧ b ≤ 2147483647) (q : Int) (hq : -2147483648 ≤ q ∧ q ≤ 2147483647) : Con D cy l yX6_shade cX6_shade 7 (some .int) rm_X6_shade [.ref (bd 0), .int (zI a), .int (zI b), .int (zI q)] (MW cy bd τ ++ X) (rdI (a_shade τ a b q) (MW cy bd (u_shade τ a b q) ++ X)) := by
  refine Con.of (lv := [(0, .ref (bd 0)), (1, .int (zI a)), (2, .int (zI b)), (3, .int (zI q))]) (by decide) (Nat.le_of_ble_eq_true rfl) rfl ?_
  have g1 := hB.sc
  have g2 := hB.mc
  refine g_aload_n (pc := 0) dX6_shade_0 0 rfl ?_
  refine g_iload_n (pc := 1) dX6_shade_1 1 rfl ?_
  refine g_callV (pc := 2) (As := [.int (zI a)]) (rest := []) k_X6_70_X6 (c_X6_isModule (τ := τ) hB a (by omega)) ⟨rfl, rfl, Nat.le_of_ble_eq_true rfl, Nat.le_of_ble_eq_true rfl⟩ (0) 5 rfl rfl am_obj rfl rfl (Nat.le_of_ble_eq_true rfl) dX6_shade_2 (fun v_ w_ hq_ => ?_)
  rcases hq_ with ⟨rfl, rfl, hm_1⟩ | ⟨rfl, rfl, hm_1⟩
  · refine g_one ?_
    refine g_if_eqF (pc := 5) 16 dX6_shade_5 (by decide) (by omega) (by omega) ?_
    refine g_aload_n (pc := 8) dX6_shade_8 0 rfl ?_
    refine g_iload_n (pc := 9) dX6_shade_9 2 rfl ?_
    refine g_callV (pc := 10) (As := [.int (zI b)]) (rest := []) k_X6_70_X6 (c_X6_isModule (τ := τ) hB b (by omega)) ⟨rfl, rfl, Nat.le_of_ble_eq_true rfl, Nat.le_of_ble_eq_true rfl⟩ (0) 5 rfl rfl am_obj rfl rfl (Nat.le_of_ble_eq_true rfl) dX6_shade_10 (fun v_ w_ hq_ => ?_)
    rcases hq_ with ⟨rfl, rfl, hm_2⟩ | ⟨rfl, rfl, hm_2⟩
    · refine g_one ?_
      refine g_if_neT (pc := 13) 20 dX6_shade_13 (by decide) (by omega) (by omega) ?_
      refine g_iload_n (pc := 20) dX6_shade_20 1 rfl ?_
      refine g_iload_n (pc := 21) dX6_shade_21 2 rfl ?_
      refine g_icmp_gt (pc := 22) 35 dX6_shade_22 (by decide) (by omega) (by omega) (fun h_3 => ?_) (fun h_3 => ?_)
      · refine g_sipush (pc := 35) dX6_shade_35 (by omega) ?_
        exact g_iret (pc := 38) dX6_shade_38 rfl (wm_of (by unfold a_shade; (repeat' split) <;> first | rfl | (exfalso; omega)) (by unfold u_shade; (repeat' split) <;> first | rfl | (exfalso; omega)))
      · refine g_iload_n (pc := 25) dX6_shade_25 3 rfl ?_
        refine g_iconst (pc := 26) dX6_shade_26 ?_
        refine g_bipush (pc := 27) dX6_shade_27 (by omega) ?_
        refine g_callS (pc := 29) (As := [.int (zI q), .int (zI 0), .int (zI 100)]) (rest := []) k_X6_55_X6 (c_X6_isBetween (τ := τ) q 0 100 (by omega) (by omega) (by omega)) ⟨rfl, rfl, Nat.le_of_ble_eq_true rfl, Nat.le_of_ble_eq_true rfl⟩ rfl rfl (Nat.le_of_ble_eq_true rfl) dX6_shade_29 (fun v_ w_ hq_ => ?_)
        rcases hq_ with ⟨rfl, rfl, hw_4⟩ | ⟨rfl, rfl, hw_4⟩
        · refine g_one ?_
          refine g_if_neT (pc := 32) 39 dX6_shade_32 (by decide) (by omega) (by omega) ?_
          refine g_iconst (pc := 39) dX6_shade_39 ?_
          refine g_istore (pc := 40) (lv' := [(4, .int (zI 0)), (0, .ref (bd 0)), (1, .int (zI a)), (2, .int (zI b)), (3, .int (zI q))]) dX6_shade_40 (by decide) rfl ?_
          refine g_iload_n (pc := 42) dX6_shade_42 2 rfl ?_
          refine g_istore (pc := 43) (lv' := [(5, .int (zI a)), (4, .int (zI 0)), (0, .ref (bd 0)), (1, .int (zI a)), (2, .int (zI b)), (3, .int (zI q))]) dX6_shade_43 (by decide) rfl ?_
          refine g_sub (lv' := [(0, .ref (bd 0)), (1, .int (zI a)), (2, .int (zI b)), (3, .int (zI q)), (4, .int (zI 0)), (5, .int (zI a))]) [2, 3, 4, 5, 1, 0] rfl ?_
          refine g_lv (lv' := [(0, .ref (bd 0)), (1, .int (zI a)), (2, .int (zI b)), (3, .int (zI q)), (4, .int (zI (shC (τ 3) q a (a - a).toNat))), (5, .int (zI a))]) (by rw [show a - a = 0 by omega]; rfl) ?_
          refine g_world (w' := MW cy bd (setR τ 3 (shR (τ 3) a a q)) ++ X) (by rw [shR_0, setR_id]) ?_
          exact lp_X6_shade hB a b q (by omega) (by omega) (by omega) (by omega) ((b + 1 - a).toNat + 1) a (by omega) (by omega) (by omega)
        · refine g_one ?_
          refine g_if_neF (pc := 32) 39 dX6_shade_32 (by decide) (by omega) (by omega) ?_
          refine g_sipush (pc := 35) dX6_shade_35 (by omega) ?_
          exact g_iret (pc := 38) dX6_shade_38 rfl (wm_of (by unfold a_shade; (repeat' split) <;> first | rfl | (exfalso; omega)) (by unfold u_shade; (repeat' split) <;> first | rfl | (exfalso; omega)))
    · refine g_one ?_
      refine g_if_neF (pc := 13) 20 dX6_shade_13 (by decide) (by omega) (by omega) ?_
      refine g_sipush (pc := 16) dX6_shade_16 (by omega) ?_
      exact g_iret (pc := 19) dX6_shade_19 rfl (wm_of (by unfold a_shade; (repeat' split) <;> first | rfl | (exfalso; omega)) (by unfold u_shade; (repeat' split) <;> first | rfl | (exfalso; omega)))
  · refine g_one ?_
    refine g_if_eqT (pc := 5) 16 dX6_shade_5 (by decide) (by omega) (by omega) ?_
    refine g_sipush (pc := 16) dX6_shade_16 (by omega) ?_
    exact g_iret (pc := 19) dX6_shade_19 rfl (wm_of (by unfold a_shade; (repeat' split) <;> first | rfl | (exfalso; omega)) (by unfold u_shade; (repeat' split) <;> first | rfl | (exfalso; omega)))
