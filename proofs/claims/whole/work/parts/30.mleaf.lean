set_option maxRecDepth 100000 in
set_option maxHeartbeats 2000000 in
/-- PvArrayModel.photocurrentOf  -/
theorem c_X6_photocurrentOf {D : va_G} {cy : Nat → ClassId} {l : Launch} {bd : Nat → Nat} {τ : Nat → Int → Int} {X : va_W} (hB : Bd τ) (m : Int) (hm : 0 ≤ m ∧ m < 24) : Con D cy l yX6_photocurrentOf cX6_photocurrentOf 2 (some .int) rm_X6_photocurrentOf [.ref (bd 0), .int (zI m)] (MW cy bd τ ++ X) (rdI (photo τ m) (MW cy bd τ ++ X)) := by
  refine Con.of (lv := [(0, .ref (bd 0)), (1, .int (zI m))]) (by decide) (Nat.le_of_ble_eq_true rfl) rfl ?_
  have h1 := mul_b (hB.b3 m) (hB.b1 m)
  refine g_aload_n (pc := 0) dX6_photocurrentOf_0 0 rfl ?_
  refine g_get (pc := 1) (ci := 5) inG_X6 rfl 4 (by decide) rfl fl_X6_16 (0) am_obj rfl dX6_photocurrentOf_1 ?_
  refine g_iload_n (pc := 4) dX6_photocurrentOf_4 1 rfl ?_
  refine g_iald (pc := 5) 3 am_3 (by omega) (by decide) dX6_photocurrentOf_5 ?_
  refine g_aload_n (pc := 6) dX6_photocurrentOf_6 0 rfl ?_
  refine g_get (pc := 7) (ci := 5) inG_X6 rfl 2 (by decide) rfl fl_X6_7 (0) am_obj rfl dX6_photocurrentOf_7 ?_
  refine g_iload_n (pc := 10) dX6_photocurrentOf_10 1 rfl ?_
  refine g_iald (pc := 11) 1 am_1 (by omega) (by decide) dX6_photocurrentOf_11 ?_
  refine g_imul (pc := 12) dX6_photocurrentOf_12 ?_
  refine g_sipush (pc := 13) dX6_photocurrentOf_13 (by omega) ?_
  refine g_idiv (pc := 16) dX6_photocurrentOf_16 (by omega) (by omega) ?_
  exact g_iret (pc := 17) dX6_photocurrentOf_17 rfl (rdI_of rfl)
set_option maxRecDepth 100000 in
set_option maxHeartbeats 2000000 in
/-- PvArrayModel.litVoltage  -/
theorem c_X6_litVoltage {D : va_G} {cy : Nat → ClassId} {l : Launch} {bd : Nat → Nat} {τ : Nat → Int → Int} {X : va_W} (hB : Bd τ) (m : Int) (hm : 0 ≤ m ∧ m < 24) (c : Int) (hc : 0 ≤ c ∧ c ≤ 10000) : Con D cy l yX6_litVoltage cX6_litVoltage 4 (some .int) rm_X6_litVoltage [.ref (bd 0), .int (zI m), .int (zI c)] (MW cy bd τ ++ X) (rdI (lit τ m c) (MW cy bd τ ++ X)) := by
  refine Con.of (lv := [(0, .ref (bd 0)), (1, .int (zI m)), (2, .int (zI c))]) (by decide) (Nat.le_of_ble_eq_true rfl) rfl ?_
  have h1 := mul_b (hB.b4 m) hc
  have h2 := hB.b2 m
  refine g_aload_n (pc := 0) dX6_litVoltage_0 0 rfl ?_
  refine g_get (pc := 1) (ci := 5) inG_X6 rfl 3 (by decide) rfl fl_X6_13 (0) am_obj rfl dX6_litVoltage_1 ?_
  refine g_iload_n (pc := 4) dX6_litVoltage_4 1 rfl ?_
  refine g_iald (pc := 5) 2 am_2 (by omega) (by decide) dX6_litVoltage_5 ?_
  refine g_aload_n (pc := 6) dX6_litVoltage_6 0 rfl ?_
  refine g_get (pc := 7) (ci := 5) inG_X6 rfl 5 (by decide) rfl fl_X6_19 (0) am_obj rfl dX6_litVoltage_7 ?_
  refine g_iload_n (pc := 10) dX6_litVoltage_10 1 rfl ?_
  refine g_iald (pc := 11) 4 am_4 (by omega) (by decide) dX6_litVoltage_11 ?_
  refine g_iload_n (pc := 12) dX6_litVoltage_12 2 rfl ?_
  refine g_imul (pc := 13) dX6_litVoltage_13 ?_
  refine g_sipush (pc := 14) dX6_litVoltage_14 (by omega) ?_
  refine g_idiv (pc := 17) dX6_litVoltage_17 (by omega) (by omega) ?_
  refine g_isub (pc := 18) dX6_litVoltage_18 ?_
  refine g_istore_n (pc := 19) (lv' := [(3, .int (zI ((τ 2 m) - (((τ 4 m) * c) / 10000)))), (0, .ref (bd 0)), (1, .int (zI m)), (2, .int (zI c))]) dX6_litVoltage_19 (by decide) rfl ?_
  refine g_iload_n (pc := 20) dX6_litVoltage_20 0 rfl ?_
  refine g_if_ge (pc := 21) 28 dX6_litVoltage_21 (by decide) (by omega) (fun h_1 => ?_) (fun h_1 => ?_)
  · refine g_iload_n (pc := 28) dX6_litVoltage_28 0 rfl ?_
    exact g_iret (pc := 29) dX6_litVoltage_29 rfl (rdI_of (by unfold lit; omega))
  · refine g_iconst (pc := 24) dX6_litVoltage_24 ?_
    refine g_goto (pc := 25) 29 dX6_litVoltage_25 (by decide) ?_
    exact g_iret (pc := 29) dX6_litVoltage_29 rfl (rdI_of (by unfold lit; omega))
set_option maxRecDepth 100000 in
set_option maxHeartbeats 2000000 in
/-- PvArrayModel.voltageOf  -/
theorem c_X6_voltageOf {D : va_G} {cy : Nat → ClassId} {l : Launch} {bd : Nat → Nat} {τ : Nat → Int → Int} {X : va_W} (hB : Bd τ) (m : Int) (hm : 0 ≤ m ∧ m < 24) (c : Int) (hc : 0 ≤ c ∧ c ≤ 10000) : Con D cy l yX6_voltageOf cX6_voltageOf 3 (some .int) rm_X6_voltageOf [.ref (bd 0), .int (zI m), .int (zI c)] (MW cy bd τ ++ X) (rdI (volt τ m c) (MW cy bd τ ++ X)) := by
  refine Con.of (lv := [(0, .ref (bd 0)), (1, .int (zI m)), (2, .int (zI c))]) (by decide) (Nat.le_of_ble_eq_true rfl) rfl ?_
  have h1 := photo_b hB m
  have h2 := hB.d
  refine g_iload_n (pc := 0) dX6_voltageOf_0 2 rfl ?_
  refine g_aload_n (pc := 1) dX6_voltageOf_1 0 rfl ?_
  refine g_iload_n (pc := 2) dX6_voltageOf_2 1 rfl ?_
  refine g_callV (pc := 3) (As := [.int (zI m)]) (rest := [.int (zI c)]) k_X6_84_X6 (c_X6_photocurrentOf (τ := τ) hB m (by omega)) ⟨rfl, rfl, Nat.le_of_ble_eq_true rfl, Nat.le_of_ble_eq_true rfl⟩ (0) 5 rfl rfl am_obj rfl rfl (Nat.le_of_ble_eq_true rfl) dX6_voltageOf_3 (fun v_ w_ hq_ => ?_)
  obtain ⟨rfl, rfl⟩ := hq_
  refine g_one ?_
  refine g_icmp_le (pc := 6) 17 dX6_voltageOf_6 (by decide) (by omega) (by omega) (fun h_1 => ?_) (fun h_1 => ?_)
  · refine g_aload_n (pc := 17) dX6_voltageOf_17 0 rfl ?_
    refine g_iload_n (pc := 18) dX6_voltageOf_18 1 rfl ?_
    refine g_iload_n (pc := 19) dX6_voltageOf_19 2 rfl ?_
    refine g_callV (pc := 20) (As := [.int (zI m), .int (zI c)]) (rest := []) k_X6_87_X6 (c_X6_litVoltage (τ := τ) hB m (by omega) c (by omega)) ⟨rfl, rfl, Nat.le_of_ble_eq_true rfl, Nat.le_of_ble_eq_true rfl⟩ (0) 5 rfl rfl am_obj rfl rfl (Nat.le_of_ble_eq_true rfl) dX6_voltageOf_20 (fun v_ w_ hq_ => ?_)
    obtain ⟨rfl, rfl⟩ := hq_
    refine g_one ?_
    exact g_iret (pc := 23) dX6_voltageOf_23 rfl (rdI_of (by unfold volt; rw [if_neg (by omega)]))
  · refine g_aload_n (pc := 9) dX6_voltageOf_9 0 rfl ?_
    refine g_get (pc := 10) (ci := 5) inG_X6 rfl 0 (by decide) rfl fl_X6_48 (0) am_obj rfl dX6_voltageOf_10 ?_
    refine g_ineg (pc := 13) dX6_voltageOf_13 ?_
    refine g_goto (pc := 14) 23 dX6_voltageOf_14 (by decide) ?_
    exact g_iret (pc := 23) dX6_voltageOf_23 rfl (rdI_of (by unfold volt; rw [if_pos (by omega)]))
set_option maxRecDepth 100000 in
set_option maxHeartbeats 2000000 in
/-- PvArrayModel.limitOf, the loop at 52  -/
theorem lp_X6_limit2 {D : va_G} {cy : Nat → ClassId} {l : Launch} {bd : Nat → Nat} {τ : Nat → Int → Int} {X : va_W} (hB : Bd τ) (s : Int) (hs : 0 ≤ s ∧ s < 6) : ∀ (n : Nat) (p : Int), 0 ≤ p → p ≤ τ 6 s → (τ 6 s - p).toNat < n → GO D cy l rm_X6_limitOf cX6_limitOf 6 yX6_limitOf.cls (some .int) (MW cy bd τ ++ X) (rdI (limit τ s) (MW cy bd τ ++ X)) (MW cy bd τ ++ X) 52 [(0, .ref (bd 0)), (1, .int (zI s)), (2, .int (zI (min (mxP (fun p => photo τ (memb τ s p)) (τ 6 s).toNat) (cpP (fun p => τ 5 (memb τ s p)) (fun p => photo τ (memb τ s p)) p.toNat)))), (3, .int (zI p))] [] := by
  intro n
  induction n with
  | zero =>
    intro p hp hp2 hn
    exact absurd hn (Nat.not_lt_zero _)
  | succ n ih =>
    intro p hp hp2 hn
    have h1 := hB.b6 s
    have h2 := hB.b7 (12 * s + p)
    have h3 := mxP_b (F := (fun p => photo τ (memb τ s p))) (b := 1200) (by omega) (fun p => (photo_b hB _).2) p.toNat
    have h3b := mxP_b (F := (fun p => photo τ (memb τ s p))) (b := 1200) (by omega) (fun p => (photo_b hB _).2) (τ 6 s).toNat
    have h4 := cpP_b (B := (fun p => τ 5 (memb τ s p))) (F := (fun p => photo τ (memb τ s p))) (fun p => (photo_b hB _).1) p.toNat
    have h5 := photo_b hB (τ 7 (12 * s + p))
    have h6 := hB.b5 (τ 7 (12 * s + p))
    refine g_iload_n (pc := 52) dX6_limitOf_52 3 rfl ?_
    refine g_aload_n (pc := 53) dX6_limitOf_53 0 rfl ?_
    refine g_get (pc := 54) (ci := 5) inG_X6 rfl 8 (by decide) rfl fl_X6_26 (0) am_obj rfl dX6_limitOf_54 ?_
    refine g_iload_n (pc := 57) dX6_limitOf_57 1 rfl ?_
    refine g_iald (pc := 58) 6 am_6 (by omega) (by decide) dX6_limitOf_58 ?_
    refine g_icmp_ge (pc := 59) 112 dX6_limitOf_59 (by decide) (by omega) (by omega) (fun h_1 => ?_) (fun h_1 => ?_)
    · refine g_iload_n (pc := 112) dX6_limitOf_112 2 rfl ?_
      exact g_iret (pc := 113) dX6_limitOf_113 rfl (rdI_of (by unfold limit; rw [show p = τ 6 s by omega]))
    · refine g_aload_n (pc := 62) dX6_limitOf_62 0 rfl ?_
      refine g_get (pc := 63) (ci := 5) inG_X6 rfl 9 (by decide) rfl fl_X6_29 (0) am_obj rfl dX6_limitOf_63 ?_
      refine g_bipush (pc := 66) dX6_limitOf_66 (by omega) ?_
      refine g_iload_n (pc := 68) dX6_limitOf_68 1 rfl ?_
      refine g_imul (pc := 69) dX6_limitOf_69 ?_
      refine g_iload_n (pc := 70) dX6_limitOf_70 3 rfl ?_
      refine g_iadd (pc := 71) dX6_limitOf_71 ?_
      refine g_iald (pc := 72) 7 am_7 (by omega) (by decide) dX6_limitOf_72 ?_
      refine g_istore (pc := 73) (lv' := [(4, .int (zI (τ 7 ((12 * s) + p)))), (0, .ref (bd 0)), (1, .int (zI s)), (2, .int (zI (min (mxP (fun p => photo τ (memb τ s p)) (τ 6 s).toNat) (cpP (fun p => τ 5 (memb τ s p)) (fun p => photo τ (memb τ s p)) p.toNat)))), (3, .int (zI p))]) dX6_limitOf_73 (by decide) rfl ?_
      refine g_aload_n (pc := 75) dX6_limitOf_75 1 rfl ?_
      refine g_iload (pc := 76) dX6_limitOf_76 0 rfl ?_
      refine g_callV (pc := 78) (As := [.int (zI (τ 7 ((12 * s) + p)))]) (rest := []) k_X6_84_X6 (c_X6_photocurrentOf (τ := τ) hB (τ 7 ((12 * s) + p)) (by omega)) ⟨rfl, rfl, Nat.le_of_ble_eq_true rfl, Nat.le_of_ble_eq_true rfl⟩ (0) 5 rfl rfl am_obj rfl rfl (Nat.le_of_ble_eq_true rfl) dX6_limitOf_78 (fun v_ w_ hq_ => ?_)
      obtain ⟨rfl, rfl⟩ := hq_
      refine g_one ?_
      refine g_istore (pc := 81) (lv' := [(5, .int (zI (photo τ (τ 7 ((12 * s) + p))))), (4, .int (zI (τ 7 ((12 * s) + p)))), (0, .ref (bd 0)), (1, .int (zI s)), (2, .int (zI (min (mxP (fun p => photo τ (memb τ s p)) (τ 6 s).toNat) (cpP (fun p => τ 5 (memb τ s p)) (fun p => photo τ (memb τ s p)) p.toNat)))), (3, .int (zI p))]) dX6_limitOf_81 (by decide) rfl ?_
      refine g_aload_n (pc := 83) dX6_limitOf_83 2 rfl ?_
      refine g_get (pc := 84) (ci := 5) inG_X6 rfl 6 (by decide) rfl fl_X6_22 (0) am_obj rfl dX6_limitOf_84 ?_
      refine g_iload (pc := 87) dX6_limitOf_87 1 rfl ?_
      refine g_zald (pc := 89) 5 am_5 (by omega) (by decide) dX6_limitOf_89 ?_
      refine g_if_ne (pc := 90) 104 dX6_limitOf_90 (by decide) (by omega) (fun h_2 => ?_) (fun h_2 => ?_)
      · refine g_iload_n (pc := 104) dX6_limitOf_104 4 rfl ?_
        refine g_istore_n (pc := 105) (lv' := [(2, .int (zI (min (mxP (fun p => photo τ (memb τ s p)) (τ 6 s).toNat) (cpP (fun p => τ 5 (memb τ s p)) (fun p => photo τ (memb τ s p)) p.toNat)))), (5, .int (zI (photo τ (τ 7 ((12 * s) + p))))), (4, .int (zI (τ 7 ((12 * s) + p)))), (0, .ref (bd 0)), (1, .int (zI s)), (3, .int (zI p))]) dX6_limitOf_105 (by decide) rfl ?_
        refine g_iinc (pc := 106) (lv' := [(3, .int (zI (p + 1))), (2, .int (zI (min (mxP (fun p => photo τ (memb τ s p)) (τ 6 s).toNat) (cpP (fun p => τ 5 (memb τ s p)) (fun p => photo τ (memb τ s p)) p.toNat)))), (5, .int (zI (photo τ (τ 7 ((12 * s) + p))))), (4, .int (zI (τ 7 ((12 * s) + p)))), (0, .ref (bd 0)), (1, .int (zI s))]) dX6_limitOf_106 (by decide) 5 rfl rfl ?_
        refine g_goto (pc := 109) 52 dX6_limitOf_109 (by decide) ?_
        refine g_sub (lv' := [(0, .ref (bd 0)), (1, .int (zI s)), (2, .int (zI (min (mxP (fun p => photo τ (memb τ s p)) (τ 6 s).toNat) (cpP (fun p => τ 5 (memb τ s p)) (fun p => photo τ (memb τ s p)) p.toNat)))), (3, .int (zI (p + 1)))]) [4, 5, 1, 0] rfl ?_
        have e9 : (min (mxP (fun p => photo τ (memb τ s p)) (τ 6 s).toNat) (cpP (fun p => τ 5 (memb τ s p)) (fun p => photo τ (memb τ s p)) p.toNat)) = min (mxP (fun p => photo τ (memb τ s p)) (τ 6 s).toNat) (cpP (fun p => τ 5 (memb τ s p)) (fun p => photo τ (memb τ s p)) (p + 1).toNat) := by
          have e8 : memb τ s p = τ 7 (12 * s + p) := rfl
          rw [cpP_s _ _ hp, e8]
          by_cases q : τ 5 (τ 7 (12 * s + p)) = 0
          · rw [if_pos q] <;> omega
          · rw [if_neg q] <;> omega
        refine g_lv (lv' := [(0, .ref (bd 0)), (1, .int (zI s)), (2, .int (zI (min (mxP (fun p => photo τ (memb τ s p)) (τ 6 s).toNat) (cpP (fun p => τ 5 (memb τ s p)) (fun p => photo τ (memb τ s p)) (p + 1).toNat)))), (3, .int (zI (p + 1)))]) (by rw [e9]) ?_
        exact ih (p + 1) (by omega) (by omega) (by omega)
      · refine g_iload (pc := 93) dX6_limitOf_93 0 rfl ?_
        refine g_iload_n (pc := 95) dX6_limitOf_95 4 rfl ?_
        refine g_icmp_ge (pc := 96) 104 dX6_limitOf_96 (by decide) (by omega) (by omega) (fun h_3 => ?_) (fun h_3 => ?_)
        · refine g_iload_n (pc := 104) dX6_limitOf_104 4 rfl ?_
          refine g_istore_n (pc := 105) (lv' := [(2, .int (zI (min (mxP (fun p => photo τ (memb τ s p)) (τ 6 s).toNat) (cpP (fun p => τ 5 (memb τ s p)) (fun p => photo τ (memb τ s p)) p.toNat)))), (5, .int (zI (photo τ (τ 7 ((12 * s) + p))))), (4, .int (zI (τ 7 ((12 * s) + p)))), (0, .ref (bd 0)), (1, .int (zI s)), (3, .int (zI p))]) dX6_limitOf_105 (by decide) rfl ?_
          refine g_iinc (pc := 106) (lv' := [(3, .int (zI (p + 1))), (2, .int (zI (min (mxP (fun p => photo τ (memb τ s p)) (τ 6 s).toNat) (cpP (fun p => τ 5 (memb τ s p)) (fun p => photo τ (memb τ s p)) p.toNat)))), (5, .int (zI (photo τ (τ 7 ((12 * s) + p))))), (4, .int (zI (τ 7 ((12 * s) + p)))), (0, .ref (bd 0)), (1, .int (zI s))]) dX6_limitOf_106 (by decide) 5 rfl rfl ?_
          refine g_goto (pc := 109) 52 dX6_limitOf_109 (by decide) ?_
          refine g_sub (lv' := [(0, .ref (bd 0)), (1, .int (zI s)), (2, .int (zI (min (mxP (fun p => photo τ (memb τ s p)) (τ 6 s).toNat) (cpP (fun p => τ 5 (memb τ s p)) (fun p => photo τ (memb τ s p)) p.toNat)))), (3, .int (zI (p + 1)))]) [4, 5, 1, 0] rfl ?_
          have e9 : (min (mxP (fun p => photo τ (memb τ s p)) (τ 6 s).toNat) (cpP (fun p => τ 5 (memb τ s p)) (fun p => photo τ (memb τ s p)) p.toNat)) = min (mxP (fun p => photo τ (memb τ s p)) (τ 6 s).toNat) (cpP (fun p => τ 5 (memb τ s p)) (fun p => photo τ (memb τ s p)) (p + 1).toNat) := by
            have e8 : memb τ s p = τ 7 (12 * s + p) := rfl
            rw [cpP_s _ _ hp, e8]
            by_cases q : τ 5 (τ 7 (12 * s + p)) = 0
            · rw [if_pos q] <;> omega
            · rw [if_neg q] <;> omega
          refine g_lv (lv' := [(0, .ref (bd 0)), (1, .int (zI s)), (2, .int (zI (min (mxP (fun p => photo τ (memb τ s p)) (τ 6 s).toNat) (cpP (fun p => τ 5 (memb τ s p)) (fun p => photo τ (memb τ s p)) (p + 1).toNat)))), (3, .int (zI (p + 1)))]) (by rw [e9]) ?_
          exact ih (p + 1) (by omega) (by omega) (by omega)
        · refine g_iload (pc := 99) dX6_limitOf_99 0 rfl ?_
          refine g_goto (pc := 101) 105 dX6_limitOf_101 (by decide) ?_
          refine g_istore_n (pc := 105) (lv' := [(2, .int (zI (photo τ (τ 7 ((12 * s) + p))))), (5, .int (zI (photo τ (τ 7 ((12 * s) + p))))), (4, .int (zI (τ 7 ((12 * s) + p)))), (0, .ref (bd 0)), (1, .int (zI s)), (3, .int (zI p))]) dX6_limitOf_105 (by decide) rfl ?_
          refine g_iinc (pc := 106) (lv' := [(3, .int (zI (p + 1))), (2, .int (zI (photo τ (τ 7 ((12 * s) + p))))), (5, .int (zI (photo τ (τ 7 ((12 * s) + p))))), (4, .int (zI (τ 7 ((12 * s) + p)))), (0, .ref (bd 0)), (1, .int (zI s))]) dX6_limitOf_106 (by decide) 5 rfl rfl ?_
          refine g_goto (pc := 109) 52 dX6_limitOf_109 (by decide) ?_
          refine g_sub (lv' := [(0, .ref (bd 0)), (1, .int (zI s)), (2, .int (zI (photo τ (τ 7 ((12 * s) + p))))), (3, .int (zI (p + 1)))]) [4, 5, 1, 0] rfl ?_
          have e9 : (photo τ (τ 7 ((12 * s) + p))) = min (mxP (fun p => photo τ (memb τ s p)) (τ 6 s).toNat) (cpP (fun p => τ 5 (memb τ s p)) (fun p => photo τ (memb τ s p)) (p + 1).toNat) := by
            have e8 : memb τ s p = τ 7 (12 * s + p) := rfl
            rw [cpP_s _ _ hp, e8]
            by_cases q : τ 5 (τ 7 (12 * s + p)) = 0
            · rw [if_pos q] <;> omega
            · rw [if_neg q] <;> omega
          refine g_lv (lv' := [(0, .ref (bd 0)), (1, .int (zI s)), (2, .int (zI (min (mxP (fun p => photo τ (memb τ s p)) (τ 6 s).toNat) (cpP (fun p => τ 5 (memb τ s p)) (fun p => photo τ (memb τ s p)) (p + 1).toNat)))), (3, .int (zI (p + 1)))]) (by rw [e9]) ?_
          exact ih (p + 1) (by omega) (by omega) (by omega)
set_option maxRecDepth 100000 in
set_option maxHeartbeats 2000000 in
/-- PvArrayModel.limitOf, the loop at 4  -/
theorem lp_X6_limit1 {D : va_G} {cy : Nat → ClassId} {l : Launch} {bd : Nat → Nat} {τ : Nat → Int → Int} {X : va_W} (hB : Bd τ) (s : Int) (hs : 0 ≤ s ∧ s < 6) : ∀ (n : Nat) (p : Int), 0 ≤ p → p ≤ τ 6 s → (τ 6 s - p).toNat < n → GO D cy l rm_X6_limitOf cX6_limitOf 6 yX6_limitOf.cls (some .int) (MW cy bd τ ++ X) (rdI (limit τ s) (MW cy bd τ ++ X)) (MW cy bd τ ++ X) 4 [(0, .ref (bd 0)), (1, .int (zI s)), (2, .int (zI (mxP (fun p => photo τ (memb τ s p)) p.toNat))), (3, .int (zI p))] [] := by
  intro n
  induction n with
  | zero =>
    intro p hp hp2 hn
    exact absurd hn (Nat.not_lt_zero _)
  | succ n ih =>
    intro p hp hp2 hn
    have h1 := hB.b6 s
    have h2 := hB.b7 (12 * s + p)
    have h3 := mxP_b (F := (fun p => photo τ (memb τ s p))) (b := 1200) (by omega) (fun p => (photo_b hB _).2) p.toNat
    have h3b := mxP_b (F := (fun p => photo τ (memb τ s p))) (b := 1200) (by omega) (fun p => (photo_b hB _).2) (τ 6 s).toNat
    have h4 := cpP_b (B := (fun p => τ 5 (memb τ s p))) (F := (fun p => photo τ (memb τ s p))) (fun p => (photo_b hB _).1) p.toNat
    have h5 := photo_b hB (τ 7 (12 * s + p))
    have h6 := hB.b5 (τ 7 (12 * s + p))
    refine g_iload_n (pc := 4) dX6_limitOf_4 3 rfl ?_
    refine g_aload_n (pc := 5) dX6_limitOf_5 0 rfl ?_
    refine g_get (pc := 6) (ci := 5) inG_X6 rfl 8 (by decide) rfl fl_X6_26 (0) am_obj rfl dX6_limitOf_6 ?_
    refine g_iload_n (pc := 9) dX6_limitOf_9 1 rfl ?_
    refine g_iald (pc := 10) 6 am_6 (by omega) (by decide) dX6_limitOf_10 ?_
    refine g_icmp_ge (pc := 11) 50 dX6_limitOf_11 (by decide) (by omega) (by omega) (fun h_1 => ?_) (fun h_1 => ?_)
    · refine g_iconst (pc := 50) dX6_limitOf_50 ?_
      refine g_istore_n (pc := 51) (lv' := [(3, .int (zI 0)), (0, .ref (bd 0)), (1, .int (zI s)), (2, .int (zI (mxP (fun p => photo τ (memb τ s p)) p.toNat)))]) dX6_limitOf_51 (by decide) rfl ?_
      refine g_sub (lv' := [(0, .ref (bd 0)), (1, .int (zI s)), (2, .int (zI (mxP (fun p => photo τ (memb τ s p)) p.toNat))), (3, .int (zI 0))]) [1, 2, 3, 0] rfl ?_
      refine g_lv (lv' := [(0, .ref (bd 0)), (1, .int (zI s)), (2, .int (zI (min (mxP (fun p => photo τ (memb τ s p)) (τ 6 s).toNat) (cpP (fun p => τ 5 (memb τ s p)) (fun p => photo τ (memb τ s p)) (0 : Int).toNat)))), (3, .int (zI 0))]) (by rw [show cpP (fun p => τ 5 (memb τ s p)) (fun p => photo τ (memb τ s p)) (0 : Int).toNat = 1200 from rfl, show min (mxP (fun p => photo τ (memb τ s p)) (τ 6 s).toNat) 1200 = mxP (fun p => photo τ (memb τ s p)) (τ 6 s).toNat by omega, show p = τ 6 s by omega]) ?_
      exact lp_X6_limit2 hB s hs ((τ 6 s).toNat + 1) 0 (by omega) (by omega) (by omega)
    · refine g_aload_n (pc := 14) dX6_limitOf_14 0 rfl ?_
      refine g_aload_n (pc := 15) dX6_limitOf_15 0 rfl ?_
      refine g_get (pc := 16) (ci := 5) inG_X6 rfl 9 (by decide) rfl fl_X6_29 (0) am_obj rfl dX6_limitOf_16 ?_
      refine g_bipush (pc := 19) dX6_limitOf_19 (by omega) ?_
      refine g_iload_n (pc := 21) dX6_limitOf_21 1 rfl ?_
      refine g_imul (pc := 22) dX6_limitOf_22 ?_
      refine g_iload_n (pc := 23) dX6_limitOf_23 3 rfl ?_
      refine g_iadd (pc := 24) dX6_limitOf_24 ?_
      refine g_iald (pc := 25) 7 am_7 (by omega) (by decide) dX6_limitOf_25 ?_
      refine g_callV (pc := 26) (As := [.int (zI (τ 7 ((12 * s) + p)))]) (rest := []) k_X6_84_X6 (c_X6_photocurrentOf (τ := τ) hB (τ 7 ((12 * s) + p)) (by omega)) ⟨rfl, rfl, Nat.le_of_ble_eq_true rfl, Nat.le_of_ble_eq_true rfl⟩ (0) 5 rfl rfl am_obj rfl rfl (Nat.le_of_ble_eq_true rfl) dX6_limitOf_26 (fun v_ w_ hq_ => ?_)
      obtain ⟨rfl, rfl⟩ := hq_
      refine g_one ?_
      refine g_istore (pc := 29) (lv' := [(4, .int (zI (photo τ (τ 7 ((12 * s) + p))))), (0, .ref (bd 0)), (1, .int (zI s)), (2, .int (zI (mxP (fun p => photo τ (memb τ s p)) p.toNat))), (3, .int (zI p))]) dX6_limitOf_29 (by decide) rfl ?_
      refine g_iload (pc := 31) dX6_limitOf_31 0 rfl ?_
      refine g_iload_n (pc := 33) dX6_limitOf_33 3 rfl ?_
      refine g_icmp_le (pc := 34) 42 dX6_limitOf_34 (by decide) (by omega) (by omega) (fun h_2 => ?_) (fun h_2 => ?_)
      · refine g_iload_n (pc := 42) dX6_limitOf_42 3 rfl ?_
        refine g_istore_n (pc := 43) (lv' := [(2, .int (zI (mxP (fun p => photo τ (memb τ s p)) p.toNat))), (4, .int (zI (photo τ (τ 7 ((12 * s) + p))))), (0, .ref (bd 0)), (1, .int (zI s)), (3, .int (zI p))]) dX6_limitOf_43 (by decide) rfl ?_
        refine g_iinc (pc := 44) (lv' := [(3, .int (zI (p + 1))), (2, .int (zI (mxP (fun p => photo τ (memb τ s p)) p.toNat))), (4, .int (zI (photo τ (τ 7 ((12 * s) + p))))), (0, .ref (bd 0)), (1, .int (zI s))]) dX6_limitOf_44 (by decide) 4 rfl rfl ?_
        refine g_goto (pc := 47) 4 dX6_limitOf_47 (by decide) ?_
        refine g_sub (lv' := [(0, .ref (bd 0)), (1, .int (zI s)), (2, .int (zI (mxP (fun p => photo τ (memb τ s p)) p.toNat))), (3, .int (zI (p + 1)))]) [3, 4, 1, 0] rfl ?_
        have e9 : (mxP (fun p => photo τ (memb τ s p)) p.toNat) = mxP (fun p => photo τ (memb τ s p)) (p + 1).toNat := by
          have e8 : memb τ s p = τ 7 (12 * s + p) := rfl
          rw [mxP_s _ hp, e8] <;> omega
        refine g_lv (lv' := [(0, .ref (bd 0)), (1, .int (zI s)), (2, .int (zI (mxP (fun p => photo τ (memb τ s p)) (p + 1).toNat))), (3, .int (zI (p + 1)))]) (by rw [e9]) ?_
        exact ih (p + 1) (by omega) (by omega) (by omega)
      · refine g_iload (pc := 37) dX6_limitOf_37 0 rfl ?_
        refine g_goto (pc := 39) 43 dX6_limitOf_39 (by decide) ?_
        refine g_istore_n (pc := 43) (lv' := [(2, .int (zI (photo τ (τ 7 ((12 * s) + p))))), (4, .int (zI (photo τ (τ 7 ((12 * s) + p))))), (0, .ref (bd 0)), (1, .int (zI s)), (3, .int (zI p))]) dX6_limitOf_43 (by decide) rfl ?_
        refine g_iinc (pc := 44) (lv' := [(3, .int (zI (p + 1))), (2, .int (zI (photo τ (τ 7 ((12 * s) + p))))), (4, .int (zI (photo τ (τ 7 ((12 * s) + p))))), (0, .ref (bd 0)), (1, .int (zI s))]) dX6_limitOf_44 (by decide) 4 rfl rfl ?_
        refine g_goto (pc := 47) 4 dX6_limitOf_47 (by decide) ?_
        refine g_sub (lv' := [(0, .ref (bd 0)), (1, .int (zI s)), (2, .int (zI (photo τ (τ 7 ((12 * s) + p))))), (3, .int (zI (p + 1)))]) [3, 4, 1, 0] rfl ?_
        have e9 : (photo τ (τ 7 ((12 * s) + p))) = mxP (fun p => photo τ (memb τ s p)) (p + 1).toNat := by
          have e8 : memb τ s p = τ 7 (12 * s + p) := rfl
          rw [mxP_s _ hp, e8] <;> omega
        refine g_lv (lv' := [(0, .ref (bd 0)), (1, .int (zI s)), (2, .int (zI (mxP (fun p => photo τ (memb τ s p)) (p + 1).toNat))), (3, .int (zI (p + 1)))]) (by rw [e9]) ?_
        exact ih (p + 1) (by omega) (by omega) (by omega)
set_option maxRecDepth 100000 in
set_option maxHeartbeats 2000000 in
/-- PvArrayModel.limitOf  -/
theorem c_X6_limitOf {D : va_G} {cy : Nat → ClassId} {l : Launch} {bd : Nat → Nat} {τ : Nat → Int → Int} {X : va_W} (hB : Bd τ) (s : Int) (hs : 0 ≤ s ∧ s < 6) : Con D cy l yX6_limitOf cX6_limitOf 6 (some .int) rm_X6_limitOf [.ref (bd 0), .int (zI s)] (MW cy bd τ ++ X) (rdI (limit τ s) (MW cy bd τ ++ X)) := by
  refine Con.of (lv := [(0, .ref (bd 0)), (1, .int (zI s))]) (by decide) (Nat.le_of_ble_eq_true rfl) rfl ?_
  have h1 := hB.b6 s
  refine g_iconst (pc := 0) dX6_limitOf_0 ?_
  refine g_istore_n (pc := 1) (lv' := [(2, .int (zI 0)), (0, .ref (bd 0)), (1, .int (zI s))]) dX6_limitOf_1 (by decide) rfl ?_
  refine g_iconst (pc := 2) dX6_limitOf_2 ?_
  refine g_istore_n (pc := 3) (lv' := [(3, .int (zI 0)), (2, .int (zI 0)), (0, .ref (bd 0)), (1, .int (zI s))]) dX6_limitOf_3 (by decide) rfl ?_
  refine g_sub (lv' := [(0, .ref (bd 0)), (1, .int (zI s)), (2, .int (zI 0)), (3, .int (zI 0))]) [2, 3, 1, 0] rfl ?_
  exact lp_X6_limit1 hB s hs ((τ 6 s).toNat + 1) 0 (by omega) (by omega) (by omega)
set_option maxRecDepth 100000 in
set_option maxHeartbeats 2000000 in
/-- PvArrayModel.voltageAt, the loop at 5  -/
theorem lp_X6_voltageAt {D : va_G} {cy : Nat → ClassId} {l : Launch} {bd : Nat → Nat} {τ : Nat → Int → Int} {X : va_W} (hB : Bd τ) (s : Int) (hs : 0 ≤ s ∧ s < 6) (c : Int) (hc : 0 ≤ c ∧ c ≤ 10000) : ∀ (n : Nat) (p : Int), 0 ≤ p → p ≤ τ 6 s → (τ 6 s - p).toNat < n → GO D cy l rm_X6_voltageAt cX6_voltageAt 5 yX6_voltageAt.cls (some .int) (MW cy bd τ ++ X) (rdI (svolt τ s c) (MW cy bd τ ++ X)) (MW cy bd τ ++ X) 5 [(0, .ref (bd 0)), (1, .int (zI s)), (2, .int (zI c)), (3, .int (zI (sumP (fun p => volt τ (memb τ s p) c) p.toNat))), (4, .int (zI p))] [] := by
  intro n
  induction n with
  | zero =>
    intro p hp hp2 hn
    exact absurd hn (Nat.not_lt_zero _)
  | succ n ih =>
    intro p hp hp2 hn
    have h1 := hB.b6 s
    have h2 := hB.b7 (12 * s + p)
    have h3 := sv_b hB s hc.1 (n := p.toNat) (by omega)
    have h4 := volt_b hB (memb τ s p) hc.1
    refine g_iload (pc := 5) dX6_voltageAt_5 4 rfl ?_
    refine g_aload_n (pc := 7) dX6_voltageAt_7 0 rfl ?_
    refine g_get (pc := 8) (ci := 5) inG_X6 rfl 8 (by decide) rfl fl_X6_26 (0) am_obj rfl dX6_voltageAt_8 ?_
    refine g_iload_n (pc := 11) dX6_voltageAt_11 1 rfl ?_
    refine g_iald (pc := 12) 6 am_6 (by omega) (by decide) dX6_voltageAt_12 ?_
    refine g_icmp_ge (pc := 13) 42 dX6_voltageAt_13 (by decide) (by omega) (by omega) (fun h_1 => ?_) (fun h_1 => ?_)
    · refine g_iload_n (pc := 42) dX6_voltageAt_42 3 rfl ?_
      exact g_iret (pc := 43) dX6_voltageAt_43 rfl (rdI_of (by unfold svolt; rw [show p = τ 6 s by omega]))
    · refine g_iload_n (pc := 16) dX6_voltageAt_16 3 rfl ?_
      refine g_aload_n (pc := 17) dX6_voltageAt_17 0 rfl ?_
      refine g_aload_n (pc := 18) dX6_voltageAt_18 0 rfl ?_
      refine g_get (pc := 19) (ci := 5) inG_X6 rfl 9 (by decide) rfl fl_X6_29 (0) am_obj rfl dX6_voltageAt_19 ?_
      refine g_bipush (pc := 22) dX6_voltageAt_22 (by omega) ?_
      refine g_iload_n (pc := 24) dX6_voltageAt_24 1 rfl ?_
      refine g_imul (pc := 25) dX6_voltageAt_25 ?_
      refine g_iload (pc := 26) dX6_voltageAt_26 4 rfl ?_
      refine g_iadd (pc := 28) dX6_voltageAt_28 ?_
      refine g_iald (pc := 29) 7 am_7 (by omega) (by decide) dX6_voltageAt_29 ?_
      refine g_iload_n (pc := 30) dX6_voltageAt_30 2 rfl ?_
      refine g_callV (pc := 31) (As := [.int (zI (τ 7 ((12 * s) + p))), .int (zI c)]) (rest := [.int (zI (sumP (fun p => volt τ (memb τ s p) c) p.toNat))]) k_X6_91_X6 (c_X6_voltageOf (τ := τ) hB (τ 7 ((12 * s) + p)) (by omega) c (by omega)) ⟨rfl, rfl, Nat.le_of_ble_eq_true rfl, Nat.le_of_ble_eq_true rfl⟩ (0) 5 rfl rfl am_obj rfl rfl (Nat.le_of_ble_eq_true rfl) dX6_voltageAt_31 (fun v_ w_ hq_ => ?_)
      obtain ⟨rfl, rfl⟩ := hq_
      refine g_one ?_
      refine g_iadd (pc := 34) dX6_voltageAt_34 ?_
      refine g_istore_n (pc := 35) (lv' := [(3, .int (zI ((sumP (fun p => volt τ (memb τ s p) c) p.toNat) + (volt τ (τ 7 ((12 * s) + p)) c)))), (0, .ref (bd 0)), (1, .int (zI s)), (2, .int (zI c)), (4, .int (zI p))]) dX6_voltageAt_35 (by decide) rfl ?_
      refine g_iinc (pc := 36) (lv' := [(4, .int (zI (p + 1))), (3, .int (zI ((sumP (fun p => volt τ (memb τ s p) c) p.toNat) + (volt τ (τ 7 ((12 * s) + p)) c)))), (0, .ref (bd 0)), (1, .int (zI s)), (2, .int (zI c))]) dX6_voltageAt_36 (by decide) 4 rfl rfl ?_
      refine g_goto (pc := 39) 5 dX6_voltageAt_39 (by decide) ?_
      refine g_sub (lv' := [(0, .ref (bd 0)), (1, .int (zI s)), (2, .int (zI c)), (3, .int (zI ((sumP (fun p => volt τ (memb τ s p) c) p.toNat) + (volt τ (τ 7 ((12 * s) + p)) c)))), (4, .int (zI (p + 1)))]) [2, 3, 4, 1, 0] rfl ?_
      refine g_lv (lv' := [(0, .ref (bd 0)), (1, .int (zI s)), (2, .int (zI c)), (3, .int (zI (sumP (fun p => volt τ (memb τ s p) c) (p + 1).toNat))), (4, .int (zI (p + 1)))]) (by rw [sumP_s _ hp]; rfl) ?_
      exact ih (p + 1) (by omega) (by omega) (by omega)
set_option maxRecDepth 100000 in
set_option maxHeartbeats 2000000 in
/-- PvArrayModel.voltageAt  -/
theorem c_X6_voltageAt {D : va_G} {cy : Nat → ClassId} {l : Launch} {bd : Nat → Nat} {τ : Nat → Int → Int} {X : va_W} (hB : Bd τ) (s : Int) (hs : 0 ≤ s ∧ s < 6) (c : Int) (hc : 0 ≤ c ∧ c ≤ 10000) : Con D cy l yX6_voltageAt cX6_voltageAt 5 (some .int) rm_X6_voltageAt [.ref (bd 0), .int (zI s), .int (zI c)] (MW cy bd τ ++ X) (rdI (svolt τ s c) (MW cy bd τ ++ X)) := by
  refine Con.of (lv := [(0, .ref (bd 0)), (1, .int (zI s)), (2, .int (zI c))]) (by decide) (Nat.le_of_ble_eq_true rfl) rfl ?_
  have h1 := hB.b6 s
  refine g_iconst (pc := 0) dX6_voltageAt_0 ?_
  refine g_istore_n (pc := 1) (lv' := [(3, .int (zI 0)), (0, .ref (bd 0)), (1, .int (zI s)), (2, .int (zI c))]) dX6_voltageAt_1 (by decide) rfl ?_
  refine g_iconst (pc := 2) dX6_voltageAt_2 ?_
  refine g_istore (pc := 3) (lv' := [(4, .int (zI 0)), (3, .int (zI 0)), (0, .ref (bd 0)), (1, .int (zI s)), (2, .int (zI c))]) dX6_voltageAt_3 (by decide) rfl ?_
  refine g_sub (lv' := [(0, .ref (bd 0)), (1, .int (zI s)), (2, .int (zI c)), (3, .int (zI 0)), (4, .int (zI 0))]) [2, 3, 4, 1, 0] rfl ?_
  exact lp_X6_voltageAt hB s hs c hc ((τ 6 s).toNat + 1) 0 (by omega) (by omega) (by omega)
set_option maxRecDepth 100000 in
set_option maxHeartbeats 2000000 in
/-- PvArrayModel.powerAt  -/
theorem c_X6_powerAt {D : va_G} {cy : Nat → ClassId} {l : Launch} {bd : Nat → Nat} {τ : Nat → Int → Int} {X : va_W} (hB : Bd τ) (s : Int) (hs : 0 ≤ s ∧ s < 6) (c : Int) (hc : 0 ≤ c ∧ c ≤ 10000) : Con D cy l yX6_powerAt cX6_powerAt 3 (some .long) rm_X6_powerAt [.ref (bd 0), .int (zI s), .int (zI c)] (MW cy bd τ ++ X) (rdJ (spow τ s c) (MW cy bd τ ++ X)) := by
  refine Con.of (lv := [(0, .ref (bd 0)), (1, .int (zI s)), (2, .int (zI c))]) (by decide) (Nat.le_of_ble_eq_true rfl) rfl ?_
  have h1 := svolt_b hB s hc.1
  refine g_iload_n (pc := 0) dX6_powerAt_0 2 rfl ?_
  refine g_i2l (pc := 1) dX6_powerAt_1 (by omega) ?_
  refine g_aload_n (pc := 2) dX6_powerAt_2 0 rfl ?_
  refine g_iload_n (pc := 3) dX6_powerAt_3 1 rfl ?_
  refine g_iload_n (pc := 4) dX6_powerAt_4 2 rfl ?_
  refine g_callV (pc := 5) (As := [.int (zI s), .int (zI c)]) (rest := [.long (zJ c)]) k_X6_100_X6 (c_X6_voltageAt (τ := τ) hB s (by omega) c (by omega)) ⟨rfl, rfl, Nat.le_of_ble_eq_true rfl, Nat.le_of_ble_eq_true rfl⟩ (0) 5 rfl rfl am_obj rfl rfl (Nat.le_of_ble_eq_true rfl) dX6_powerAt_5 (fun v_ w_ hq_ => ?_)
  obtain ⟨rfl, rfl⟩ := hq_
  refine g_one ?_
  refine g_i2l (pc := 8) dX6_powerAt_8 (by omega) ?_
  refine g_lmul (pc := 9) dX6_powerAt_9 ?_
  exact g_lret (pc := 10) dX6_powerAt_10 rfl (rdJ_of rfl)
theorem litp_b {g : Nat → Int → Int} (h : Bd g) (m : Int) {c : Int} (hc : 0 ≤ c ∧ c ≤ 7200) : 0 ≤ c * lit g m c ∧ c * lit g m c ≤ 4320000 := by
  have := mul_b hc (lit_b h m hc.1)
  omega
theorem mxl_b {g : Nat → Int → Int} (h : Bd g) (m : Int) : ∀ n : Nat, n ≤ 7201 → 0 ≤ mxP (fun i => i * lit g m i) n ∧ mxP (fun i => i * lit g m i) n ≤ 4320000
  | 0, _ => by simp [mxP]
  | n + 1, hn => by
    have h1 := mxl_b h m n (by omega)
    have h2 := litp_b h m (c := n) (by omega)
    show 0 ≤ max (mxP (fun i => i * lit g m i) n) ((n : Int) * lit g m n) ∧ max (mxP (fun i => i * lit g m i) n) ((n : Int) * lit g m n) ≤ 4320000
    omega
set_option maxRecDepth 100000 in
set_option maxHeartbeats 2000000 in
/-- PvArrayModel.peakPowerOf, the loop at 5  -/
theorem lp_X6_peak {D : va_G} {cy : Nat → ClassId} {l : Launch} {bd : Nat → Nat} {τ : Nat → Int → Int} {X : va_W} (hB : Bd τ) (m : Int) (hm : 0 ≤ m ∧ m < 24) : ∀ (n : Nat) (i : Int), 0 ≤ i → i ≤ photo τ m + 1 → (photo τ m + 1 - i).toNat < n → GO D cy l rm_X6_peakPowerOf cX6_peakPowerOf 7 yX6_peakPowerOf.cls (some .long) (MW cy bd τ ++ X) (rdJ (mpeak τ m) (MW cy bd τ ++ X)) (MW cy bd τ ++ X) 5 [(0, .ref (bd 0)), (1, .int (zI m)), (2, .long (zJ (mxP (fun i => i * lit τ m i) i.toNat))), (4, .int (zI i))] [] := by
  intro n
  induction n with
  | zero =>
    intro i hi hi2 hn
    exact absurd hn (Nat.not_lt_zero _)
  | succ n ih =>
    intro i hi hi2 hn
    have h1 := photo_b hB m
    have h2 := mxl_b hB m i.toNat (by omega)
    have h3 := litp_b hB m (c := i) (by omega)
    have h4 := lit_b hB m hi
    refine g_iload (pc := 5) dX6_peakPowerOf_5 3 rfl ?_
    refine g_aload_n (pc := 7) dX6_peakPowerOf_7 0 rfl ?_
    refine g_iload_n (pc := 8) dX6_peakPowerOf_8 1 rfl ?_
    refine g_callV (pc := 9) (As := [.int (zI m)]) (rest := [.int (zI i)]) k_X6_84_X6 (c_X6_photocurrentOf (τ := τ) hB m (by omega)) ⟨rfl, rfl, Nat.le_of_ble_eq_true rfl, Nat.le_of_ble_eq_true rfl⟩ (0) 5 rfl rfl am_obj rfl rfl (Nat.le_of_ble_eq_true rfl) dX6_peakPowerOf_9 (fun v_ w_ hq_ => ?_)
    obtain ⟨rfl, rfl⟩ := hq_
    refine g_one ?_
    refine g_icmp_gt (pc := 12) 49 dX6_peakPowerOf_12 (by decide) (by omega) (by omega) (fun h_1 => ?_) (fun h_1 => ?_)
    · refine g_lload_n (pc := 49) dX6_peakPowerOf_49 2 rfl ?_
      exact g_lret (pc := 50) dX6_peakPowerOf_50 rfl (rdJ_of (by rw [show i.toNat = (photo τ m).toNat + 1 by omega, mxP_best (f := mpow τ m) (Int.zero_mul _) _ (fun j q1 q2 => by show j * lit τ m j = j * volt τ m j; unfold volt; rw [if_neg (by omega)])]; rfl))
    · refine g_iload (pc := 15) dX6_peakPowerOf_15 3 rfl ?_
      refine g_i2l (pc := 17) dX6_peakPowerOf_17 (by omega) ?_
      refine g_aload_n (pc := 18) dX6_peakPowerOf_18 0 rfl ?_
      refine g_iload_n (pc := 19) dX6_peakPowerOf_19 1 rfl ?_
      refine g_iload (pc := 20) dX6_peakPowerOf_20 3 rfl ?_
      refine g_callV (pc := 22) (As := [.int (zI m), .int (zI i)]) (rest := [.long (zJ i)]) k_X6_87_X6 (c_X6_litVoltage (τ := τ) hB m (by omega) i (by omega)) ⟨rfl, rfl, Nat.le_of_ble_eq_true rfl, Nat.le_of_ble_eq_true rfl⟩ (0) 5 rfl rfl am_obj rfl rfl (Nat.le_of_ble_eq_true rfl) dX6_peakPowerOf_22 (fun v_ w_ hq_ => ?_)
      obtain ⟨rfl, rfl⟩ := hq_
      refine g_one ?_
      refine g_i2l (pc := 25) dX6_peakPowerOf_25 (by omega) ?_
      refine g_lmul (pc := 26) dX6_peakPowerOf_26 ?_
      refine g_lstore (pc := 27) (lv' := [(5, .long (zJ (i * (lit τ m i)))), (0, .ref (bd 0)), (1, .int (zI m)), (2, .long (zJ (mxP (fun i => i * lit τ m i) i.toNat))), (4, .int (zI i))]) dX6_peakPowerOf_27 (by decide) rfl ?_
      refine g_lload (pc := 29) dX6_peakPowerOf_29 0 rfl ?_
      refine g_lload_n (pc := 31) dX6_peakPowerOf_31 3 rfl ?_
      refine g_lcmp_le (pc := 32) 41 dX6_peakPowerOf_32 dX6_peakPowerOf_33 (by decide) (by omega) (by omega) (fun h_2 => ?_) (fun h_2 => ?_)
      · refine g_lload_n (pc := 41) dX6_peakPowerOf_41 3 rfl ?_
        refine g_lstore_n (pc := 42) (lv' := [(2, .long (zJ (mxP (fun i => i * lit τ m i) i.toNat))), (5, .long (zJ (i * (lit τ m i)))), (0, .ref (bd 0)), (1, .int (zI m)), (4, .int (zI i))]) dX6_peakPowerOf_42 (by decide) rfl ?_
        refine g_iinc (pc := 43) (lv' := [(4, .int (zI (i + 1))), (2, .long (zJ (mxP (fun i => i * lit τ m i) i.toNat))), (5, .long (zJ (i * (lit τ m i)))), (0, .ref (bd 0)), (1, .int (zI m))]) dX6_peakPowerOf_43 (by decide) 4 rfl rfl ?_
        refine g_goto (pc := 46) 5 dX6_peakPowerOf_46 (by decide) ?_
        refine g_sub (lv' := [(0, .ref (bd 0)), (1, .int (zI m)), (2, .long (zJ (mxP (fun i => i * lit τ m i) i.toNat))), (4, .int (zI (i + 1)))]) [3, 4, 1, 0] rfl ?_
        have e9 : (mxP (fun i => i * lit τ m i) i.toNat) = mxP (fun i => i * lit τ m i) (i + 1).toNat := by
          rw [mxP_s _ hi]
          omega
        refine g_lv (lv' := [(0, .ref (bd 0)), (1, .int (zI m)), (2, .long (zJ (mxP (fun i => i * lit τ m i) (i + 1).toNat))), (4, .int (zI (i + 1)))]) (by rw [e9]) ?_
        exact ih (i + 1) (by omega) (by omega) (by omega)
      · refine g_lload (pc := 36) dX6_peakPowerOf_36 0 rfl ?_
        refine g_goto (pc := 38) 42 dX6_peakPowerOf_38 (by decide) ?_
        refine g_lstore_n (pc := 42) (lv' := [(2, .long (zJ (i * (lit τ m i)))), (5, .long (zJ (i * (lit τ m i)))), (0, .ref (bd 0)), (1, .int (zI m)), (4, .int (zI i))]) dX6_peakPowerOf_42 (by decide) rfl ?_
        refine g_iinc (pc := 43) (lv' := [(4, .int (zI (i + 1))), (2, .long (zJ (i * (lit τ m i)))), (5, .long (zJ (i * (lit τ m i)))), (0, .ref (bd 0)), (1, .int (zI m))]) dX6_peakPowerOf_43 (by decide) 4 rfl rfl ?_
        refine g_goto (pc := 46) 5 dX6_peakPowerOf_46 (by decide) ?_
        refine g_sub (lv' := [(0, .ref (bd 0)), (1, .int (zI m)), (2, .long (zJ (i * (lit τ m i)))), (4, .int (zI (i + 1)))]) [3, 4, 1, 0] rfl ?_
        have e9 : (i * (lit τ m i)) = mxP (fun i => i * lit τ m i) (i + 1).toNat := by
          rw [mxP_s _ hi]
          omega
        refine g_lv (lv' := [(0, .ref (bd 0)), (1, .int (zI m)), (2, .long (zJ (mxP (fun i => i * lit τ m i) (i + 1).toNat))), (4, .int (zI (i + 1)))]) (by rw [e9]) ?_
        exact ih (i + 1) (by omega) (by omega) (by omega)
set_option maxRecDepth 100000 in
set_option maxHeartbeats 2000000 in
/-- PvArrayModel.peakPowerOf  -/
theorem c_X6_peakPowerOf {D : va_G} {cy : Nat → ClassId} {l : Launch} {bd : Nat → Nat} {τ : Nat → Int → Int} {X : va_W} (hB : Bd τ) (m : Int) (hm : 0 ≤ m ∧ m < 24) : Con D cy l yX6_peakPowerOf cX6_peakPowerOf 7 (some .long) rm_X6_peakPowerOf [.ref (bd 0), .int (zI m)] (MW cy bd τ ++ X) (rdJ (mpeak τ m) (MW cy bd τ ++ X)) := by
  refine Con.of (lv := [(0, .ref (bd 0)), (1, .int (zI m))]) (by decide) (Nat.le_of_ble_eq_true rfl) rfl ?_
  have h1 := photo_b hB m
  refine g_lconst (pc := 0) (z := 0) dX6_peakPowerOf_0 rfl ?_
  refine g_lstore_n (pc := 1) (lv' := [(2, .long (zJ 0)), (0, .ref (bd 0)), (1, .int (zI m))]) dX6_peakPowerOf_1 (by decide) rfl ?_
  refine g_iconst (pc := 2) dX6_peakPowerOf_2 ?_
  refine g_istore (pc := 3) (lv' := [(4, .int (zI 0)), (2, .long (zJ 0)), (0, .ref (bd 0)), (1, .int (zI m))]) dX6_peakPowerOf_3 (by decide) rfl ?_
  refine g_sub (lv' := [(0, .ref (bd 0)), (1, .int (zI m)), (2, .long (zJ 0)), (4, .int (zI 0))]) [2, 3, 1, 0] rfl ?_
  exact lp_X6_peak hB m hm ((photo τ m).toNat + 2) 0 (by omega) (by omega) (by omega)
