set_option maxRecDepth 100000 in
set_option maxHeartbeats 2000000 in
/-- PvArrayModel.scanAndClimb, the loop at 79  -/
theorem lp_X6_climb {D : va_G} {cy : Nat → ClassId} {l : Launch} {bd : Nat → Nat} {τ : Nat → Int → Int} {X : va_W} (hB : Bd τ) (s : Int) (hs : 0 ≤ s ∧ s < τ 0 2) (v : Int) (hv : 1 ≤ v ∧ v ≤ 500) : ∀ (n : Nat) (c : Int), 0 ≤ c → c ≤ limit τ s → climb (spow τ s) (limit τ s) c = a_scan τ s v → more (spow τ s) ((spow τ s) c) ((limit τ s) + 1).toNat < n → GO D cy l rm_X6_scanAndClimb cX6_scanAndClimb 5 yX6_scanAndClimb.cls (some .int) (MW cy bd τ ++ X) (sxI τ (a_scan τ s v) cy bd X) (MW cy bd (loS τ s) ++ X) 79 [(0, .ref (bd 0)), (1, .int (zI s)), (2, .int (zI v)), (3, .int (zI c))] [] := by
  intro n
  induction n with
  | zero =>
    intro c hc1 hc2 ha hn
    exact absurd hn (Nat.not_lt_zero _)
  | succ n ih =>
    intro c hc1 hc2 ha hn
    have g1 := hB.sc
    have g2 := hB.mc
    have g3 := limit_b hB s
    have g4 := spow_b2 hB s (c := c) (by omega)
    refine g_iload_n (pc := 79) dX6_scanAndClimb_79 3 rfl ?_
    refine g_aload_n (pc := 80) dX6_scanAndClimb_80 0 rfl ?_
    refine g_get (pc := 81) (ci := 5) inG_X6 rfl 10 (by decide) rfl fl_X6_110 (0) am_obj rfl dX6_scanAndClimb_81 ?_
    refine g_topI (show (loS τ s) 0 3 = limit τ s from rfl) ?_
    refine g_icmp_ge (pc := 84) 111 dX6_scanAndClimb_84 (by decide) (by omega) (by omega) (fun h_1 => ?_) (fun h_1 => ?_)
    · refine g_iload_n (pc := 111) dX6_scanAndClimb_111 3 rfl ?_
      refine g_if_le (pc := 112) 139 dX6_scanAndClimb_112 (by decide) (by omega) (fun h_2 => ?_) (fun h_2 => ?_)
      · refine g_iload_n (pc := 139) dX6_scanAndClimb_139 3 rfl ?_
        exact g_iret (pc := 140) dX6_scanAndClimb_140 rfl (sxI_of (by rw [← ha, climb_eq hc1 hc2, if_neg (by omega), if_neg (by omega)]) (loP_Sx τ s _))
      · have g6 := spow_b2 hB s (c := c - 1) (by omega)
        refine g_aload_n (pc := 115) dX6_scanAndClimb_115 0 rfl ?_
        refine g_get (pc := 116) (ci := 5) inG_X6 rfl 11 (by decide) rfl fl_X6_32 (0) am_obj rfl dX6_scanAndClimb_116 ?_
        refine g_iload_n (pc := 119) dX6_scanAndClimb_119 3 rfl ?_
        refine g_iconst (pc := 120) dX6_scanAndClimb_120 ?_
        refine g_isub (pc := 121) dX6_scanAndClimb_121 ?_
        refine g_lald (pc := 122) 8 am_8 (by omega) (by decide) dX6_scanAndClimb_122 ?_
        refine g_topJ (loS_8 τ s (i := c - 1) (by omega)) ?_
        refine g_aload_n (pc := 123) dX6_scanAndClimb_123 0 rfl ?_
        refine g_get (pc := 124) (ci := 5) inG_X6 rfl 11 (by decide) rfl fl_X6_32 (0) am_obj rfl dX6_scanAndClimb_124 ?_
        refine g_iload_n (pc := 127) dX6_scanAndClimb_127 3 rfl ?_
        refine g_lald (pc := 128) 8 am_8 (by omega) (by decide) dX6_scanAndClimb_128 ?_
        refine g_topJ (loS_8 τ s (i := c) (by omega)) ?_
        refine g_lcmp_le (pc := 129) 139 dX6_scanAndClimb_129 dX6_scanAndClimb_130 (by decide) (by omega) (by omega) (fun h_3 => ?_) (fun h_3 => ?_)
        · refine g_iload_n (pc := 139) dX6_scanAndClimb_139 3 rfl ?_
          exact g_iret (pc := 140) dX6_scanAndClimb_140 rfl (sxI_of (by rw [← ha, climb_eq hc1 hc2, if_neg (by omega), if_neg (by omega)]) (loP_Sx τ s _))
        · refine g_iinc (pc := 133) (lv' := [(3, .int (zI (c + (-1)))), (0, .ref (bd 0)), (1, .int (zI s)), (2, .int (zI v))]) dX6_scanAndClimb_133 (by decide) 3 rfl rfl ?_
          refine g_goto (pc := 136) 79 dX6_scanAndClimb_136 (by decide) ?_
          refine g_sub (lv' := [(0, .ref (bd 0)), (1, .int (zI s)), (2, .int (zI v)), (3, .int (zI (c + (-1))))]) [1, 2, 3, 0] rfl ?_
          refine g_lv (lv' := [(0, .ref (bd 0)), (1, .int (zI s)), (2, .int (zI v)), (3, .int (zI (c - 1)))]) (by rw [show c + (-1) = c - 1 by omega]) ?_
          exact ih (c - 1) (by omega) (by omega) (by rw [← ha, climb_eq (c := c) hc1 hc2, if_neg (by omega), if_pos ⟨by omega, by omega⟩]) (by have := more_lt ((limit τ s) + 1).toNat (f := (spow τ s)) (x := (spow τ s) c) (c := c - 1) (by omega) (by omega) (by omega); omega)
    · have g5 := spow_b2 hB s (c := c + 1) (by omega)
      refine g_aload_n (pc := 87) dX6_scanAndClimb_87 0 rfl ?_
      refine g_get (pc := 88) (ci := 5) inG_X6 rfl 11 (by decide) rfl fl_X6_32 (0) am_obj rfl dX6_scanAndClimb_88 ?_
      refine g_iload_n (pc := 91) dX6_scanAndClimb_91 3 rfl ?_
      refine g_iconst (pc := 92) dX6_scanAndClimb_92 ?_
      refine g_iadd (pc := 93) dX6_scanAndClimb_93 ?_
      refine g_lald (pc := 94) 8 am_8 (by omega) (by decide) dX6_scanAndClimb_94 ?_
      refine g_topJ (loS_8 τ s (i := c + 1) (by omega)) ?_
      refine g_aload_n (pc := 95) dX6_scanAndClimb_95 0 rfl ?_
      refine g_get (pc := 96) (ci := 5) inG_X6 rfl 11 (by decide) rfl fl_X6_32 (0) am_obj rfl dX6_scanAndClimb_96 ?_
      refine g_iload_n (pc := 99) dX6_scanAndClimb_99 3 rfl ?_
      refine g_lald (pc := 100) 8 am_8 (by omega) (by decide) dX6_scanAndClimb_100 ?_
      refine g_topJ (loS_8 τ s (i := c) (by omega)) ?_
      refine g_lcmp_le (pc := 101) 111 dX6_scanAndClimb_101 dX6_scanAndClimb_102 (by decide) (by omega) (by omega) (fun h_4 => ?_) (fun h_4 => ?_)
      · refine g_iload_n (pc := 111) dX6_scanAndClimb_111 3 rfl ?_
        refine g_if_le (pc := 112) 139 dX6_scanAndClimb_112 (by decide) (by omega) (fun h_5 => ?_) (fun h_5 => ?_)
        · refine g_iload_n (pc := 139) dX6_scanAndClimb_139 3 rfl ?_
          exact g_iret (pc := 140) dX6_scanAndClimb_140 rfl (sxI_of (by rw [← ha, climb_eq hc1 hc2, if_neg (by omega), if_neg (by omega)]) (loP_Sx τ s _))
        · have g6 := spow_b2 hB s (c := c - 1) (by omega)
          refine g_aload_n (pc := 115) dX6_scanAndClimb_115 0 rfl ?_
          refine g_get (pc := 116) (ci := 5) inG_X6 rfl 11 (by decide) rfl fl_X6_32 (0) am_obj rfl dX6_scanAndClimb_116 ?_
          refine g_iload_n (pc := 119) dX6_scanAndClimb_119 3 rfl ?_
          refine g_iconst (pc := 120) dX6_scanAndClimb_120 ?_
          refine g_isub (pc := 121) dX6_scanAndClimb_121 ?_
          refine g_lald (pc := 122) 8 am_8 (by omega) (by decide) dX6_scanAndClimb_122 ?_
          refine g_topJ (loS_8 τ s (i := c - 1) (by omega)) ?_
          refine g_aload_n (pc := 123) dX6_scanAndClimb_123 0 rfl ?_
          refine g_get (pc := 124) (ci := 5) inG_X6 rfl 11 (by decide) rfl fl_X6_32 (0) am_obj rfl dX6_scanAndClimb_124 ?_
          refine g_iload_n (pc := 127) dX6_scanAndClimb_127 3 rfl ?_
          refine g_lald (pc := 128) 8 am_8 (by omega) (by decide) dX6_scanAndClimb_128 ?_
          refine g_topJ (loS_8 τ s (i := c) (by omega)) ?_
          refine g_lcmp_le (pc := 129) 139 dX6_scanAndClimb_129 dX6_scanAndClimb_130 (by decide) (by omega) (by omega) (fun h_6 => ?_) (fun h_6 => ?_)
          · refine g_iload_n (pc := 139) dX6_scanAndClimb_139 3 rfl ?_
            exact g_iret (pc := 140) dX6_scanAndClimb_140 rfl (sxI_of (by rw [← ha, climb_eq hc1 hc2, if_neg (by omega), if_neg (by omega)]) (loP_Sx τ s _))
          · refine g_iinc (pc := 133) (lv' := [(3, .int (zI (c + (-1)))), (0, .ref (bd 0)), (1, .int (zI s)), (2, .int (zI v))]) dX6_scanAndClimb_133 (by decide) 3 rfl rfl ?_
            refine g_goto (pc := 136) 79 dX6_scanAndClimb_136 (by decide) ?_
            refine g_sub (lv' := [(0, .ref (bd 0)), (1, .int (zI s)), (2, .int (zI v)), (3, .int (zI (c + (-1))))]) [1, 2, 3, 0] rfl ?_
            refine g_lv (lv' := [(0, .ref (bd 0)), (1, .int (zI s)), (2, .int (zI v)), (3, .int (zI (c - 1)))]) (by rw [show c + (-1) = c - 1 by omega]) ?_
            exact ih (c - 1) (by omega) (by omega) (by rw [← ha, climb_eq (c := c) hc1 hc2, if_neg (by omega), if_pos ⟨by omega, by omega⟩]) (by have := more_lt ((limit τ s) + 1).toNat (f := (spow τ s)) (x := (spow τ s) c) (c := c - 1) (by omega) (by omega) (by omega); omega)
      · refine g_iinc (pc := 105) (lv' := [(3, .int (zI (c + 1))), (0, .ref (bd 0)), (1, .int (zI s)), (2, .int (zI v))]) dX6_scanAndClimb_105 (by decide) 3 rfl rfl ?_
        refine g_goto (pc := 108) 79 dX6_scanAndClimb_108 (by decide) ?_
        refine g_sub (lv' := [(0, .ref (bd 0)), (1, .int (zI s)), (2, .int (zI v)), (3, .int (zI (c + 1)))]) [1, 2, 3, 0] rfl ?_
        exact ih (c + 1) (by omega) (by omega) (by rw [← ha, climb_eq (c := c) hc1 hc2, if_pos ⟨by omega, by omega⟩]) (by have := more_lt ((limit τ s) + 1).toNat (f := (spow τ s)) (x := (spow τ s) c) (c := c + 1) (by omega) (by omega) (by omega); omega)
set_option maxRecDepth 100000 in
set_option maxHeartbeats 2000000 in
/-- PvArrayModel.scanAndClimb, the loop at 37  -/
theorem lp_X6_scan {D : va_G} {cy : Nat → ClassId} {l : Launch} {bd : Nat → Nat} {τ : Nat → Int → Int} {X : va_W} (hB : Bd τ) (s : Int) (hs : 0 ≤ s ∧ s < τ 0 2) (v : Int) (hv : 1 ≤ v ∧ v ≤ 500) : ∀ (n : Nat) (k : Nat), (k : Int) * v ≤ limit τ s + v → (limit τ s + v + 1 - (k : Int) * v).toNat < n → GO D cy l rm_X6_scanAndClimb cX6_scanAndClimb 5 yX6_scanAndClimb.cls (some .int) (MW cy bd τ ++ X) (sxI τ (a_scan τ s v) cy bd X) (MW cy bd (loS τ s) ++ X) 37 [(0, .ref (bd 0)), (1, .int (zI s)), (2, .int (zI v)), (3, .int (zI (scanT (spow τ s) v k))), (4, .int (zI ((k : Int) * v)))] [] := by
  intro n
  induction n with
  | zero =>
    intro k hk hn
    exact absurd hn (Nat.not_lt_zero _)
  | succ n ih =>
    intro k hk hn
    have g1 := hB.sc
    have g2 := hB.mc
    have g3 := limit_b hB s
    have hk0 : 0 ≤ (k : Int) * v := Int.mul_nonneg (by omega) (by omega)
    have hsb := scanT_b (spow τ s) (v := v) (by omega) k (B := limit τ s) g3.1 (fun j hj => by have := mul_lt_mono (v := v) hj (by omega); omega)
    have h1 := spow_b2 hB s (c := scanT (spow τ s) v k) (by omega)
    refine g_iload (pc := 37) dX6_scanAndClimb_37 4 rfl ?_
    refine g_aload_n (pc := 39) dX6_scanAndClimb_39 0 rfl ?_
    refine g_get (pc := 40) (ci := 5) inG_X6 rfl 10 (by decide) rfl fl_X6_110 (0) am_obj rfl dX6_scanAndClimb_40 ?_
    refine g_topI (show (loS τ s) 0 3 = limit τ s from rfl) ?_
    refine g_icmp_gt (pc := 43) 79 dX6_scanAndClimb_43 (by decide) (by omega) (by omega) (fun h_1 => ?_) (fun h_1 => ?_)
    · refine g_sub (lv' := [(0, .ref (bd 0)), (1, .int (zI s)), (2, .int (zI v)), (3, .int (zI (scanT (spow τ s) v k)))]) [0, 1, 2, 3] rfl ?_
      exact lp_X6_climb hB s hs v hv (more (spow τ s) ((spow τ s) (scanT (spow τ s) v k)) ((limit τ s) + 1).toNat + 1) (scanT (spow τ s) v k) (by omega) (by omega) (by unfold a_scan; rw [if_pos hs, if_pos hv]; unfold scan; rw [← scan_end g3.1 hv.1 (by omega) hk]) (by omega)
    · have h2 := spow_b2 hB s (c := (k : Int) * v) (by omega)
      refine g_aload_n (pc := 46) dX6_scanAndClimb_46 0 rfl ?_
      refine g_get (pc := 47) (ci := 5) inG_X6 rfl 11 (by decide) rfl fl_X6_32 (0) am_obj rfl dX6_scanAndClimb_47 ?_
      refine g_iload (pc := 50) dX6_scanAndClimb_50 4 rfl ?_
      refine g_lald (pc := 52) 8 am_8 (by omega) (by decide) dX6_scanAndClimb_52 ?_
      refine g_topJ (loS_8 τ s (i := (k : Int) * v) (by omega)) ?_
      refine g_aload_n (pc := 53) dX6_scanAndClimb_53 0 rfl ?_
      refine g_get (pc := 54) (ci := 5) inG_X6 rfl 11 (by decide) rfl fl_X6_32 (0) am_obj rfl dX6_scanAndClimb_54 ?_
      refine g_iload_n (pc := 57) dX6_scanAndClimb_57 3 rfl ?_
      refine g_lald (pc := 58) 8 am_8 (by omega) (by decide) dX6_scanAndClimb_58 ?_
      refine g_topJ (loS_8 τ s (i := scanT (spow τ s) v k) (by omega)) ?_
      refine g_lcmp_le (pc := 59) 68 dX6_scanAndClimb_59 dX6_scanAndClimb_60 (by decide) (by omega) (by omega) (fun h_2 => ?_) (fun h_2 => ?_)
      · refine g_iload_n (pc := 68) dX6_scanAndClimb_68 3 rfl ?_
        refine g_istore_n (pc := 69) (lv' := [(3, .int (zI (scanT (spow τ s) v k))), (0, .ref (bd 0)), (1, .int (zI s)), (2, .int (zI v)), (4, .int (zI ((k : Int) * v)))]) dX6_scanAndClimb_69 (by decide) rfl ?_
        refine g_iload (pc := 70) dX6_scanAndClimb_70 4 rfl ?_
        refine g_iload_n (pc := 72) dX6_scanAndClimb_72 3 rfl ?_
        refine g_iadd (pc := 73) dX6_scanAndClimb_73 ?_
        refine g_istore (pc := 74) (lv' := [(4, .int (zI (((k : Int) * v) + v))), (3, .int (zI (scanT (spow τ s) v k))), (0, .ref (bd 0)), (1, .int (zI s)), (2, .int (zI v))]) dX6_scanAndClimb_74 (by decide) rfl ?_
        refine g_goto (pc := 76) 37 dX6_scanAndClimb_76 (by decide) ?_
        refine g_sub (lv' := [(0, .ref (bd 0)), (1, .int (zI s)), (2, .int (zI v)), (3, .int (zI (scanT (spow τ s) v k))), (4, .int (zI (((k : Int) * v) + v)))]) [2, 3, 4, 1, 0] rfl ?_
        refine g_lv (lv' := [(0, .ref (bd 0)), (1, .int (zI s)), (2, .int (zI v)), (3, .int (zI (scanT (spow τ s) v (k + 1)))), (4, .int (zI (((k + 1 : Nat) : Int) * v)))]) (by rw [scanT, if_neg (by omega), show ((k + 1 : Nat) : Int) * v = (k : Int) * v + v by rw [show ((k + 1 : Nat) : Int) = (k : Int) + 1 by omega, Int.add_mul, Int.one_mul]]) ?_
        exact ih (k + 1) (by rw [show ((k + 1 : Nat) : Int) * v = (k : Int) * v + v by rw [show ((k + 1 : Nat) : Int) = (k : Int) + 1 by omega, Int.add_mul, Int.one_mul]]; omega) (by rw [show ((k + 1 : Nat) : Int) * v = (k : Int) * v + v by rw [show ((k + 1 : Nat) : Int) = (k : Int) + 1 by omega, Int.add_mul, Int.one_mul]]; omega)
      · refine g_iload (pc := 63) dX6_scanAndClimb_63 4 rfl ?_
        refine g_goto (pc := 65) 69 dX6_scanAndClimb_65 (by decide) ?_
        refine g_istore_n (pc := 69) (lv' := [(3, .int (zI ((k : Int) * v))), (0, .ref (bd 0)), (1, .int (zI s)), (2, .int (zI v)), (4, .int (zI ((k : Int) * v)))]) dX6_scanAndClimb_69 (by decide) rfl ?_
        refine g_iload (pc := 70) dX6_scanAndClimb_70 4 rfl ?_
        refine g_iload_n (pc := 72) dX6_scanAndClimb_72 3 rfl ?_
        refine g_iadd (pc := 73) dX6_scanAndClimb_73 ?_
        refine g_istore (pc := 74) (lv' := [(4, .int (zI (((k : Int) * v) + v))), (3, .int (zI ((k : Int) * v))), (0, .ref (bd 0)), (1, .int (zI s)), (2, .int (zI v))]) dX6_scanAndClimb_74 (by decide) rfl ?_
        refine g_goto (pc := 76) 37 dX6_scanAndClimb_76 (by decide) ?_
        refine g_sub (lv' := [(0, .ref (bd 0)), (1, .int (zI s)), (2, .int (zI v)), (3, .int (zI ((k : Int) * v))), (4, .int (zI (((k : Int) * v) + v)))]) [2, 3, 4, 1, 0] rfl ?_
        refine g_lv (lv' := [(0, .ref (bd 0)), (1, .int (zI s)), (2, .int (zI v)), (3, .int (zI (scanT (spow τ s) v (k + 1)))), (4, .int (zI (((k + 1 : Nat) : Int) * v)))]) (by rw [scanT, if_pos (by omega), show ((k + 1 : Nat) : Int) * v = (k : Int) * v + v by rw [show ((k + 1 : Nat) : Int) = (k : Int) + 1 by omega, Int.add_mul, Int.one_mul]]) ?_
        exact ih (k + 1) (by rw [show ((k + 1 : Nat) : Int) * v = (k : Int) * v + v by rw [show ((k + 1 : Nat) : Int) = (k : Int) + 1 by omega, Int.add_mul, Int.one_mul]]; omega) (by rw [show ((k + 1 : Nat) : Int) * v = (k : Int) * v + v by rw [show ((k + 1 : Nat) : Int) = (k : Int) + 1 by omega, Int.add_mul, Int.one_mul]]; omega)
set_option maxRecDepth 100000 in
set_option maxHeartbeats 2000000 in
/-- PvArrayModel.scanAndClimb  -/
theorem c_X6_scanAndClimb {D : va_G} {cy : Nat → ClassId} {l : Launch} {bd : Nat → Nat} {τ : Nat → Int → Int} {X : va_W} (hB : Bd τ) (s : Int) (hs : -2147483648 ≤ s ∧ s ≤ 2147483647) (v : Int) (hv : -2147483648 ≤ v ∧ v ≤ 2147483647) : Con D cy l yX6_scanAndClimb cX6_scanAndClimb 5 (some .int) rm_X6_scanAndClimb [.ref (bd 0), .int (zI s), .int (zI v)] (MW cy bd τ ++ X) (sxI τ (a_scan τ s v) cy bd X) := by
  refine Con.of (lv := [(0, .ref (bd 0)), (1, .int (zI s)), (2, .int (zI v))]) (by decide) (Nat.le_of_ble_eq_true rfl) rfl ?_
  have g1 := hB.sc
  have g2 := hB.mc
  have g3 := limit_b hB s
  refine g_aload_n (pc := 0) dX6_scanAndClimb_0 0 rfl ?_
  refine g_iload_n (pc := 1) dX6_scanAndClimb_1 1 rfl ?_
  refine g_callV (pc := 2) (As := [.int (zI s)]) (rest := []) k_X6_62_X6 (c_X6_isString (τ := τ) hB s (by omega)) ⟨rfl, rfl, Nat.le_of_ble_eq_true rfl, Nat.le_of_ble_eq_true rfl⟩ (0) 5 rfl rfl am_obj rfl rfl (Nat.le_of_ble_eq_true rfl) dX6_scanAndClimb_2 (fun v_ w_ hq_ => ?_)
  rcases hq_ with ⟨rfl, rfl, hs_1⟩ | ⟨rfl, rfl, hs_1⟩
  · refine g_one ?_
    refine g_if_neT (pc := 5) 12 dX6_scanAndClimb_5 (by decide) (by omega) (by omega) ?_
    refine g_iload_n (pc := 12) dX6_scanAndClimb_12 2 rfl ?_
    refine g_iconst (pc := 13) dX6_scanAndClimb_13 ?_
    refine g_sipush (pc := 14) dX6_scanAndClimb_14 (by omega) ?_
    refine g_callS (pc := 17) (As := [.int (zI v), .int (zI 1), .int (zI 500)]) (rest := []) k_X6_55_X6 (c_X6_isBetween (τ := τ) v 1 500 (by omega) (by omega) (by omega)) ⟨rfl, rfl, Nat.le_of_ble_eq_true rfl, Nat.le_of_ble_eq_true rfl⟩ rfl rfl (Nat.le_of_ble_eq_true rfl) dX6_scanAndClimb_17 (fun v_ w_ hq_ => ?_)
    rcases hq_ with ⟨rfl, rfl, hw_2⟩ | ⟨rfl, rfl, hw_2⟩
    · refine g_one ?_
      refine g_if_neT (pc := 20) 27 dX6_scanAndClimb_20 (by decide) (by omega) (by omega) ?_
      refine g_aload_n (pc := 27) dX6_scanAndClimb_27 0 rfl ?_
      refine g_iload_n (pc := 28) dX6_scanAndClimb_28 1 rfl ?_
      refine g_callV (pc := 29) (As := [.int (zI s)]) (rest := []) k_X6_113_X6 (c_X6_layOut (τ := τ) hB s (by omega)) ⟨rfl, rfl, Nat.le_of_ble_eq_true rfl, Nat.le_of_ble_eq_true rfl⟩ (0) 5 rfl rfl am_obj rfl rfl (Nat.le_of_ble_eq_true rfl) dX6_scanAndClimb_29 (fun v_ w_ hq_ => ?_)
      obtain ⟨rfl, rfl⟩ := hq_
      refine g_none ?_
      refine g_iconst (pc := 32) dX6_scanAndClimb_32 ?_
      refine g_istore_n (pc := 33) (lv' := [(3, .int (zI 0)), (0, .ref (bd 0)), (1, .int (zI s)), (2, .int (zI v))]) dX6_scanAndClimb_33 (by decide) rfl ?_
      refine g_iconst (pc := 34) dX6_scanAndClimb_34 ?_
      refine g_istore (pc := 35) (lv' := [(4, .int (zI 0)), (3, .int (zI 0)), (0, .ref (bd 0)), (1, .int (zI s)), (2, .int (zI v))]) dX6_scanAndClimb_35 (by decide) rfl ?_
      refine g_sub (lv' := [(0, .ref (bd 0)), (1, .int (zI s)), (2, .int (zI v)), (3, .int (zI 0)), (4, .int (zI 0))]) [2, 3, 4, 1, 0] rfl ?_
      refine g_lv (lv' := [(0, .ref (bd 0)), (1, .int (zI s)), (2, .int (zI v)), (3, .int (zI (scanT (spow τ s) v 0))), (4, .int (zI (((0 : Nat) : Int) * v)))]) (by rw [show ((0 : Nat) : Int) * v = 0 from Int.zero_mul v]; rfl) ?_
      exact lp_X6_scan hB s (by omega) v (by omega) ((limit τ s + v + 1).toNat + 1) 0 (by rw [show ((0 : Nat) : Int) * v = 0 from Int.zero_mul v]; omega) (by rw [show ((0 : Nat) : Int) * v = 0 from Int.zero_mul v]; omega)
    · refine g_one ?_
      refine g_if_neF (pc := 20) 27 dX6_scanAndClimb_20 (by decide) (by omega) (by omega) ?_
      refine g_sipush (pc := 23) dX6_scanAndClimb_23 (by omega) ?_
      exact g_iret (pc := 26) dX6_scanAndClimb_26 rfl (sxI_of (by unfold a_scan; (repeat' split) <;> first | rfl | (exfalso; omega)) (Sx.rf τ))
  · refine g_one ?_
    refine g_if_neF (pc := 5) 12 dX6_scanAndClimb_5 (by decide) (by omega) (by omega) ?_
    refine g_sipush (pc := 8) dX6_scanAndClimb_8 (by omega) ?_
    exact g_iret (pc := 11) dX6_scanAndClimb_11 rfl (sxI_of (by unfold a_scan; (repeat' split) <;> first | rfl | (exfalso; omega)) (Sx.rf τ))
set_option maxRecDepth 100000 in
set_option maxHeartbeats 2000000 in
theorem st_X6_perturb_true {D : va_G} {cy : Nat → ClassId} {l : Launch} {bd : Nat → Nat} {τ : Nat → Int → Int} {X : va_W} (hB : Bd τ) (s : Int) (hs : 0 ≤ s ∧ s < τ 0 2) (a t it : Int) (hac : (0 ≤ a ∧ a ≤ limit τ s) ∧ (1 ≤ t ∧ t ≤ 100) ∧ (0 ≤ it ∧ it ≤ 200)) (c n : Int) (hc1 : 0 ≤ c) (hc2 : c ≤ limit τ s) (hn1 : 0 ≤ n) (hn2 : n ≤ it) (ha : pobs (spow τ s) (limit τ s) t (it - n).toNat c true = a_perturb τ s a t it) (ihT : ∀ c m : Int, 0 ≤ c → c ≤ limit τ s → m = n + 1 → m ≤ it → pobs (spow τ s) (limit τ s) t (it - m).toNat c true = a_perturb τ s a t it → GO D cy l rm_X6_perturbAndObserve cX6_perturbAndObserve 9 yX6_perturbAndObserve.cls (some .int) (MW cy bd τ ++ X) (sxI τ (a_perturb τ s a t it) cy bd X) (MW cy bd (loS τ s) ++ X) 64 [(0, .ref (bd 0)), (1, .int (zI s)), (2, .int (zI a)), (3, .int (zI t)), (4, .int (zI it)), (5, .int (zI c)), (6, .int (zI 1)), (7, .int (zI m))] []) (ihF : ∀ c m : Int, 0 ≤ c → c ≤ limit τ s → m = n + 1 → m ≤ it → pobs (spow τ s) (limit τ s) t (it - m).toNat c false = a_perturb τ s a t it → GO D cy l rm_X6_perturbAndObserve cX6_perturbAndObserve 9 yX6_perturbAndObserve.cls (some .int) (MW cy bd τ ++ X) (sxI τ (a_perturb τ s a t it) cy bd X) (MW cy bd (loS τ s) ++ X) 64 [(0, .ref (bd 0)), (1, .int (zI s)), (2, .int (zI a)), (3, .int (zI t)), (4, .int (zI it)), (5, .int (zI c)), (6, .int (zI (-1))), (7, .int (zI m))] []) : GO D cy l rm_X6_perturbAndObserve cX6_perturbAndObserve 9 yX6_perturbAndObserve.cls (some .int) (MW cy bd τ ++ X) (sxI τ (a_perturb τ s a t it) cy bd X) (MW cy bd (loS τ s) ++ X) 64 [(0, .ref (bd 0)), (1, .int (zI s)), (2, .int (zI a)), (3, .int (zI t)), (4, .int (zI it)), (5, .int (zI c)), (6, .int (zI 1)), (7, .int (zI n))] [] := by
  have g1 := hB.sc
  have g2 := hB.mc
  have g3 := limit_b hB s
  have q1 := spow_b2 hB s (c := c) (by omega)
  refine g_iload (pc := 64) dX6_perturbAndObserve_64 7 rfl ?_
  refine g_iload (pc := 66) dX6_perturbAndObserve_66 4 rfl ?_
  refine g_icmp_ge (pc := 68) 145 dX6_perturbAndObserve_68 (by decide) (by omega) (by omega) (fun h_1 => ?_) (fun h_1 => ?_)
  · refine g_iload (pc := 145) dX6_perturbAndObserve_145 5 rfl ?_
    exact g_iret (pc := 147) dX6_perturbAndObserve_147 rfl (sxI_of (by rw [← ha, show (it - n).toNat = 0 by omega]; rfl) (loP_Sx τ s _))
  · refine g_iload (pc := 71) dX6_perturbAndObserve_71 5 rfl ?_
    refine g_iload (pc := 73) dX6_perturbAndObserve_73 6 rfl ?_
    refine g_iload_n (pc := 75) dX6_perturbAndObserve_75 3 rfl ?_
    refine g_imul (pc := 76) dX6_perturbAndObserve_76 ?_
    refine g_iadd (pc := 77) dX6_perturbAndObserve_77 ?_
    refine g_istore (pc := 78) (lv' := [(8, .int (zI (c + (1 * t)))), (0, .ref (bd 0)), (1, .int (zI s)), (2, .int (zI a)), (3, .int (zI t)), (4, .int (zI it)), (5, .int (zI c)), (6, .int (zI 1)), (7, .int (zI n))]) dX6_perturbAndObserve_78 (by decide) rfl ?_
    refine g_iload (pc := 80) dX6_perturbAndObserve_80 0 rfl ?_
    refine g_if_ge (pc := 82) 89 dX6_perturbAndObserve_82 (by decide) (by omega) (fun h_2 => ?_) (fun h_2 => ?_)
    · refine g_iload (pc := 89) dX6_perturbAndObserve_89 0 rfl ?_
      refine g_aload_n (pc := 91) dX6_perturbAndObserve_91 1 rfl ?_
      refine g_get (pc := 92) (ci := 5) inG_X6 rfl 10 (by decide) rfl fl_X6_110 (0) am_obj rfl dX6_perturbAndObserve_92 ?_
      refine g_topI (show (loS τ s) 0 3 = limit τ s from rfl) ?_
      refine g_icmp_le (pc := 95) 105 dX6_perturbAndObserve_95 (by decide) (by omega) (by omega) (fun h_3 => ?_) (fun h_3 => ?_)
      · refine g_iload (pc := 105) dX6_perturbAndObserve_105 0 rfl ?_
        refine g_istore (pc := 107) (lv' := [(8, .int (zI (c + (1 * t)))), (0, .ref (bd 0)), (1, .int (zI s)), (2, .int (zI a)), (3, .int (zI t)), (4, .int (zI it)), (5, .int (zI c)), (6, .int (zI 1)), (7, .int (zI n))]) dX6_perturbAndObserve_107 (by decide) rfl ?_
        refine g_aload_n (pc := 109) dX6_perturbAndObserve_109 1 rfl ?_
        refine g_get (pc := 110) (ci := 5) inG_X6 rfl 11 (by decide) rfl fl_X6_32 (0) am_obj rfl dX6_perturbAndObserve_110 ?_
        refine g_iload (pc := 113) dX6_perturbAndObserve_113 0 rfl ?_
        refine g_lald (pc := 115) 8 am_8 (by omega) (by decide) dX6_perturbAndObserve_115 ?_
        refine g_topJ (loS_8 τ s (i := c + (1 * t)) (by omega)) ?_
        have hce : min (c + t) (limit τ s) = (c + (1 * t)) := by omega
        have q2 := spow_b2 hB s (c := c + (1 * t)) (by omega)
        refine g_aload_n (pc := 116) dX6_perturbAndObserve_116 1 rfl ?_
        refine g_get (pc := 117) (ci := 5) inG_X6 rfl 11 (by decide) rfl fl_X6_32 (0) am_obj rfl dX6_perturbAndObserve_117 ?_
        refine g_iload (pc := 120) dX6_perturbAndObserve_120 6 rfl ?_
        refine g_lald (pc := 122) 8 am_8 (by omega) (by decide) dX6_perturbAndObserve_122 ?_
        refine g_topJ (loS_8 τ s (i := c) (by omega)) ?_
        refine g_lcmp_le (pc := 123) 134 dX6_perturbAndObserve_123 dX6_perturbAndObserve_124 (by decide) (by omega) (by omega) (fun h_4 => ?_) (fun h_4 => ?_)
        · refine g_iload (pc := 134) dX6_perturbAndObserve_134 7 rfl ?_
          refine g_ineg (pc := 136) dX6_perturbAndObserve_136 ?_
          refine g_istore (pc := 137) (lv' := [(6, .int (zI (-1))), (8, .int (zI (c + (1 * t)))), (0, .ref (bd 0)), (1, .int (zI s)), (2, .int (zI a)), (3, .int (zI t)), (4, .int (zI it)), (5, .int (zI c)), (7, .int (zI n))]) dX6_perturbAndObserve_137 (by decide) rfl ?_
          refine g_iinc (pc := 139) (lv' := [(7, .int (zI (n + 1))), (6, .int (zI (-1))), (8, .int (zI (c + (1 * t)))), (0, .ref (bd 0)), (1, .int (zI s)), (2, .int (zI a)), (3, .int (zI t)), (4, .int (zI it)), (5, .int (zI c))]) dX6_perturbAndObserve_139 (by decide) 8 rfl rfl ?_
          refine g_goto (pc := 142) 64 dX6_perturbAndObserve_142 (by decide) ?_
          refine g_sub (lv' := [(0, .ref (bd 0)), (1, .int (zI s)), (2, .int (zI a)), (3, .int (zI t)), (4, .int (zI it)), (5, .int (zI c)), (6, .int (zI (-1))), (7, .int (zI (n + 1)))]) [3, 4, 5, 6, 7, 8, 1, 0] rfl ?_
          refine g_lv (lv' := [(0, .ref (bd 0)), (1, .int (zI s)), (2, .int (zI a)), (3, .int (zI t)), (4, .int (zI it)), (5, .int (zI c)), (6, .int (zI (-1))), (7, .int (zI (n + 1)))]) (rfl) ?_
          exact ihF c (n + 1) (by omega) (by omega) rfl (by omega) (by rw [← ha, show (it - n).toNat = (it - (n + 1)).toNat + 1 by omega, pobs_t, if_neg (by rw [hce]; omega)])
        · refine g_iload (pc := 127) dX6_perturbAndObserve_127 0 rfl ?_
          refine g_istore (pc := 129) (lv' := [(5, .int (zI (c + (1 * t)))), (8, .int (zI (c + (1 * t)))), (0, .ref (bd 0)), (1, .int (zI s)), (2, .int (zI a)), (3, .int (zI t)), (4, .int (zI it)), (6, .int (zI 1)), (7, .int (zI n))]) dX6_perturbAndObserve_129 (by decide) rfl ?_
          refine g_goto (pc := 131) 139 dX6_perturbAndObserve_131 (by decide) ?_
          refine g_iinc (pc := 139) (lv' := [(7, .int (zI (n + 1))), (5, .int (zI (c + (1 * t)))), (8, .int (zI (c + (1 * t)))), (0, .ref (bd 0)), (1, .int (zI s)), (2, .int (zI a)), (3, .int (zI t)), (4, .int (zI it)), (6, .int (zI 1))]) dX6_perturbAndObserve_139 (by decide) 8 rfl rfl ?_
          refine g_goto (pc := 142) 64 dX6_perturbAndObserve_142 (by decide) ?_
          refine g_sub (lv' := [(0, .ref (bd 0)), (1, .int (zI s)), (2, .int (zI a)), (3, .int (zI t)), (4, .int (zI it)), (5, .int (zI (c + (1 * t)))), (6, .int (zI 1)), (7, .int (zI (n + 1)))]) [3, 4, 5, 6, 7, 1, 8, 0] rfl ?_
          refine g_lv (lv' := [(0, .ref (bd 0)), (1, .int (zI s)), (2, .int (zI a)), (3, .int (zI t)), (4, .int (zI it)), (5, .int (zI (min (c + t) (limit τ s)))), (6, .int (zI 1)), (7, .int (zI (n + 1)))]) (by rw [hce]) ?_
          exact ihT (min (c + t) (limit τ s)) (n + 1) (by omega) (by omega) rfl (by omega) (by rw [← ha, show (it - n).toNat = (it - (n + 1)).toNat + 1 by omega, pobs_t, if_pos (by rw [hce]; omega)])
      · refine g_aload_n (pc := 98) dX6_perturbAndObserve_98 1 rfl ?_
        refine g_get (pc := 99) (ci := 5) inG_X6 rfl 10 (by decide) rfl fl_X6_110 (0) am_obj rfl dX6_perturbAndObserve_99 ?_
        refine g_topI (show (loS τ s) 0 3 = limit τ s from rfl) ?_
        refine g_goto (pc := 102) 107 dX6_perturbAndObserve_102 (by decide) ?_
        refine g_istore (pc := 107) (lv' := [(8, .int (zI (limit τ s))), (0, .ref (bd 0)), (1, .int (zI s)), (2, .int (zI a)), (3, .int (zI t)), (4, .int (zI it)), (5, .int (zI c)), (6, .int (zI 1)), (7, .int (zI n))]) dX6_perturbAndObserve_107 (by decide) rfl ?_
        refine g_aload_n (pc := 109) dX6_perturbAndObserve_109 1 rfl ?_
        refine g_get (pc := 110) (ci := 5) inG_X6 rfl 11 (by decide) rfl fl_X6_32 (0) am_obj rfl dX6_perturbAndObserve_110 ?_
        refine g_iload (pc := 113) dX6_perturbAndObserve_113 0 rfl ?_
        refine g_lald (pc := 115) 8 am_8 (by omega) (by decide) dX6_perturbAndObserve_115 ?_
        refine g_topJ (loS_8 τ s (i := limit τ s) (by omega)) ?_
        have hce : min (c + t) (limit τ s) = (limit τ s) := by omega
        have q2 := spow_b2 hB s (c := limit τ s) (by omega)
        refine g_aload_n (pc := 116) dX6_perturbAndObserve_116 1 rfl ?_
        refine g_get (pc := 117) (ci := 5) inG_X6 rfl 11 (by decide) rfl fl_X6_32 (0) am_obj rfl dX6_perturbAndObserve_117 ?_
        refine g_iload (pc := 120) dX6_perturbAndObserve_120 6 rfl ?_
        refine g_lald (pc := 122) 8 am_8 (by omega) (by decide) dX6_perturbAndObserve_122 ?_
        refine g_topJ (loS_8 τ s (i := c) (by omega)) ?_
        refine g_lcmp_le (pc := 123) 134 dX6_perturbAndObserve_123 dX6_perturbAndObserve_124 (by decide) (by omega) (by omega) (fun h_5 => ?_) (fun h_5 => ?_)
        · refine g_iload (pc := 134) dX6_perturbAndObserve_134 7 rfl ?_
          refine g_ineg (pc := 136) dX6_perturbAndObserve_136 ?_
          refine g_istore (pc := 137) (lv' := [(6, .int (zI (-1))), (8, .int (zI (limit τ s))), (0, .ref (bd 0)), (1, .int (zI s)), (2, .int (zI a)), (3, .int (zI t)), (4, .int (zI it)), (5, .int (zI c)), (7, .int (zI n))]) dX6_perturbAndObserve_137 (by decide) rfl ?_
          refine g_iinc (pc := 139) (lv' := [(7, .int (zI (n + 1))), (6, .int (zI (-1))), (8, .int (zI (limit τ s))), (0, .ref (bd 0)), (1, .int (zI s)), (2, .int (zI a)), (3, .int (zI t)), (4, .int (zI it)), (5, .int (zI c))]) dX6_perturbAndObserve_139 (by decide) 8 rfl rfl ?_
          refine g_goto (pc := 142) 64 dX6_perturbAndObserve_142 (by decide) ?_
          refine g_sub (lv' := [(0, .ref (bd 0)), (1, .int (zI s)), (2, .int (zI a)), (3, .int (zI t)), (4, .int (zI it)), (5, .int (zI c)), (6, .int (zI (-1))), (7, .int (zI (n + 1)))]) [3, 4, 5, 6, 7, 8, 1, 0] rfl ?_
          refine g_lv (lv' := [(0, .ref (bd 0)), (1, .int (zI s)), (2, .int (zI a)), (3, .int (zI t)), (4, .int (zI it)), (5, .int (zI c)), (6, .int (zI (-1))), (7, .int (zI (n + 1)))]) (rfl) ?_
          exact ihF c (n + 1) (by omega) (by omega) rfl (by omega) (by rw [← ha, show (it - n).toNat = (it - (n + 1)).toNat + 1 by omega, pobs_t, if_neg (by rw [hce]; omega)])
        · refine g_iload (pc := 127) dX6_perturbAndObserve_127 0 rfl ?_
          refine g_istore (pc := 129) (lv' := [(5, .int (zI (limit τ s))), (8, .int (zI (limit τ s))), (0, .ref (bd 0)), (1, .int (zI s)), (2, .int (zI a)), (3, .int (zI t)), (4, .int (zI it)), (6, .int (zI 1)), (7, .int (zI n))]) dX6_perturbAndObserve_129 (by decide) rfl ?_
          refine g_goto (pc := 131) 139 dX6_perturbAndObserve_131 (by decide) ?_
          refine g_iinc (pc := 139) (lv' := [(7, .int (zI (n + 1))), (5, .int (zI (limit τ s))), (8, .int (zI (limit τ s))), (0, .ref (bd 0)), (1, .int (zI s)), (2, .int (zI a)), (3, .int (zI t)), (4, .int (zI it)), (6, .int (zI 1))]) dX6_perturbAndObserve_139 (by decide) 8 rfl rfl ?_
          refine g_goto (pc := 142) 64 dX6_perturbAndObserve_142 (by decide) ?_
          refine g_sub (lv' := [(0, .ref (bd 0)), (1, .int (zI s)), (2, .int (zI a)), (3, .int (zI t)), (4, .int (zI it)), (5, .int (zI (limit τ s))), (6, .int (zI 1)), (7, .int (zI (n + 1)))]) [3, 4, 5, 6, 7, 1, 8, 0] rfl ?_
          refine g_lv (lv' := [(0, .ref (bd 0)), (1, .int (zI s)), (2, .int (zI a)), (3, .int (zI t)), (4, .int (zI it)), (5, .int (zI (min (c + t) (limit τ s)))), (6, .int (zI 1)), (7, .int (zI (n + 1)))]) (by rw [hce]) ?_
          exact ihT (min (c + t) (limit τ s)) (n + 1) (by omega) (by omega) rfl (by omega) (by rw [← ha, show (it - n).toNat = (it - (n + 1)).toNat + 1 by omega, pobs_t, if_pos (by rw [hce]; omega)])
    · exfalso; omega
set_option maxRecDepth 100000 in
set_option maxHeartbeats 2000000 in
theorem st_X6_perturb_false {D : va_G} {cy : Nat → ClassId} {l : Launch} {bd : Nat → Nat} {τ : Nat → Int → Int} {X : va_W} (hB : Bd τ) (s : Int) (hs : 0 ≤ s ∧ s < τ 0 2) (a t it : Int) (hac : (0 ≤ a ∧ a ≤ limit τ s) ∧ (1 ≤ t ∧ t ≤ 100) ∧ (0 ≤ it ∧ it ≤ 200)) (c n : Int) (hc1 : 0 ≤ c) (hc2 : c ≤ limit τ s) (hn1 : 0 ≤ n) (hn2 : n ≤ it) (ha : pobs (spow τ s) (limit τ s) t (it - n).toNat c false = a_perturb τ s a t it) (ihT : ∀ c m : Int, 0 ≤ c → c ≤ limit τ s → m = n + 1 → m ≤ it → pobs (spow τ s) (limit τ s) t (it - m).toNat c true = a_perturb τ s a t it → GO D cy l rm_X6_perturbAndObserve cX6_perturbAndObserve 9 yX6_perturbAndObserve.cls (some .int) (MW cy bd τ ++ X) (sxI τ (a_perturb τ s a t it) cy bd X) (MW cy bd (loS τ s) ++ X) 64 [(0, .ref (bd 0)), (1, .int (zI s)), (2, .int (zI a)), (3, .int (zI t)), (4, .int (zI it)), (5, .int (zI c)), (6, .int (zI 1)), (7, .int (zI m))] []) (ihF : ∀ c m : Int, 0 ≤ c → c ≤ limit τ s → m = n + 1 → m ≤ it → pobs (spow τ s) (limit τ s) t (it - m).toNat c false = a_perturb τ s a t it → GO D cy l rm_X6_perturbAndObserve cX6_perturbAndObserve 9 yX6_perturbAndObserve.cls (some .int) (MW cy bd τ ++ X) (sxI τ (a_perturb τ s a t it) cy bd X) (MW cy bd (loS τ s) ++ X) 64 [(0, .ref (bd 0)), (1, .int (zI s)), (2, .int (zI a)), (3, .int (zI t)), (4, .int (zI it)), (5, .int (zI c)), (6, .int (zI (-1))), (7, .int (zI m))] []) : GO D cy l rm_X6_perturbAndObserve cX6_perturbAndObserve 9 yX6_perturbAndObserve.cls (some .int) (MW cy bd τ ++ X) (sxI τ (a_perturb τ s a t it) cy bd X) (MW cy bd (loS τ s) ++ X) 64 [(0, .ref (bd 0)), (1, .int (zI s)), (2, .int (zI a)), (3, .int (zI t)), (4, .int (zI it)), (5, .int (zI c)), (6, .int (zI (-1))), (7, .int (zI n))] [] := by
  have g1 := hB.sc
  have g2 := hB.mc
  have g3 := limit_b hB s
  have q1 := spow_b2 hB s (c := c) (by omega)
  refine g_iload (pc := 64) dX6_perturbAndObserve_64 7 rfl ?_
  refine g_iload (pc := 66) dX6_perturbAndObserve_66 4 rfl ?_
  refine g_icmp_ge (pc := 68) 145 dX6_perturbAndObserve_68 (by decide) (by omega) (by omega) (fun h_1 => ?_) (fun h_1 => ?_)
  · refine g_iload (pc := 145) dX6_perturbAndObserve_145 5 rfl ?_
    exact g_iret (pc := 147) dX6_perturbAndObserve_147 rfl (sxI_of (by rw [← ha, show (it - n).toNat = 0 by omega]; rfl) (loP_Sx τ s _))
  · refine g_iload (pc := 71) dX6_perturbAndObserve_71 5 rfl ?_
    refine g_iload (pc := 73) dX6_perturbAndObserve_73 6 rfl ?_
    refine g_iload_n (pc := 75) dX6_perturbAndObserve_75 3 rfl ?_
    refine g_imul (pc := 76) dX6_perturbAndObserve_76 ?_
    refine g_iadd (pc := 77) dX6_perturbAndObserve_77 ?_
    refine g_istore (pc := 78) (lv' := [(8, .int (zI (c + ((-1) * t)))), (0, .ref (bd 0)), (1, .int (zI s)), (2, .int (zI a)), (3, .int (zI t)), (4, .int (zI it)), (5, .int (zI c)), (6, .int (zI (-1))), (7, .int (zI n))]) dX6_perturbAndObserve_78 (by decide) rfl ?_
    refine g_iload (pc := 80) dX6_perturbAndObserve_80 0 rfl ?_
    refine g_if_ge (pc := 82) 89 dX6_perturbAndObserve_82 (by decide) (by omega) (fun h_2 => ?_) (fun h_2 => ?_)
    · refine g_iload (pc := 89) dX6_perturbAndObserve_89 0 rfl ?_
      refine g_aload_n (pc := 91) dX6_perturbAndObserve_91 1 rfl ?_
      refine g_get (pc := 92) (ci := 5) inG_X6 rfl 10 (by decide) rfl fl_X6_110 (0) am_obj rfl dX6_perturbAndObserve_92 ?_
      refine g_topI (show (loS τ s) 0 3 = limit τ s from rfl) ?_
      refine g_icmp_le (pc := 95) 105 dX6_perturbAndObserve_95 (by decide) (by omega) (by omega) (fun h_3 => ?_) (fun h_3 => ?_)
      · refine g_iload (pc := 105) dX6_perturbAndObserve_105 0 rfl ?_
        refine g_istore (pc := 107) (lv' := [(8, .int (zI (c + ((-1) * t)))), (0, .ref (bd 0)), (1, .int (zI s)), (2, .int (zI a)), (3, .int (zI t)), (4, .int (zI it)), (5, .int (zI c)), (6, .int (zI (-1))), (7, .int (zI n))]) dX6_perturbAndObserve_107 (by decide) rfl ?_
        refine g_aload_n (pc := 109) dX6_perturbAndObserve_109 1 rfl ?_
        refine g_get (pc := 110) (ci := 5) inG_X6 rfl 11 (by decide) rfl fl_X6_32 (0) am_obj rfl dX6_perturbAndObserve_110 ?_
        refine g_iload (pc := 113) dX6_perturbAndObserve_113 0 rfl ?_
        refine g_lald (pc := 115) 8 am_8 (by omega) (by decide) dX6_perturbAndObserve_115 ?_
        refine g_topJ (loS_8 τ s (i := c + ((-1) * t)) (by omega)) ?_
        have hce : max (c - t) 0 = (c + ((-1) * t)) := by omega
        have q2 := spow_b2 hB s (c := c + ((-1) * t)) (by omega)
        refine g_aload_n (pc := 116) dX6_perturbAndObserve_116 1 rfl ?_
        refine g_get (pc := 117) (ci := 5) inG_X6 rfl 11 (by decide) rfl fl_X6_32 (0) am_obj rfl dX6_perturbAndObserve_117 ?_
        refine g_iload (pc := 120) dX6_perturbAndObserve_120 6 rfl ?_
        refine g_lald (pc := 122) 8 am_8 (by omega) (by decide) dX6_perturbAndObserve_122 ?_
        refine g_topJ (loS_8 τ s (i := c) (by omega)) ?_
        refine g_lcmp_le (pc := 123) 134 dX6_perturbAndObserve_123 dX6_perturbAndObserve_124 (by decide) (by omega) (by omega) (fun h_4 => ?_) (fun h_4 => ?_)
        · refine g_iload (pc := 134) dX6_perturbAndObserve_134 7 rfl ?_
          refine g_ineg (pc := 136) dX6_perturbAndObserve_136 ?_
          refine g_istore (pc := 137) (lv' := [(6, .int (zI (-(-1)))), (8, .int (zI (c + ((-1) * t)))), (0, .ref (bd 0)), (1, .int (zI s)), (2, .int (zI a)), (3, .int (zI t)), (4, .int (zI it)), (5, .int (zI c)), (7, .int (zI n))]) dX6_perturbAndObserve_137 (by decide) rfl ?_
          refine g_iinc (pc := 139) (lv' := [(7, .int (zI (n + 1))), (6, .int (zI (-(-1)))), (8, .int (zI (c + ((-1) * t)))), (0, .ref (bd 0)), (1, .int (zI s)), (2, .int (zI a)), (3, .int (zI t)), (4, .int (zI it)), (5, .int (zI c))]) dX6_perturbAndObserve_139 (by decide) 8 rfl rfl ?_
          refine g_goto (pc := 142) 64 dX6_perturbAndObserve_142 (by decide) ?_
          refine g_sub (lv' := [(0, .ref (bd 0)), (1, .int (zI s)), (2, .int (zI a)), (3, .int (zI t)), (4, .int (zI it)), (5, .int (zI c)), (6, .int (zI (-(-1)))), (7, .int (zI (n + 1)))]) [3, 4, 5, 6, 7, 8, 1, 0] rfl ?_
          refine g_lv (lv' := [(0, .ref (bd 0)), (1, .int (zI s)), (2, .int (zI a)), (3, .int (zI t)), (4, .int (zI it)), (5, .int (zI c)), (6, .int (zI 1)), (7, .int (zI (n + 1)))]) (rfl) ?_
          exact ihT c (n + 1) (by omega) (by omega) rfl (by omega) (by rw [← ha, show (it - n).toNat = (it - (n + 1)).toNat + 1 by omega, pobs_f, if_neg (by rw [hce]; omega)])
        · refine g_iload (pc := 127) dX6_perturbAndObserve_127 0 rfl ?_
          refine g_istore (pc := 129) (lv' := [(5, .int (zI (c + ((-1) * t)))), (8, .int (zI (c + ((-1) * t)))), (0, .ref (bd 0)), (1, .int (zI s)), (2, .int (zI a)), (3, .int (zI t)), (4, .int (zI it)), (6, .int (zI (-1))), (7, .int (zI n))]) dX6_perturbAndObserve_129 (by decide) rfl ?_
          refine g_goto (pc := 131) 139 dX6_perturbAndObserve_131 (by decide) ?_
          refine g_iinc (pc := 139) (lv' := [(7, .int (zI (n + 1))), (5, .int (zI (c + ((-1) * t)))), (8, .int (zI (c + ((-1) * t)))), (0, .ref (bd 0)), (1, .int (zI s)), (2, .int (zI a)), (3, .int (zI t)), (4, .int (zI it)), (6, .int (zI (-1)))]) dX6_perturbAndObserve_139 (by decide) 8 rfl rfl ?_
          refine g_goto (pc := 142) 64 dX6_perturbAndObserve_142 (by decide) ?_
          refine g_sub (lv' := [(0, .ref (bd 0)), (1, .int (zI s)), (2, .int (zI a)), (3, .int (zI t)), (4, .int (zI it)), (5, .int (zI (c + ((-1) * t)))), (6, .int (zI (-1))), (7, .int (zI (n + 1)))]) [3, 4, 5, 6, 7, 1, 8, 0] rfl ?_
          refine g_lv (lv' := [(0, .ref (bd 0)), (1, .int (zI s)), (2, .int (zI a)), (3, .int (zI t)), (4, .int (zI it)), (5, .int (zI (max (c - t) 0))), (6, .int (zI (-1))), (7, .int (zI (n + 1)))]) (by rw [hce]) ?_
          exact ihF (max (c - t) 0) (n + 1) (by omega) (by omega) rfl (by omega) (by rw [← ha, show (it - n).toNat = (it - (n + 1)).toNat + 1 by omega, pobs_f, if_pos (by rw [hce]; omega)])
      · exfalso; omega
    · refine g_iconst (pc := 85) dX6_perturbAndObserve_85 ?_
      refine g_goto (pc := 86) 107 dX6_perturbAndObserve_86 (by decide) ?_
      refine g_istore (pc := 107) (lv' := [(8, .int (zI 0)), (0, .ref (bd 0)), (1, .int (zI s)), (2, .int (zI a)), (3, .int (zI t)), (4, .int (zI it)), (5, .int (zI c)), (6, .int (zI (-1))), (7, .int (zI n))]) dX6_perturbAndObserve_107 (by decide) rfl ?_
      refine g_aload_n (pc := 109) dX6_perturbAndObserve_109 1 rfl ?_
      refine g_get (pc := 110) (ci := 5) inG_X6 rfl 11 (by decide) rfl fl_X6_32 (0) am_obj rfl dX6_perturbAndObserve_110 ?_
      refine g_iload (pc := 113) dX6_perturbAndObserve_113 0 rfl ?_
      refine g_lald (pc := 115) 8 am_8 (by omega) (by decide) dX6_perturbAndObserve_115 ?_
      refine g_topJ (loS_8 τ s (i := 0) (by omega)) ?_
      have hce : max (c - t) 0 = 0 := by omega
      have q2 := spow_b2 hB s (c := 0) (by omega)
      refine g_aload_n (pc := 116) dX6_perturbAndObserve_116 1 rfl ?_
      refine g_get (pc := 117) (ci := 5) inG_X6 rfl 11 (by decide) rfl fl_X6_32 (0) am_obj rfl dX6_perturbAndObserve_117 ?_
      refine g_iload (pc := 120) dX6_perturbAndObserve_120 6 rfl ?_
      refine g_lald (pc := 122) 8 am_8 (by omega) (by decide) dX6_perturbAndObserve_122 ?_
      refine g_topJ (loS_8 τ s (i := c) (by omega)) ?_
      refine g_lcmp_le (pc := 123) 134 dX6_perturbAndObserve_123 dX6_perturbAndObserve_124 (by decide) (by omega) (by omega) (fun h_5 => ?_) (fun h_5 => ?_)
      · refine g_iload (pc := 134) dX6_perturbAndObserve_134 7 rfl ?_
        refine g_ineg (pc := 136) dX6_perturbAndObserve_136 ?_
        refine g_istore (pc := 137) (lv' := [(6, .int (zI (-(-1)))), (8, .int (zI 0)), (0, .ref (bd 0)), (1, .int (zI s)), (2, .int (zI a)), (3, .int (zI t)), (4, .int (zI it)), (5, .int (zI c)), (7, .int (zI n))]) dX6_perturbAndObserve_137 (by decide) rfl ?_
        refine g_iinc (pc := 139) (lv' := [(7, .int (zI (n + 1))), (6, .int (zI (-(-1)))), (8, .int (zI 0)), (0, .ref (bd 0)), (1, .int (zI s)), (2, .int (zI a)), (3, .int (zI t)), (4, .int (zI it)), (5, .int (zI c))]) dX6_perturbAndObserve_139 (by decide) 8 rfl rfl ?_
        refine g_goto (pc := 142) 64 dX6_perturbAndObserve_142 (by decide) ?_
        refine g_sub (lv' := [(0, .ref (bd 0)), (1, .int (zI s)), (2, .int (zI a)), (3, .int (zI t)), (4, .int (zI it)), (5, .int (zI c)), (6, .int (zI (-(-1)))), (7, .int (zI (n + 1)))]) [3, 4, 5, 6, 7, 8, 1, 0] rfl ?_
        refine g_lv (lv' := [(0, .ref (bd 0)), (1, .int (zI s)), (2, .int (zI a)), (3, .int (zI t)), (4, .int (zI it)), (5, .int (zI c)), (6, .int (zI 1)), (7, .int (zI (n + 1)))]) (rfl) ?_
        exact ihT c (n + 1) (by omega) (by omega) rfl (by omega) (by rw [← ha, show (it - n).toNat = (it - (n + 1)).toNat + 1 by omega, pobs_f, if_neg (by rw [hce]; omega)])
      · refine g_iload (pc := 127) dX6_perturbAndObserve_127 0 rfl ?_
        refine g_istore (pc := 129) (lv' := [(5, .int (zI 0)), (8, .int (zI 0)), (0, .ref (bd 0)), (1, .int (zI s)), (2, .int (zI a)), (3, .int (zI t)), (4, .int (zI it)), (6, .int (zI (-1))), (7, .int (zI n))]) dX6_perturbAndObserve_129 (by decide) rfl ?_
        refine g_goto (pc := 131) 139 dX6_perturbAndObserve_131 (by decide) ?_
        refine g_iinc (pc := 139) (lv' := [(7, .int (zI (n + 1))), (5, .int (zI 0)), (8, .int (zI 0)), (0, .ref (bd 0)), (1, .int (zI s)), (2, .int (zI a)), (3, .int (zI t)), (4, .int (zI it)), (6, .int (zI (-1)))]) dX6_perturbAndObserve_139 (by decide) 8 rfl rfl ?_
        refine g_goto (pc := 142) 64 dX6_perturbAndObserve_142 (by decide) ?_
        refine g_sub (lv' := [(0, .ref (bd 0)), (1, .int (zI s)), (2, .int (zI a)), (3, .int (zI t)), (4, .int (zI it)), (5, .int (zI 0)), (6, .int (zI (-1))), (7, .int (zI (n + 1)))]) [3, 4, 5, 6, 7, 1, 8, 0] rfl ?_
        refine g_lv (lv' := [(0, .ref (bd 0)), (1, .int (zI s)), (2, .int (zI a)), (3, .int (zI t)), (4, .int (zI it)), (5, .int (zI (max (c - t) 0))), (6, .int (zI (-1))), (7, .int (zI (n + 1)))]) (by rw [hce]) ?_
        exact ihF (max (c - t) 0) (n + 1) (by omega) (by omega) rfl (by omega) (by rw [← ha, show (it - n).toNat = (it - (n + 1)).toNat + 1 by omega, pobs_f, if_pos (by rw [hce]; omega)])
set_option maxRecDepth 100000 in
set_option maxHeartbeats 2000000 in
theorem lp_X6_perturb {D : va_G} {cy : Nat → ClassId} {l : Launch} {bd : Nat → Nat} {τ : Nat → Int → Int} {X : va_W} (hB : Bd τ) (s : Int) (hs : 0 ≤ s ∧ s < τ 0 2) (a t it : Int) (hac : (0 ≤ a ∧ a ≤ limit τ s) ∧ (1 ≤ t ∧ t ≤ 100) ∧ (0 ≤ it ∧ it ≤ 200)) : ∀ (k : Nat) (u : Bool) (c n : Int), 0 ≤ c → c ≤ limit τ s → 0 ≤ n → n ≤ it → pobs (spow τ s) (limit τ s) t (it - n).toNat c u = a_perturb τ s a t it → (it - n).toNat < k → GO D cy l rm_X6_perturbAndObserve cX6_perturbAndObserve 9 yX6_perturbAndObserve.cls (some .int) (MW cy bd τ ++ X) (sxI τ (a_perturb τ s a t it) cy bd X) (MW cy bd (loS τ s) ++ X) 64 [(0, .ref (bd 0)), (1, .int (zI s)), (2, .int (zI a)), (3, .int (zI t)), (4, .int (zI it)), (5, .int (zI c)), (6, .int (zI (if u = true then 1 else (-1)))), (7, .int (zI n))] [] := by
  intro k
  induction k with
  | zero =>
    intro u c n h1 h2 h3 h4 h5 hn
    exact absurd hn (Nat.not_lt_zero _)
  | succ k ih =>
    intro u c n h1 h2 h3 h4 h5 hn
    by_cases hlast : n = it
    · cases u with
      | true => exact st_X6_perturb_true hB s hs a t it hac c n h1 h2 h3 h4 h5 (fun c m q1 q2 q3 q4 q5 => absurd q4 (by omega)) (fun c m q1 q2 q3 q4 q5 => absurd q4 (by omega))
      | false => exact st_X6_perturb_false hB s hs a t it hac c n h1 h2 h3 h4 h5 (fun c m q1 q2 q3 q4 q5 => absurd q4 (by omega)) (fun c m q1 q2 q3 q4 q5 => absurd q4 (by omega))
    · cases u with
      | true => exact st_X6_perturb_true hB s hs a t it hac c n h1 h2 h3 h4 h5 (fun c m q1 q2 q3 q4 q5 => ih true c m q1 q2 (by omega) q4 q5 (by omega)) (fun c m q1 q2 q3 q4 q5 => ih false c m q1 q2 (by omega) q4 q5 (by omega))
      | false => exact st_X6_perturb_false hB s hs a t it hac c n h1 h2 h3 h4 h5 (fun c m q1 q2 q3 q4 q5 => ih true c m q1 q2 (by omega) q4 q5 (by omega)) (fun c m q1 q2 q3 q4 q5 => ih false c m q1 q2 (by omega) q4 q5 (by omega))
set_option maxRecDepth 100000 in
set_option maxHeartbeats 2000000 in
/-- PvArrayModel.perturbAndObserve  -/
theorem c_X6_perturbAndObserve {D : va_G} {cy : Nat → ClassId} {l : Launch} {bd : Nat → Nat} {τ : Nat → Int → Int} {X : va_W} (hB : Bd τ) (s : Int) (hs : -2147483648 ≤ s ∧ s ≤ 2147483647) (a : Int) (ha : -2147483648 ≤ a ∧ a ≤ 2147483647) (t : Int) (ht : -2147483648 ≤ t ∧ t ≤ 2147483647) (it : Int) (hit : -2147483648 ≤ it ∧ it ≤ 2147483647) : Con D cy l yX6_perturbAndObserve cX6_perturbAndObserve 9 (some .int) rm_X6_perturbAndObserve [.ref (bd 0), .int (zI s), .int (zI a), .int (zI t), .int (zI it)] (MW cy bd τ ++ X) (sxI τ (a_perturb τ s a t it) cy bd X) := by
  refine Con.of (lv := [(0, .ref (bd 0)), (1, .int (zI s)), (2, .int (zI a)), (3, .int (zI t)), (4, .int (zI it))]) (by decide) (Nat.le_of_ble_eq_true rfl) rfl ?_
  have g1 := hB.sc
  have g2 := hB.mc
  have g3 := limit_b hB s
  refine g_aload_n (pc := 0) dX6_perturbAndObserve_0 0 rfl ?_
  refine g_iload_n (pc := 1) dX6_perturbAndObserve_1 1 rfl ?_
  refine g_callV (pc := 2) (As := [.int (zI s)]) (rest := []) k_X6_62_X6 (c_X6_isString (τ := τ) hB s (by omega)) ⟨rfl, rfl, Nat.le_of_ble_eq_true rfl, Nat.le_of_ble_eq_true rfl⟩ (0) 5 rfl rfl am_obj rfl rfl (Nat.le_of_ble_eq_true rfl) dX6_perturbAndObserve_2 (fun v_ w_ hq_ => ?_)
  rcases hq_ with ⟨rfl, rfl, hs_1⟩ | ⟨rfl, rfl, hs_1⟩
  · refine g_one ?_
    refine g_if_neT (pc := 5) 12 dX6_perturbAndObserve_5 (by decide) (by omega) (by omega) ?_
    refine g_aload_n (pc := 12) dX6_perturbAndObserve_12 0 rfl ?_
    refine g_iload_n (pc := 13) dX6_perturbAndObserve_13 1 rfl ?_
    refine g_callV (pc := 14) (As := [.int (zI s)]) (rest := []) k_X6_113_X6 (c_X6_layOut (τ := τ) hB s (by omega)) ⟨rfl, rfl, Nat.le_of_ble_eq_true rfl, Nat.le_of_ble_eq_true rfl⟩ (0) 5 rfl rfl am_obj rfl rfl (Nat.le_of_ble_eq_true rfl) dX6_perturbAndObserve_14 (fun v_ w_ hq_ => ?_)
    obtain ⟨rfl, rfl⟩ := hq_
    refine g_none ?_
    refine g_iload_n (pc := 17) dX6_perturbAndObserve_17 2 rfl ?_
    refine g_iconst (pc := 18) dX6_perturbAndObserve_18 ?_
    refine g_aload_n (pc := 19) dX6_perturbAndObserve_19 0 rfl ?_
    refine g_get (pc := 20) (ci := 5) inG_X6 rfl 10 (by decide) rfl fl_X6_110 (0) am_obj rfl dX6_perturbAndObserve_20 ?_
    refine g_topI (show (loS τ s) 0 3 = limit τ s from rfl) ?_
    refine g_callS (pc := 23) (As := [.int (zI a), .int (zI 0), .int (zI (limit τ s))]) (rest := []) k_X6_55_X6 (c_X6_isBetween (τ := (loS τ s)) a 0 (limit τ s) (by omega) (by omega) (by omega)) ⟨rfl, rfl, Nat.le_of_ble_eq_true rfl, Nat.le_of_ble_eq_true rfl⟩ rfl rfl (Nat.le_of_ble_eq_true rfl) dX6_perturbAndObserve_23 (fun v_ w_ hq_ => ?_)
    rcases hq_ with ⟨rfl, rfl, hw_2⟩ | ⟨rfl, rfl, hw_2⟩
    · refine g_one ?_
      refine g_if_eqF (pc := 26) 51 dX6_perturbAndObserve_26 (by decide) (by omega) (by omega) ?_
      refine g_iload_n (pc := 29) dX6_perturbAndObserve_29 3 rfl ?_
      refine g_iconst (pc := 30) dX6_perturbAndObserve_30 ?_
      refine g_bipush (pc := 31) dX6_perturbAndObserve_31 (by omega) ?_
      refine g_callS (pc := 33) (As := [.int (zI t), .int (zI 1), .int (zI 100)]) (rest := []) k_X6_55_X6 (c_X6_isBetween (τ := (loS τ s)) t 1 100 (by omega) (by omega) (by omega)) ⟨rfl, rfl, Nat.le_of_ble_eq_true rfl, Nat.le_of_ble_eq_true rfl⟩ rfl rfl (Nat.le_of_ble_eq_true rfl) dX6_perturbAndObserve_33 (fun v_ w_ hq_ => ?_)
      rcases hq_ with ⟨rfl, rfl, hw_3⟩ | ⟨rfl, rfl, hw_3⟩
      · refine g_one ?_
        refine g_if_eqF (pc := 36) 51 dX6_perturbAndObserve_36 (by decide) (by omega) (by omega) ?_
        refine g_iload (pc := 39) dX6_perturbAndObserve_39 4 rfl ?_
        refine g_iconst (pc := 41) dX6_perturbAndObserve_41 ?_
        refine g_sipush (pc := 42) dX6_perturbAndObserve_42 (by omega) ?_
        refine g_callS (pc := 45) (As := [.int (zI it), .int (zI 0), .int (zI 200)]) (rest := []) k_X6_55_X6 (c_X6_isBetween (τ := (loS τ s)) it 0 200 (by omega) (by omega) (by omega)) ⟨rfl, rfl, Nat.le_of_ble_eq_true rfl, Nat.le_of_ble_eq_true rfl⟩ rfl rfl (Nat.le_of_ble_eq_true rfl) dX6_perturbAndObserve_45 (fun v_ w_ hq_ => ?_)
        rcases hq_ with ⟨rfl, rfl, hw_4⟩ | ⟨rfl, rfl, hw_4⟩
        · refine g_one ?_
          refine g_if_neT (pc := 48) 55 dX6_perturbAndObserve_48 (by decide) (by omega) (by omega) ?_
          refine g_iload_n (pc := 55) dX6_perturbAndObserve_55 2 rfl ?_
          refine g_istore (pc := 56) (lv' := [(5, .int (zI a)), (0, .ref (bd 0)), (1, .int (zI s)), (2, .int (zI a)), (3, .int (zI t)), (4, .int (zI it))]) dX6_perturbAndObserve_56 (by decide) rfl ?_
          refine g_iconst (pc := 58) dX6_perturbAndObserve_58 ?_
          refine g_istore (pc := 59) (lv' := [(6, .int (zI 1)), (5, .int (zI a)), (0, .ref (bd 0)), (1, .int (zI s)), (2, .int (zI a)), (3, .int (zI t)), (4, .int (zI it))]) dX6_perturbAndObserve_59 (by decide) rfl ?_
          refine g_iconst (pc := 61) dX6_perturbAndObserve_61 ?_
          refine g_istore (pc := 62) (lv' := [(7, .int (zI 0)), (6, .int (zI 1)), (5, .int (zI a)), (0, .ref (bd 0)), (1, .int (zI s)), (2, .int (zI a)), (3, .int (zI t)), (4, .int (zI it))]) dX6_perturbAndObserve_62 (by decide) rfl ?_
          refine g_sub (lv' := [(0, .ref (bd 0)), (1, .int (zI s)), (2, .int (zI a)), (3, .int (zI t)), (4, .int (zI it)), (5, .int (zI a)), (6, .int (zI 1)), (7, .int (zI 0))]) [3, 4, 5, 6, 7, 2, 1, 0] rfl ?_
          exact lp_X6_perturb hB s (by omega) a t it ⟨by omega, by omega, by omega⟩ (it.toNat + 1) true a 0 (by omega) (by omega) (by omega) (by omega) (by unfold a_perturb; rw [if_pos (by omega), if_pos (by omega), show it - 0 = it by omega]) (by omega)
        · refine g_one ?_
          refine g_if_neF (pc := 48) 55 dX6_perturbAndObserve_48 (by decide) (by omega) (by omega) ?_
          refine g_sipush (pc := 51) dX6_perturbAndObserve_51 (by omega) ?_
          exact g_iret (pc := 54) dX6_perturbAndObserve_54 rfl (sxI_of (by unfold a_perturb; (repeat' split) <;> first | rfl | (exfalso; omega)) (loP_Sx τ s _))
      · refine g_one ?_
        refine g_if_eqT (pc := 36) 51 dX6_perturbAndObserve_36 (by decide) (by omega) (by omega) ?_
        refine g_sipush (pc := 51) dX6_perturbAndObserve_51 (by omega) ?_
        exact g_iret (pc := 54) dX6_perturbAndObserve_54 rfl (sxI_of (by unfold a_perturb; (repeat' split) <;> first | rfl | (exfalso; omega)) (loP_Sx τ s _))
    · refine g_one ?_
      refine g_if_eqT (pc := 26) 51 dX6_perturbAndObserve_26 (by decide) (by omega) (by omega) ?_
      refine g_sipush (pc := 51) dX6_perturbAndObserve_51 (by omega) ?_
      exact g_iret (pc := 54) dX6_perturbAndObserve_54 rfl (sxI_of (by unfold a_perturb; (repeat' split) <;> first | rfl | (exfalso; omega)) (loP_Sx τ s _))
  · refine g_one ?_
    refine g_if_neF (pc := 5) 12 dX6_perturbAndObserve_5 (by decide) (by omega) (by omega) ?_
    refine g_sipush (pc := 8) dX6_perturbAndObserve_8 (by omega) ?_
    exact g_iret (pc := 11) dX6_perturbAndObserve_11 rfl (sxI_of (by unfold a_perturb; (repeat' split) <;> first | rfl | (exfalso; omega)) (Sx.rf τ))
