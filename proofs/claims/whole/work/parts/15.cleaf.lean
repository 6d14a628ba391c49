set_option maxRecDepth 100000 in
set_option maxHeartbeats 2000000 in
/-- PvArray.isWithin  -/
theorem c_X5_isWithin {D : va_G} {cy : Nat → ClassId} {l : Launch} {ad : Nat → Nat} {σ : Nat → Int → Int} {X : va_W} (v a b : Int) (hv : -2147483648 ≤ v ∧ v ≤ 2147483647) (ha : -2147483648 ≤ a ∧ a ≤ 2147483647) (hb : -2147483648 ≤ b ∧ b ≤ 2147483647) : Con D cy l yX5_isWithin cX5_isWithin 3 (some .boolean) rm_X5_isWithin [.int (zI v), .int (zI a), .int (zI b)] (CW cy ad σ ++ X) (rdB (a ≤ v ∧ v ≤ b) (CW cy ad σ ++ X)) := by
  refine Con.of (lv := [(0, .int (zI v)), (1, .int (zI a)), (2, .int (zI b))]) (by decide) (Nat.le_of_ble_eq_true rfl) rfl ?_
  refine g_iload_n (pc := 0) dX5_isWithin_0 0 rfl ?_
  refine g_iload_n (pc := 1) dX5_isWithin_1 1 rfl ?_
  refine g_icmp_lt (pc := 2) 14 dX5_isWithin_2 (by decide) (by omega) (by omega) (fun h_1 => ?_) (fun h_1 => ?_)
  · refine g_iconst (pc := 14) dX5_isWithin_14 ?_
    exact g_zret (pc := 15) dX5_isWithin_15 rfl rfl (rdB_0 (by omega))
  · refine g_iload_n (pc := 5) dX5_isWithin_5 0 rfl ?_
    refine g_iload_n (pc := 6) dX5_isWithin_6 2 rfl ?_
    refine g_icmp_gt (pc := 7) 14 dX5_isWithin_7 (by decide) (by omega) (by omega) (fun h_2 => ?_) (fun h_2 => ?_)
    · refine g_iconst (pc := 14) dX5_isWithin_14 ?_
      exact g_zret (pc := 15) dX5_isWithin_15 rfl rfl (rdB_0 (by omega))
    · refine g_iconst (pc := 10) dX5_isWithin_10 ?_
      refine g_goto (pc := 11) 15 dX5_isWithin_11 (by decide) ?_
      exact g_zret (pc := 15) dX5_isWithin_15 rfl rfl (rdB_1 (by omega))
set_option maxRecDepth 100000 in
set_option maxHeartbeats 2000000 in
/-- PvArrayModel.isBetween  -/
theorem c_X6_isBetween {D : va_G} {cy : Nat → ClassId} {l : Launch} {bd : Nat → Nat} {τ : Nat → Int → Int} {X : va_W} (v a b : Int) (hv : -2147483648 ≤ v ∧ v ≤ 2147483647) (ha : -2147483648 ≤ a ∧ a ≤ 2147483647) (hb : -2147483648 ≤ b ∧ b ≤ 2147483647) : Con D cy l yX6_isBetween cX6_isBetween 3 (some .boolean) rm_X6_isBetween [.int (zI v), .int (zI a), .int (zI b)] (MW cy bd τ ++ X) (rdB (a ≤ v ∧ v ≤ b) (MW cy bd τ ++ X)) := by
  refine Con.of (lv := [(0, .int (zI v)), (1, .int (zI a)), (2, .int (zI b))]) (by decide) (Nat.le_of_ble_eq_true rfl) rfl ?_
  refine g_iload_n (pc := 0) dX6_isBetween_0 0 rfl ?_
  refine g_iload_n (pc := 1) dX6_isBetween_1 1 rfl ?_
  refine g_icmp_lt (pc := 2) 14 dX6_isBetween_2 (by decide) (by omega) (by omega) (fun h_1 => ?_) (fun h_1 => ?_)
  · refine g_iconst (pc := 14) dX6_isBetween_14 ?_
    exact g_zret (pc := 15) dX6_isBetween_15 rfl rfl (rdB_0 (by omega))
  · refine g_iload_n (pc := 5) dX6_isBetween_5 0 rfl ?_
    refine g_iload_n (pc := 6) dX6_isBetween_6 2 rfl ?_
    refine g_icmp_gt (pc := 7) 14 dX6_isBetween_7 (by decide) (by omega) (by omega) (fun h_2 => ?_) (fun h_2 => ?_)
    · refine g_iconst (pc := 14) dX6_isBetween_14 ?_
      exact g_zret (pc := 15) dX6_isBetween_15 rfl rfl (rdB_0 (by omega))
    · refine g_iconst (pc := 10) dX6_isBetween_10 ?_
      refine g_goto (pc := 11) 15 dX6_isBetween_11 (by decide) ?_
      exact g_zret (pc := 15) dX6_isBetween_15 rfl rfl (rdB_1 (by omega))
set_option maxRecDepth 100000 in
set_option maxHeartbeats 2000000 in
/-- PvArray.isString  -/
theorem c_X5_isString {D : va_G} {cy : Nat → ClassId} {l : Launch} {ad : Nat → Nat} {σ : Nat → Int → Int} {X : va_W} (hB : Bd σ) (z : Int) (hz : -2147483648 ≤ z ∧ z ≤ 2147483647) : Con D cy l yX5_isString cX5_isString 2 (some .boolean) rm_X5_isString [.ref (ad 0), .int (zI z)] (CW cy ad σ ++ X) (rdB (0 ≤ z ∧ z < σ 0 2) (CW cy ad σ ++ X)) := by
  refine Con.of (lv := [(0, .ref (ad 0)), (1, .int (zI z))]) (by decide) (Nat.le_of_ble_eq_true rfl) rfl ?_
  have h0 := hB.sc
  refine g_iload_n (pc := 0) dX5_isString_0 1 rfl ?_
  refine g_if_lt (pc := 1) 19 dX5_isString_1 (by decide) (by omega) (fun h_1 => ?_) (fun h_1 => ?_)
  · refine g_iconst (pc := 19) dX5_isString_19 ?_
    exact g_zret (pc := 20) dX5_isString_20 rfl rfl (rdB_0 (by omega))
  · refine g_iload_n (pc := 4) dX5_isString_4 1 rfl ?_
    refine g_aload_n (pc := 5) dX5_isString_5 0 rfl ?_
    refine g_get (pc := 6) (ci := 4) inG_X5 rfl 4 (by decide) rfl fl_X5_51 (0) at_arr rfl dX5_isString_6 ?_
    refine g_getN (pc := 9) (ci := 1) inG_X2 rfl 1 (by decide) rfl fl_X5_67 (4) at_par rfl dX5_isString_9 ?_
    refine g_icmp_ge (pc := 12) 19 dX5_isString_12 (by decide) (by omega) (by omega) (fun h_2 => ?_) (fun h_2 => ?_)
    · refine g_iconst (pc := 19) dX5_isString_19 ?_
      exact g_zret (pc := 20) dX5_isString_20 rfl rfl (rdB_0 (by omega))
    · refine g_iconst (pc := 15) dX5_isString_15 ?_
      refine g_goto (pc := 16) 20 dX5_isString_16 (by decide) ?_
      exact g_zret (pc := 20) dX5_isString_20 rfl rfl (rdB_1 (by omega))
set_option maxRecDepth 100000 in
set_option maxHeartbeats 2000000 in
/-- PvArray.isModule  -/
theorem c_X5_isModule {D : va_G} {cy : Nat → ClassId} {l : Launch} {ad : Nat → Nat} {σ : Nat → Int → Int} {X : va_W} (hB : Bd σ) (z : Int) (hz : -2147483648 ≤ z ∧ z ≤ 2147483647) : Con D cy l yX5_isModule cX5_isModule 2 (some .boolean) rm_X5_isModule [.ref (ad 0), .int (zI z)] (CW cy ad σ ++ X) (rdB (0 ≤ z ∧ z < σ 0 1) (CW cy ad σ ++ X)) := by
  refine Con.of (lv := [(0, .ref (ad 0)), (1, .int (zI z))]) (by decide) (Nat.le_of_ble_eq_true rfl) rfl ?_
  have h0 := hB.mc
  refine g_iload_n (pc := 0) dX5_isModule_0 1 rfl ?_
  refine g_if_lt (pc := 1) 16 dX5_isModule_1 (by decide) (by omega) (fun h_1 => ?_) (fun h_1 => ?_)
  · refine g_iconst (pc := 16) dX5_isModule_16 ?_
    exact g_zret (pc := 17) dX5_isModule_17 rfl rfl (rdB_0 (by omega))
  · refine g_iload_n (pc := 4) dX5_isModule_4 1 rfl ?_
    refine g_aload_n (pc := 5) dX5_isModule_5 0 rfl ?_
    refine g_get (pc := 6) (ci := 4) inG_X5 rfl 2 (by decide) rfl fl_X5_9 (0) at_arr rfl dX5_isModule_6 ?_
    refine g_icmp_ge (pc := 9) 16 dX5_isModule_9 (by decide) (by omega) (by omega) (fun h_2 => ?_) (fun h_2 => ?_)
    · refine g_iconst (pc := 16) dX5_isModule_16 ?_
      exact g_zret (pc := 17) dX5_isModule_17 rfl rfl (rdB_0 (by omega))
    · refine g_iconst (pc := 12) dX5_isModule_12 ?_
      refine g_goto (pc := 13) 17 dX5_isModule_13 (by decide) ?_
      exact g_zret (pc := 17) dX5_isModule_17 rfl rfl (rdB_1 (by omega))
set_option maxRecDepth 100000 in
set_option maxHeartbeats 2000000 in
/-- PvArrayModel.isString  -/
theorem c_X6_isString {D : va_G} {cy : Nat → ClassId} {l : Launch} {bd : Nat → Nat} {τ : Nat → Int → Int} {X : va_W} (hB : Bd τ) (z : Int) (hz : -2147483648 ≤ z ∧ z ≤ 2147483647) : Con D cy l yX6_isString cX6_isString 2 (some .boolean) rm_X6_isString [.ref (bd 0), .int (zI z)] (MW cy bd τ ++ X) (rdB (0 ≤ z ∧ z < τ 0 2) (MW cy bd τ ++ X)) := by
  refine Con.of (lv := [(0, .ref (bd 0)), (1, .int (zI z))]) (by decide) (Nat.le_of_ble_eq_true rfl) rfl ?_
  have h0 := hB.sc
  refine g_iload_n (pc := 0) dX6_isString_0 1 rfl ?_
  refine g_iconst (pc := 1) dX6_isString_1 ?_
  refine g_aload_n (pc := 2) dX6_isString_2 0 rfl ?_
  refine g_get (pc := 3) (ci := 5) inG_X6 rfl 7 (by decide) rfl fl_X6_59 (0) am_obj rfl dX6_isString_3 ?_
  refine g_iconst (pc := 6) dX6_isString_6 ?_
  refine g_isub (pc := 7) dX6_isString_7 ?_
  refine g_callS (pc := 8) (As := [.int (zI z), .int (zI 0), .int (zI ((τ 0 2) - 1))]) (rest := []) k_X6_55_X6 (c_X6_isBetween (τ := τ) z 0 ((τ 0 2) - 1) (by omega) (by omega) (by omega)) ⟨rfl, rfl, Nat.le_of_ble_eq_true rfl, Nat.le_of_ble_eq_true rfl⟩ rfl rfl (Nat.le_of_ble_eq_true rfl) dX6_isString_8 (fun v_ w_ hq_ => ?_)
  rcases hq_ with ⟨rfl, rfl, hw_1⟩ | ⟨rfl, rfl, hw_1⟩
  · refine g_one ?_
    exact g_zret (pc := 11) dX6_isString_11 rfl rfl (rdB_1 (by omega))
  · refine g_one ?_
    exact g_zret (pc := 11) dX6_isString_11 rfl rfl (rdB_0 (by omega))
set_option maxRecDepth 100000 in
set_option maxHeartbeats 2000000 in
/-- PvArrayModel.isModule  -/
theorem c_X6_isModule {D : va_G} {cy : Nat → ClassId} {l : Launch} {bd : Nat → Nat} {τ : Nat → Int → Int} {X : va_W} (hB : Bd τ) (z : Int) (hz : -2147483648 ≤ z ∧ z ≤ 2147483647) : Con D cy l yX6_isModule cX6_isModule 2 (some .boolean) rm_X6_isModule [.ref (bd 0), .int (zI z)] (MW cy bd τ ++ X) (rdB (0 ≤ z ∧ z < τ 0 1) (MW cy bd τ ++ X)) := by
  refine Con.of (lv := [(0, .ref (bd 0)), (1, .int (zI z))]) (by decide) (Nat.le_of_ble_eq_true rfl) rfl ?_
  have h0 := hB.mc
  refine g_iload_n (pc := 0) dX6_isModule_0 1 rfl ?_
  refine g_iconst (pc := 1) dX6_isModule_1 ?_
  refine g_aload_n (pc := 2) dX6_isModule_2 0 rfl ?_
  refine g_get (pc := 3) (ci := 5) inG_X6 rfl 1 (by decide) rfl fl_X6_52 (0) am_obj rfl dX6_isModule_3 ?_
  refine g_iconst (pc := 6) dX6_isModule_6 ?_
  refine g_isub (pc := 7) dX6_isModule_7 ?_
  refine g_callS (pc := 8) (As := [.int (zI z), .int (zI 0), .int (zI ((τ 0 1) - 1))]) (rest := []) k_X6_55_X6 (c_X6_isBetween (τ := τ) z 0 ((τ 0 1) - 1) (by omega) (by omega) (by omega)) ⟨rfl, rfl, Nat.le_of_ble_eq_true rfl, Nat.le_of_ble_eq_true rfl⟩ rfl rfl (Nat.le_of_ble_eq_true rfl) dX6_isModule_8 (fun v_ w_ hq_ => ?_)
  rcases hq_ with ⟨rfl, rfl, hw_1⟩ | ⟨rfl, rfl, hw_1⟩
  · refine g_one ?_
    exact g_zret (pc := 11) dX6_isModule_11 rfl rfl (rdB_1 (by omega))
  · refine g_one ?_
    exact g_zret (pc := 11) dX6_isModule_11 rfl rfl (rdB_0 (by omega))
set_option maxRecDepth 100000 in
set_option maxHeartbeats 2000000 in
/-- PvArray$PvModule.valueAt  -/
theorem c_X3_valueAt {D : va_G} {cy : Nat → ClassId} {l : Launch} {ad : Nat → Nat} {σ : Nat → Int → Int} {X : va_W} (hB : Bd σ) (hL : LC σ) (i : Int) (hi : 0 ≤ i ∧ i < 24) (c : Int) (hc : 0 ≤ c ∧ c ≤ 10000) : Con D cy l yX3_valueAt cX3_valueAt 3 (some .int) rm_X3_valueAt [.ref (ad (7 + i.toNat)), .int (zI c)] (CW cy ad σ ++ X) (rdI (volt σ i c) (CW cy ad σ ++ X)) := by
  refine Con.of (lv := [(0, .ref (ad (7 + i.toNat))), (1, .int (zI c))]) (by decide) (Nat.le_of_ble_eq_true rfl) rfl ?_
  have h1 := hL i
  have h2 := photo_b hB i
  have h3 := hB.d
  have h4 := hB.b2 i
  have h5 := mul_b (hB.b4 i) hc
  refine g_iload_n (pc := 0) dX3_valueAt_0 1 rfl ?_
  refine g_aload_n (pc := 1) dX3_valueAt_1 0 rfl ?_
  refine g_get (pc := 2) (ci := 2) inG_X3 rfl 4 (by decide) rfl fl_X3_19 (7 + i.toNat) (at_mod (i := i) (by omega)) rfl dX3_valueAt_2 ?_
  refine g_icmp_le (pc := 5) 17 dX3_valueAt_5 (by decide) (by omega) (by omega) (fun h_1 => ?_) (fun h_1 => ?_)
  · refine g_aload_n (pc := 17) dX3_valueAt_17 0 rfl ?_
    refine g_get (pc := 18) (ci := 2) inG_X3 rfl 2 (by decide) rfl fl_X3_13 (7 + i.toNat) (at_mod (i := i) (by omega)) rfl dX3_valueAt_18 ?_
    refine g_aload_n (pc := 21) dX3_valueAt_21 0 rfl ?_
    refine g_get (pc := 22) (ci := 2) inG_X3 rfl 5 (by decide) rfl fl_X3_22 (7 + i.toNat) (at_mod (i := i) (by omega)) rfl dX3_valueAt_22 ?_
    refine g_iload_n (pc := 25) dX3_valueAt_25 1 rfl ?_
    refine g_imul (pc := 26) dX3_valueAt_26 ?_
    refine g_sipush (pc := 27) dX3_valueAt_27 (by omega) ?_
    refine g_idiv (pc := 30) dX3_valueAt_30 (by omega) (by omega) ?_
    refine g_isub (pc := 31) dX3_valueAt_31 ?_
    refine g_istore_n (pc := 32) (lv' := [(2, .int (zI ((σ 2 i) - (((σ 4 i) * c) / 10000)))), (0, .ref (ad (7 + i.toNat))), (1, .int (zI c))]) dX3_valueAt_32 (by decide) rfl ?_
    refine g_iload_n (pc := 33) dX3_valueAt_33 0 rfl ?_
    refine g_if_le (pc := 34) 41 dX3_valueAt_34 (by decide) (by omega) (fun h_2 => ?_) (fun h_2 => ?_)
    · refine g_iconst (pc := 41) dX3_valueAt_41 ?_
      exact g_iret (pc := 42) dX3_valueAt_42 rfl (rdI_of (by unfold volt lit; rw [if_neg (by omega)]; omega))
    · refine g_iload_n (pc := 37) dX3_valueAt_37 0 rfl ?_
      refine g_goto (pc := 38) 42 dX3_valueAt_38 (by decide) ?_
      exact g_iret (pc := 42) dX3_valueAt_42 rfl (rdI_of (by unfold volt lit; rw [if_neg (by omega)]; omega))
  · refine g_aload_n (pc := 8) dX3_valueAt_8 0 rfl ?_
    refine g_get (pc := 9) (ci := 2) inG_X3 rfl 0 (by decide) rfl fl_X3_35 (7 + i.toNat) (at_mod (i := i) (by omega)) rfl dX3_valueAt_9 ?_
    refine g_getN (pc := 12) (ci := 0) inG_X1 rfl 0 (by decide) rfl fl_X3_39 (1) at_dio rfl dX3_valueAt_12 ?_
    refine g_ineg (pc := 15) dX3_valueAt_15 ?_
    exact g_iret (pc := 16) dX3_valueAt_16 rfl (rdI_of (by unfold volt; rw [if_pos (by omega)]))
set_option maxRecDepth 100000 in
set_option maxHeartbeats 2000000 in
/-- PvArray$PvModule.end  -/
theorem c_X3_end {D : va_G} {cy : Nat → ClassId} {l : Launch} {ad : Nat → Nat} {σ : Nat → Int → Int} {X : va_W} (hL : LC σ) (i : Int) (hi : 0 ≤ i ∧ i < 24) : Con D cy l yX3_end cX3_end 1 (some .int) rm_X3_end [.ref (ad (7 + i.toNat))] (CW cy ad σ ++ X) (rdI (photo σ i) (CW cy ad σ ++ X)) := by
  refine Con.of (lv := [(0, .ref (ad (7 + i.toNat)))]) (by decide) (Nat.le_of_ble_eq_true rfl) rfl ?_
  refine g_aload_n (pc := 0) dX3_end_0 0 rfl ?_
  refine g_get (pc := 1) (ci := 2) inG_X3 rfl 4 (by decide) rfl fl_X3_19 (7 + i.toNat) (at_mod (i := i) (by omega)) rfl dX3_end_1 ?_
  exact g_iret (pc := 4) dX3_end_4 rfl (rdI_of (hL i))
set_option maxRecDepth 100000 in
set_option maxHeartbeats 2000000 in
/-- PvArray$PvModule.illuminate  -/
theorem c_X3_illuminate {D : va_G} {cy : Nat → ClassId} {l : Launch} {ad : Nat → Nat} {σ : Nat → Int → Int} {X : va_W} (i : Int) (hr : 0 ≤ σ 1 i ∧ σ 1 i ≤ 1000) (hi : 0 ≤ i ∧ i < 24) (z : Int) (hz : 0 ≤ z ∧ z ≤ 1200) : Con D cy l yX3_illuminate cX3_illuminate 2 none rm_X3_illuminate [.ref (ad (7 + i.toNat)), .int (zI z)] (CW cy ad σ ++ X) (fun v w' => v = none ∧ w' = CW cy ad (up (up σ 3 i z) 8 i (z * σ 1 i / 1000)) ++ X) := by
  refine Con.of (lv := [(0, .ref (ad (7 + i.toNat))), (1, .int (zI z))]) (by decide) (Nat.le_of_ble_eq_true rfl) rfl ?_
  have h1 := mul_b hz hr
  refine g_aload_n (pc := 0) dX3_illuminate_0 0 rfl ?_
  refine g_iload_n (pc := 1) dX3_illuminate_1 1 rfl ?_
  refine g_put (pc := 2) (ci := 2) inG_X3 tyX3 tyX3_ok nmX3 rfl 3 (by decide) rfl rfl fl_X3_16 (7 + i.toNat) (at_mod (i := i) (by omega)) rfl rfl (Nat.le_of_ble_eq_true rfl) (st_3 (by omega)) dX3_illuminate_2 ?_
  refine g_aload_n (pc := 5) dX3_illuminate_5 0 rfl ?_
  refine g_iload_n (pc := 6) dX3_illuminate_6 1 rfl ?_
  refine g_aload_n (pc := 7) dX3_illuminate_7 0 rfl ?_
  refine g_get (pc := 8) (ci := 2) inG_X3 rfl 1 (by decide) rfl fl_X3_7 (7 + i.toNat) (at_mod (i := i) (by omega)) rfl dX3_illuminate_8 ?_
  refine g_imul (pc := 11) dX3_illuminate_11 ?_
  refine g_sipush (pc := 12) dX3_illuminate_12 (by omega) ?_
  refine g_idiv (pc := 15) dX3_illuminate_15 (by have h2 : up σ 3 i z 1 i = σ 1 i := rfl; rw [h2]; omega) (by omega) ?_
  refine g_put (pc := 16) (ci := 2) inG_X3 tyX3 tyX3_ok nmX3 rfl 4 (by decide) rfl rfl fl_X3_19 (7 + i.toNat) (at_mod (i := i) (by omega)) rfl rfl (Nat.le_of_ble_eq_true rfl) (st_8 (by omega)) dX3_illuminate_16 ?_
  exact g_vret (pc := 19) dX3_illuminate_19 rfl (⟨rfl, rfl⟩)
set_option maxRecDepth 100000 in
set_option maxHeartbeats 2000000 in
/-- PvArray$PvString.isFull  -/
theorem c_X4_isFull {D : va_G} {cy : Nat → ClassId} {l : Launch} {ad : Nat → Nat} {σ : Nat → Int → Int} {X : va_W} (hB : Bd σ) (s : Int) (hs : 0 ≤ s ∧ s < 6) : Con D cy l yX4_isFull cX4_isFull 1 (some .boolean) rm_X4_isFull [.ref (ad (31 + s.toNat))] (CW cy ad σ ++ X) (rdB (12 ≤ σ 6 s) (CW cy ad σ ++ X)) := by
  refine Con.of (lv := [(0, .ref (ad (31 + s.toNat)))]) (by decide) (Nat.le_of_ble_eq_true rfl) rfl ?_
  have h0 := hB.b6 s
  refine g_aload_n (pc := 0) dX4_isFull_0 0 rfl ?_
  refine g_get (pc := 1) (ci := 3) inG_X4 rfl 2 (by decide) rfl fl_X4_15 (31 + s.toNat) (at_str (s := s) (by omega)) rfl dX4_isFull_1 ?_
  refine g_bipush (pc := 4) dX4_isFull_4 (by omega) ?_
  refine g_icmp_lt (pc := 6) 13 dX4_isFull_6 (by decide) (by omega) (by omega) (fun h_1 => ?_) (fun h_1 => ?_)
  · refine g_iconst (pc := 13) dX4_isFull_13 ?_
    exact g_zret (pc := 14) dX4_isFull_14 rfl rfl (rdB_0 (by omega))
  · refine g_iconst (pc := 9) dX4_isFull_9 ?_
    refine g_goto (pc := 10) 14 dX4_isFull_10 (by decide) ?_
    exact g_zret (pc := 14) dX4_isFull_14 rfl rfl (rdB_1 (by omega))
