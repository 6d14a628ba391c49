def sxI (τ : Nat → Int → Int) (r : Int) (cy : Nat → ClassId) (bd : Nat → Nat) (X : va_W) : Option Value → va_W → Prop := fun v w' => ∃ τ', v = some (.int (zI r)) ∧ w' = MW cy bd τ' ++ X ∧ Sx τ τ'
def sxJ (τ : Nat → Int → Int) (r : Int) (cy : Nat → ClassId) (bd : Nat → Nat) (X : va_W) : Option Value → va_W → Prop := fun v w' => ∃ τ', v = some (.long (zJ r)) ∧ w' = MW cy bd τ' ++ X ∧ Sx τ τ'
theorem sxI_of {τ ρ : Nat → Int → Int} {x r : Int} {cy : Nat → ClassId} {bd : Nat → Nat} {X : va_W} (h : x = r) (hx : Sx τ ρ) : sxI τ r cy bd X (some (.int (zI x))) (MW cy bd ρ ++ X) := ⟨ρ, by rw [h], rfl, hx⟩
theorem sxJ_of {τ ρ : Nat → Int → Int} {x r : Int} {cy : Nat → ClassId} {bd : Nat → Nat} {X : va_W} (h : x = r) (hx : Sx τ ρ) : sxJ τ r cy bd X (some (.long (zJ x))) (MW cy bd ρ ++ X) := ⟨ρ, by rw [h], rfl, hx⟩
set_option maxRecDepth 100000 in
set_option maxHeartbeats 2000000 in
/-- PvArrayModel.layOut, the loop at 11  -/
theorem lp_X6_layOut {D : va_G} {cy : Nat → ClassId} {l : Launch} {bd : Nat → Nat} {τ : Nat → Int → Int} {X : va_W} (hB : Bd τ) (s : Int) (hs : 0 ≤ s ∧ s < 6) : ∀ (n : Nat) (i : Int), 0 ≤ i → i ≤ limit τ s + 1 → (limit τ s + 1 - i).toNat < n → GO D cy l rm_X6_layOut cX6_layOut 3 yX6_layOut.cls none (MW cy bd τ ++ X) (wv (MW cy bd (loS τ s) ++ X)) (MW cy bd (loP τ s i) ++ X) 11 [(0, .ref (bd 0)), (1, .int (zI s)), (2, .int (zI i))] [] := by
  intro n
  induction n with
  | zero =>
    intro i hi hi2 hn
    exact absurd hn (Nat.not_lt_zero _)
  | succ n ih =>
    intro i hi hi2 hn
    have g3 := limit_b hB s
    refine g_iload_n (pc := 11) dX6_layOut_11 2 rfl ?_
    refine g_aload_n (pc := 12) dX6_layOut_12 0 rfl ?_
    refine g_get (pc := 13) (ci := 5) inG_X6 rfl 10 (by decide) rfl fl_X6_110 (0) am_obj rfl dX6_layOut_13 ?_
    refine g_topI (show (loP τ s i) 0 3 = limit τ s from rfl) ?_
    refine g_icmp_gt (pc := 16) 37 dX6_layOut_16 (by decide) (by omega) (by omega) (fun h_1 => ?_) (fun h_1 => ?_)
    · exact g_vret (pc := 37) dX6_layOut_37 rfl (wvm_of (by unfold loS; rw [show i = limit τ s + 1 by omega]))
    · refine g_aload_n (pc := 19) dX6_layOut_19 0 rfl ?_
      refine g_get (pc := 20) (ci := 5) inG_X6 rfl 11 (by decide) rfl fl_X6_32 (0) am_obj rfl dX6_layOut_20 ?_
      refine g_iload_n (pc := 23) dX6_layOut_23 2 rfl ?_
      refine g_aload_n (pc := 24) dX6_layOut_24 0 rfl ?_
      refine g_iload_n (pc := 25) dX6_layOut_25 1 rfl ?_
      refine g_iload_n (pc := 26) dX6_layOut_26 2 rfl ?_
      refine g_callV (pc := 27) (As := [.int (zI s), .int (zI i)]) (rest := [.int (zI i), .ref (bd 8)]) k_X6_106_X6 (c_X6_powerAt (τ := (loP τ s i)) ((loP_Sx τ s i).Bd hB) s (by omega) i (by omega)) ⟨rfl, rfl, Nat.le_of_ble_eq_true rfl, Nat.le_of_ble_eq_true rfl⟩ (0) 5 rfl rfl am_obj rfl rfl (Nat.le_of_ble_eq_true rfl) dX6_layOut_27 (fun v_ w_ hq_ => ?_)
      obtain ⟨rfl, rfl⟩ := hq_
      refine g_one ?_
      refine g_topJ (congrFun (Sm_spow (loP_Sx τ s i).Sm s) i) ?_
      refine g_last (pc := 30) 8 am_8 (by omega) (by decide) sm_8 dX6_layOut_30 ?_
      refine g_iinc (pc := 31) (lv' := [(2, .int (zI (i + 1))), (0, .ref (bd 0)), (1, .int (zI s))]) dX6_layOut_31 (by decide) 2 rfl rfl ?_
      refine g_goto (pc := 34) 11 dX6_layOut_34 (by decide) ?_
      refine g_sub (lv' := [(0, .ref (bd 0)), (1, .int (zI s)), (2, .int (zI (i + 1)))]) [1, 2, 0] rfl ?_
      refine g_world (w' := MW cy bd (loP τ s (i + 1)) ++ X) (by rw [loP_put _ _ hi]) ?_
      exact ih (i + 1) (by omega) (by omega) (by omega)
set_option maxRecDepth 100000 in
set_option maxHeartbeats 2000000 in
/-- PvArrayModel.layOut  -/
theorem c_X6_layOut {D : va_G} {cy : Nat → ClassId} {l : Launch} {bd : Nat → Nat} {τ : Nat → Int → Int} {X : va_W} (hB : Bd τ) (s : Int) (hs : 0 ≤ s ∧ s < 6) : Con D cy l yX6_layOut cX6_layOut 3 none rm_X6_layOut [.ref (bd 0), .int (zI s)] (MW cy bd τ ++ X) (wv (MW cy bd (loS τ s) ++ X)) := by
  refine Con.of (lv := [(0, .ref (bd 0)), (1, .int (zI s))]) (by decide) (Nat.le_of_ble_eq_true rfl) rfl ?_
  have g3 := limit_b hB s
  refine g_aload_n (pc := 0) dX6_layOut_0 0 rfl ?_
  refine g_aload_n (pc := 1) dX6_layOut_1 0 rfl ?_
  refine g_iload_n (pc := 2) dX6_layOut_2 1 rfl ?_
  refine g_callV (pc := 3) (As := [.int (zI s)]) (rest := [.ref (bd 0)]) k_X6_103_X6 (c_X6_limitOf (τ := τ) hB s (by omega)) ⟨rfl, rfl, Nat.le_of_ble_eq_true rfl, Nat.le_of_ble_eq_true rfl⟩ (0) 5 rfl rfl am_obj rfl rfl (Nat.le_of_ble_eq_true rfl) dX6_layOut_3 (fun v_ w_ hq_ => ?_)
  obtain ⟨rfl, rfl⟩ := hq_
  refine g_one ?_
  refine g_put (pc := 6) (ci := 5) inG_X6 tyX6 tyX6_ok nmX6 rfl 10 (by decide) rfl rfl fl_X6_110 (0) am_obj rfl rfl (Nat.le_of_ble_eq_true rfl) sm_0_3 dX6_layOut_6 ?_
  refine g_iconst (pc := 9) dX6_layOut_9 ?_
  refine g_istore_n (pc := 10) (lv' := [(2, .int (zI 0)), (0, .ref (bd 0)), (1, .int (zI s))]) dX6_layOut_10 (by decide) rfl ?_
  refine g_sub (lv' := [(0, .ref (bd 0)), (1, .int (zI s)), (2, .int (zI 0))]) [1, 2, 0] rfl ?_
  refine g_world (w' := MW cy bd (loP τ s 0) ++ X) (by rw [loP_1]) ?_
  exact lp_X6_layOut hB s hs ((limit τ s).toNat + 2) 0 (by omega) (by omega) (by omega)
set_option maxRecDepth 100000 in
set_option maxHeartbeats 2000000 in
/-- PvArrayModel.isPeak  -/
theorem c_X6_isPeak {D : va_G} {cy : Nat → ClassId} {l : Launch} {bd : Nat → Nat} {τ : Nat → Int → Int} {X : va_W} (f : Int → Int) (N : Int) (hN : 0 ≤ N ∧ N ≤ 1200) (hl : τ 0 3 = N) (h8 : ∀ i, 0 ≤ i → i ≤ N → τ 8 i = f i) (hf : ∀ i, 0 ≤ i → i ≤ N → -1728000 ≤ f i ∧ f i ≤ 51840000) (i : Int) (hi : 1 ≤ i ∧ i ≤ N) : Con D cy l yX6_isPeak cX6_isPeak 2 (some .boolean) rm_X6_isPeak [.ref (bd 0), .int (zI i)] (MW cy bd τ ++ X) (rdB (isPk f N i) (MW cy bd τ ++ X)) := by
  refine Con.of (lv := [(0, .ref (bd 0)), (1, .int (zI i))]) (by decide) (Nat.le_of_ble_eq_true rfl) rfl ?_
  have g1 := hf i (by omega) (by omega)
  have g2 := hf (i - 1) (by omega) (by omega)
  refine g_aload_n (pc := 0) dX6_isPeak_0 0 rfl ?_
  refine g_get (pc := 1) (ci := 5) inG_X6 rfl 11 (by decide) rfl fl_X6_32 (0) am_obj rfl dX6_isPeak_1 ?_
  refine g_iload_n (pc := 4) dX6_isPeak_4 1 rfl ?_
  refine g_lald (pc := 5) 8 am_8 (by omega) (by decide) dX6_isPeak_5 ?_
  refine g_topJ (h8 (i) (by omega) (by omega)) ?_
  refine g_aload_n (pc := 6) dX6_isPeak_6 0 rfl ?_
  refine g_get (pc := 7) (ci := 5) inG_X6 rfl 11 (by decide) rfl fl_X6_32 (0) am_obj rfl dX6_isPeak_7 ?_
  refine g_iload_n (pc := 10) dX6_isPeak_10 1 rfl ?_
  refine g_iconst (pc := 11) dX6_isPeak_11 ?_
  refine g_isub (pc := 12) dX6_isPeak_12 ?_
  refine g_lald (pc := 13) 8 am_8 (by omega) (by decide) dX6_isPeak_13 ?_
  refine g_topJ (h8 (i - 1) (by omega) (by omega)) ?_
  refine g_lcmp_le (pc := 14) 48 dX6_isPeak_14 dX6_isPeak_15 (by decide) (by omega) (by omega) (fun h_1 => ?_) (fun h_1 => ?_)
  · refine g_iconst (pc := 48) dX6_isPeak_48 ?_
    exact g_zret (pc := 49) dX6_isPeak_49 rfl rfl (rdB_0 (by intro q; obtain ⟨q1, q2⟩ := q; omega))
  · refine g_iload_n (pc := 18) dX6_isPeak_18 1 rfl ?_
    refine g_aload_n (pc := 19) dX6_isPeak_19 0 rfl ?_
    refine g_get (pc := 20) (ci := 5) inG_X6 rfl 10 (by decide) rfl fl_X6_110 (0) am_obj rfl dX6_isPeak_20 ?_
    refine g_topI hl ?_
    refine g_icmp_eq (pc := 23) 44 dX6_isPeak_23 (by decide) (by omega) (by omega) (fun h_2 => ?_) (fun h_2 => ?_)
    · refine g_iconst (pc := 44) dX6_isPeak_44 ?_
      refine g_goto (pc := 45) 49 dX6_isPeak_45 (by decide) ?_
      exact g_zret (pc := 49) dX6_isPeak_49 rfl rfl (rdB_1 ⟨by omega, by omega⟩)
    · have g3 := hf (i + 1) (by omega) (by omega)
      refine g_aload_n (pc := 26) dX6_isPeak_26 0 rfl ?_
      refine g_get (pc := 27) (ci := 5) inG_X6 rfl 11 (by decide) rfl fl_X6_32 (0) am_obj rfl dX6_isPeak_27 ?_
      refine g_iload_n (pc := 30) dX6_isPeak_30 1 rfl ?_
      refine g_lald (pc := 31) 8 am_8 (by omega) (by decide) dX6_isPeak_31 ?_
      refine g_topJ (h8 (i) (by omega) (by omega)) ?_
      refine g_aload_n (pc := 32) dX6_isPeak_32 0 rfl ?_
      refine g_get (pc := 33) (ci := 5) inG_X6 rfl 11 (by decide) rfl fl_X6_32 (0) am_obj rfl dX6_isPeak_33 ?_
      refine g_iload_n (pc := 36) dX6_isPeak_36 1 rfl ?_
      refine g_iconst (pc := 37) dX6_isPeak_37 ?_
      refine g_iadd (pc := 38) dX6_isPeak_38 ?_
      refine g_lald (pc := 39) 8 am_8 (by omega) (by decide) dX6_isPeak_39 ?_
      refine g_topJ (h8 (i + 1) (by omega) (by omega)) ?_
      refine g_lcmp_le (pc := 40) 48 dX6_isPeak_40 dX6_isPeak_41 (by decide) (by omega) (by omega) (fun h_3 => ?_) (fun h_3 => ?_)
      · refine g_iconst (pc := 48) dX6_isPeak_48 ?_
        exact g_zret (pc := 49) dX6_isPeak_49 rfl rfl (rdB_0 (by intro q; obtain ⟨q1, q2⟩ := q; omega))
      · refine g_iconst (pc := 44) dX6_isPeak_44 ?_
        refine g_goto (pc := 45) 49 dX6_isPeak_45 (by decide) ?_
        exact g_zret (pc := 49) dX6_isPeak_49 rfl rfl (rdB_1 ⟨by omega, by omega⟩)
set_option maxRecDepth 100000 in
set_option maxHeartbeats 2000000 in
/-- PvArrayModel.peakCount, the loop at 21  -/
theorem lp_X6_peakCount {D : va_G} {cy : Nat → ClassId} {l : Launch} {bd : Nat → Nat} {τ : Nat → Int → Int} {X : va_W} (hB : Bd τ) (s : Int) (hs : 0 ≤ s ∧ s < τ 0 2) : ∀ (n : Nat) (i : Int), 1 ≤ i → i ≤ limit τ s + 1 → (limit τ s + 1 - i).toNat < n → GO D cy l rm_X6_peakCount cX6_peakCount 4 yX6_peakCount.cls (some .int) (MW cy bd τ ++ X) (sxI τ (a_peakCount τ s) cy bd X) (MW cy bd (loS τ s) ++ X) 21 [(0, .ref (bd 0)), (1, .int (zI s)), (2, .int (zI (pkN (spow τ s) (limit τ s) (i - 1).toNat))), (3, .int (zI i))] [] := by
  intro n
  induction n with
  | zero =>
    intro i hi hi2 hn
    exact absurd hn (Nat.not_lt_zero _)
  | succ n ih =>
    intro i hi hi2 hn
    have g1 := hB.sc
    have g2 := hB.mc
    have g3 := limit_b hB s
    have g4 := pkN_b (spow τ s) (limit τ s) (i - 1).toNat
    refine g_iload_n (pc := 21) dX6_peakCount_21 3 rfl ?_
    refine g_aload_n (pc := 22) dX6_peakCount_22 0 rfl ?_
    refine g_get (pc := 23) (ci := 5) inG_X6 rfl 10 (by decide) rfl fl_X6_110 (0) am_obj rfl dX6_peakCount_23 ?_
    refine g_topI (show (loS τ s) 0 3 = limit τ s from rfl) ?_
    refine g_icmp_gt (pc := 26) 51 dX6_peakCount_26 (by decide) (by omega) (by omega) (fun h_1 => ?_) (fun h_1 => ?_)
    · refine g_iload_n (pc := 51) dX6_peakCount_51 2 rfl ?_
      exact g_iret (pc := 52) dX6_peakCount_52 rfl (sxI_of (by unfold a_peakCount; rw [if_pos hs, show i - 1 = limit τ s by omega]) (loP_Sx τ s _))
    · refine g_iload_n (pc := 29) dX6_peakCount_29 2 rfl ?_
      refine g_aload_n (pc := 30) dX6_peakCount_30 0 rfl ?_
      refine g_iload_n (pc := 31) dX6_peakCount_31 3 rfl ?_
      refine g_callV (pc := 32) (As := [.int (zI i)]) (rest := [.int (zI (pkN (spow τ s) (limit τ s) (i - 1).toNat))]) k_X6_116_X6 (c_X6_isPeak (τ := (loS τ s)) (spow τ s) (limit τ s) (by omega) rfl (fun i q1 q2 => loS_8 τ s ⟨q1, q2⟩) (fun i q1 q2 => spow_b2 hB s (by omega)) i (by omega)) ⟨rfl, rfl, Nat.le_of_ble_eq_true rfl, Nat.le_of_ble_eq_true rfl⟩ (0) 5 rfl rfl am_obj rfl rfl (Nat.le_of_ble_eq_true rfl) dX6_peakCount_32 (fun v_ w_ hq_ => ?_)
      rcases hq_ with ⟨rfl, rfl, hk_2⟩ | ⟨rfl, rfl, hk_2⟩
      · refine g_one ?_
        refine g_if_eqF (pc := 35) 42 dX6_peakCount_35 (by decide) (by omega) (by omega) ?_
        refine g_iconst (pc := 38) dX6_peakCount_38 ?_
        refine g_goto (pc := 39) 43 dX6_peakCount_39 (by decide) ?_
        refine g_iadd (pc := 43) dX6_peakCount_43 ?_
        refine g_istore_n (pc := 44) (lv' := [(2, .int (zI ((pkN (spow τ s) (limit τ s) (i - 1).toNat) + 1))), (0, .ref (bd 0)), (1, .int (zI s)), (3, .int (zI i))]) dX6_peakCount_44 (by decide) rfl ?_
        refine g_iinc (pc := 45) (lv' := [(3, .int (zI (i + 1))), (2, .int (zI ((pkN (spow τ s) (limit τ s) (i - 1).toNat) + 1))), (0, .ref (bd 0)), (1, .int (zI s))]) dX6_peakCount_45 (by decide) 3 rfl rfl ?_
        refine g_goto (pc := 48) 21 dX6_peakCount_48 (by decide) ?_
        refine g_sub (lv' := [(0, .ref (bd 0)), (1, .int (zI s)), (2, .int (zI ((pkN (spow τ s) (limit τ s) (i - 1).toNat) + 1))), (3, .int (zI (i + 1)))]) [2, 3, 1, 0] rfl ?_
        refine g_lv (lv' := [(0, .ref (bd 0)), (1, .int (zI s)), (2, .int (zI (pkN (spow τ s) (limit τ s) (i + 1 - 1).toNat))), (3, .int (zI (i + 1)))]) (by rw [show (i + 1 - 1).toNat = i.toNat by omega, pkN_s _ _ hi, pkB_t hk_2]; rw [if_pos rfl]) ?_
        exact ih (i + 1) (by omega) (by omega) (by omega)
      · refine g_one ?_
        refine g_if_eqT (pc := 35) 42 dX6_peakCount_35 (by decide) (by omega) (by omega) ?_
        refine g_iconst (pc := 42) dX6_peakCount_42 ?_
        refine g_iadd (pc := 43) dX6_peakCount_43 ?_
        refine g_istore_n (pc := 44) (lv' := [(2, .int (zI ((pkN (spow τ s) (limit τ s) (i - 1).toNat) + 0))), (0, .ref (bd 0)), (1, .int (zI s)), (3, .int (zI i))]) dX6_peakCount_44 (by decide) rfl ?_
        refine g_iinc (pc := 45) (lv' := [(3, .int (zI (i + 1))), (2, .int (zI ((pkN (spow τ s) (limit τ s) (i - 1).toNat) + 0))), (0, .ref (bd 0)), (1, .int (zI s))]) dX6_peakCount_45 (by decide) 3 rfl rfl ?_
        refine g_goto (pc := 48) 21 dX6_peakCount_48 (by decide) ?_
        refine g_sub (lv' := [(0, .ref (bd 0)), (1, .int (zI s)), (2, .int (zI ((pkN (spow τ s) (limit τ s) (i - 1).toNat) + 0))), (3, .int (zI (i + 1)))]) [2, 3, 1, 0] rfl ?_
        refine g_lv (lv' := [(0, .ref (bd 0)), (1, .int (zI s)), (2, .int (zI (pkN (spow τ s) (limit τ s) (i + 1 - 1).toNat))), (3, .int (zI (i + 1)))]) (by rw [show (i + 1 - 1).toNat = i.toNat by omega, pkN_s _ _ hi, pkB_f hk_2]; rw [if_neg (by decide)]) ?_
        exact ih (i + 1) (by omega) (by omega) (by omega)
set_option maxRecDepth 100000 in
set_option maxHeartbeats 2000000 in
/-- PvArrayModel.peakCount  -/
theorem c_X6_peakCount {D : va_G} {cy : Nat → ClassId} {l : Launch} {bd : Nat → Nat} {τ : Nat → Int → Int} {X : va_W} (hB : Bd τ) (s : Int) (hs : -2147483648 ≤ s ∧ s ≤ 2147483647) : Con D cy l yX6_peakCount cX6_peakCount 4 (some .int) rm_X6_peakCount [.ref (bd 0), .int (zI s)] (MW cy bd τ ++ X) (sxI τ (a_peakCount τ s) cy bd X) := by
  refine Con.of (lv := [(0, .ref (bd 0)), (1, .int (zI s))]) (by decide) (Nat.le_of_ble_eq_true rfl) rfl ?_
  have g1 := hB.sc
  have g2 := hB.mc
  have g3 := limit_b hB s
  refine g_aload_n (pc := 0) dX6_peakCount_0 0 rfl ?_
  refine g_iload_n (pc := 1) dX6_peakCount_1 1 rfl ?_
  refine g_callV (pc := 2) (As := [.int (zI s)]) (rest := []) k_X6_62_X6 (c_X6_isString (τ := τ) hB s (by omega)) ⟨rfl, rfl, Nat.le_of_ble_eq_true rfl, Nat.le_of_ble_eq_true rfl⟩ (0) 5 rfl rfl am_obj rfl rfl (Nat.le_of_ble_eq_true rfl) dX6_peakCount_2 (fun v_ w_ hq_ => ?_)
  rcases hq_ with ⟨rfl, rfl, hs_1⟩ | ⟨rfl, rfl, hs_1⟩
  · refine g_one ?_
    refine g_if_neT (pc := 5) 12 dX6_peakCount_5 (by decide) (by omega) (by omega) ?_
    refine g_aload_n (pc := 12) dX6_peakCount_12 0 rfl ?_
    refine g_iload_n (pc := 13) dX6_peakCount_13 1 rfl ?_
    refine g_callV (pc := 14) (As := [.int (zI s)]) (rest := []) k_X6_113_X6 (c_X6_layOut (τ := τ) hB s (by omega)) ⟨rfl, rfl, Nat.le_of_ble_eq_true rfl, Nat.le_of_ble_eq_true rfl⟩ (0) 5 rfl rfl am_obj rfl rfl (Nat.le_of_ble_eq_true rfl) dX6_peakCount_14 (fun v_ w_ hq_ => ?_)
    obtain ⟨rfl, rfl⟩ := hq_
    refine g_none ?_
    refine g_iconst (pc := 17) dX6_peakCount_17 ?_
    refine g_istore_n (pc := 18) (lv' := [(2, .int (zI 0)), (0, .ref (bd 0)), (1, .int (zI s))]) dX6_peakCount_18 (by decide) rfl ?_
    refine g_iconst (pc := 19) dX6_peakCount_19 ?_
    refine g_istore_n (pc := 20) (lv' := [(3, .int (zI 1)), (2, .int (zI 0)), (0, .ref (bd 0)), (1, .int (zI s))]) dX6_peakCount_20 (by decide) rfl ?_
    refine g_sub (lv' := [(0, .ref (bd 0)), (1, .int (zI s)), (2, .int (zI 0)), (3, .int (zI 1))]) [2, 3, 1, 0] rfl ?_
    exact lp_X6_peakCount hB s (by omega) ((limit τ s).toNat + 2) 1 (by omega) (by omega) (by omega)
  · refine g_one ?_
    refine g_if_neF (pc := 5) 12 dX6_peakCount_5 (by decide) (by omega) (by omega) ?_
    refine g_sipush (pc := 8) dX6_peakCount_8 (by omega) ?_
    exact g_iret (pc := 11) dX6_peakCount_11 rfl (sxI_of (by unfold a_peakCount; (repeat' split) <;> first | rfl | (exfalso; omega)) (Sx.rf τ))
set_option maxRecDepth 100000 in
set_option maxHeartbeats 2000000 in
/-- PvArrayModel.peakCurrent, the loop at 30  -/
theorem lp_X6_peakCurrent {D : va_G} {cy : Nat → ClassId} {l : Launch} {bd : Nat → Nat} {τ : Nat → Int → Int} {X : va_W} (hB : Bd τ) (s : Int) (hs : 0 ≤ s ∧ s < τ 0 2) (k : Int) (hk : 0 ≤ k ∧ k ≤ 2147483647) : ∀ (n : Nat) (b i : Int), 0 ≤ b → b ≤ k → 1 ≤ i → i ≤ limit τ s + 1 → pkS (spow τ s) (limit τ s) (limit τ s + 1 - i).toNat i b = a_peakCurrent τ s k → (limit τ s + 1 - i).toNat < n → GO D cy l rm_X6_peakCurrent cX6_peakCurrent 5 yX6_peakCurrent.cls (some .int) (MW cy bd τ ++ X) (sxI τ (a_peakCurrent τ s k) cy bd X) (MW cy bd (loS τ s) ++ X) 30 [(0, .ref (bd 0)), (1, .int (zI s)), (2, .int (zI k)), (3, .int (zI b)), (4, .int (zI i))] [] := by
  intro n
  induction n with
  | zero =>
    intro b i hb hb2 hi hi2 ha hn
    exact absurd hn (Nat.not_lt_zero _)
  | succ n ih =>
    intro b i hb hb2 hi hi2 ha hn
    have g1 := hB.sc
    have g2 := hB.mc
    have g3 := limit_b hB s
    refine g_iload (pc := 30) dX6_peakCurrent_30 4 rfl ?_
    refine g_aload_n (pc := 32) dX6_peakCurrent_32 0 rfl ?_
    refine g_get (pc := 33) (ci := 5) inG_X6 rfl 10 (by decide) rfl fl_X6_110 (0) am_obj rfl dX6_peakCurrent_33 ?_
    refine g_topI (show (loS τ s) 0 3 = limit τ s from rfl) ?_
    refine g_icmp_gt (pc := 36) 64 dX6_peakCurrent_36 (by decide) (by omega) (by omega) (fun h_1 => ?_) (fun h_1 => ?_)
    · refine g_sipush (pc := 64) dX6_peakCurrent_64 (by omega) ?_
      exact g_iret (pc := 67) dX6_peakCurrent_67 rfl (sxI_of (by rw [← ha, show (limit τ s + 1 - i).toNat = 0 by omega]; rfl) (loP_Sx τ s _))
    · refine g_aload_n (pc := 39) dX6_peakCurrent_39 0 rfl ?_
      refine g_iload (pc := 40) dX6_peakCurrent_40 4 rfl ?_
      refine g_callV (pc := 42) (As := [.int (zI i)]) (rest := []) k_X6_116_X6 (c_X6_isPeak (τ := (loS τ s)) (spow τ s) (limit τ s) (by omega) rfl (fun i q1 q2 => loS_8 τ s ⟨q1, q2⟩) (fun i q1 q2 => spow_b2 hB s (by omega)) i (by omega)) ⟨rfl, rfl, Nat.le_of_ble_eq_true rfl, Nat.le_of_ble_eq_true rfl⟩ (0) 5 rfl rfl am_obj rfl rfl (Nat.le_of_ble_eq_true rfl) dX6_peakCurrent_42 (fun v_ w_ hq_ => ?_)
      rcases hq_ with ⟨rfl, rfl, hk_2⟩ | ⟨rfl, rfl, hk_2⟩
      · refine g_one ?_
        refine g_if_eqF (pc := 45) 58 dX6_peakCurrent_45 (by decide) (by omega) (by omega) ?_
        refine g_iload_n (pc := 48) dX6_peakCurrent_48 3 rfl ?_
        refine g_if_ne (pc := 49) 55 dX6_peakCurrent_49 (by decide) (by omega) (fun h_3 => ?_) (fun h_3 => ?_)
        · refine g_iinc (pc := 55) (lv' := [(3, .int (zI (b + (-1)))), (0, .ref (bd 0)), (1, .int (zI s)), (2, .int (zI k)), (4, .int (zI i))]) dX6_peakCurrent_55 (by decide) 3 rfl rfl ?_
          refine g_iinc (pc := 58) (lv' := [(4, .int (zI (i + 1))), (3, .int (zI (b + (-1)))), (0, .ref (bd 0)), (1, .int (zI s)), (2, .int (zI k))]) dX6_peakCurrent_58 (by decide) 4 rfl rfl ?_
          refine g_goto (pc := 61) 30 dX6_peakCurrent_61 (by decide) ?_
          refine g_sub (lv' := [(0, .ref (bd 0)), (1, .int (zI s)), (2, .int (zI k)), (3, .int (zI (b + (-1)))), (4, .int (zI (i + 1)))]) [2, 3, 4, 1, 0] rfl ?_
          refine g_lv (lv' := [(0, .ref (bd 0)), (1, .int (zI s)), (2, .int (zI k)), (3, .int (zI (b - 1))), (4, .int (zI (i + 1)))]) (by rw [show b + (-1) = b - 1 by omega]) ?_
          exact ih (b - 1) (i + 1) (by omega) (by omega) (by omega) (by omega) (by rw [← ha, show (limit τ s + 1 - i).toNat = (limit τ s + 1 - (i + 1)).toNat + 1 by omega, pkS, if_pos (pkB_t hk_2), if_neg (by omega)]) (by omega)
        · refine g_iload (pc := 52) dX6_peakCurrent_52 4 rfl ?_
          exact g_iret (pc := 54) dX6_peakCurrent_54 rfl (sxI_of (by rw [← ha, show (limit τ s + 1 - i).toNat = (limit τ s + 1 - (i + 1)).toNat + 1 by omega, pkS, if_pos (pkB_t hk_2), if_pos (by omega)]) (loP_Sx τ s _))
      · refine g_one ?_
        refine g_if_eqT (pc := 45) 58 dX6_peakCurrent_45 (by decide) (by omega) (by omega) ?_
        refine g_iinc (pc := 58) (lv' := [(4, .int (zI (i + 1))), (0, .ref (bd 0)), (1, .int (zI s)), (2, .int (zI k)), (3, .int (zI b))]) dX6_peakCurrent_58 (by decide) 4 rfl rfl ?_
        refine g_goto (pc := 61) 30 dX6_peakCurrent_61 (by decide) ?_
        refine g_sub (lv' := [(0, .ref (bd 0)), (1, .int (zI s)), (2, .int (zI k)), (3, .int (zI b)), (4, .int (zI (i + 1)))]) [1, 2, 3, 4, 0] rfl ?_
        exact ih b (i + 1) (by omega) (by omega) (by omega) (by omega) (by rw [← ha, show (limit τ s + 1 - i).toNat = (limit τ s + 1 - (i + 1)).toNat + 1 by omega, pkS, if_neg (by rw [pkB_f hk_2]; decide)]) (by omega)
set_option maxRecDepth 100000 in
set_option maxHeartbeats 2000000 in
/-- PvArrayModel.peakCurrent  -/
theorem c_X6_peakCurrent {D : va_G} {cy : Nat → ClassId} {l : Launch} {bd : Nat → Nat} {τ : Nat → Int → Int} {X : va_W} (hB : Bd τ) (s : Int) (hs : -2147483648 ≤ s ∧ s ≤ 2147483647) (k : Int) (hk : -2147483648 ≤ k ∧ k ≤ 2147483647) : Con D cy l yX6_peakCurrent cX6_peakCurrent 5 (some .int) rm_X6_peakCurrent [.ref (bd 0), .int (zI s), .int (zI k)] (MW cy bd τ ++ X) (sxI τ (a_peakCurrent τ s k) cy bd X) := by
  refine Con.of (lv := [(0, .ref (bd 0)), (1, .int (zI s)), (2, .int (zI k))]) (by decide) (Nat.le_of_ble_eq_true rfl) rfl ?_
  have g1 := hB.sc
  have g2 := hB.mc
  have g3 := limit_b hB s
  refine g_aload_n (pc := 0) dX6_peakCurrent_0 0 rfl ?_
  refine g_iload_n (pc := 1) dX6_peakCurrent_1 1 rfl ?_
  refine g_callV (pc := 2) (As := [.int (zI s)]) (rest := []) k_X6_62_X6 (c_X6_isString (τ := τ) hB s (by omega)) ⟨rfl, rfl, Nat.le_of_ble_eq_true rfl, Nat.le_of_ble_eq_true rfl⟩ (0) 5 rfl rfl am_obj rfl rfl (Nat.le_of_ble_eq_true rfl) dX6_peakCurrent_2 (fun v_ w_ hq_ => ?_)
  rcases hq_ with ⟨rfl, rfl, hs_1⟩ | ⟨rfl, rfl, hs_1⟩
  · refine g_one ?_
    refine g_if_neT (pc := 5) 12 dX6_peakCurrent_5 (by decide) (by omega) (by omega) ?_
    refine g_iload_n (pc := 12) dX6_peakCurrent_12 2 rfl ?_
    refine g_if_ge (pc := 13) 20 dX6_peakCurrent_13 (by decide) (by omega) (fun h_2 => ?_) (fun h_2 => ?_)
    · refine g_aload_n (pc := 20) dX6_peakCurrent_20 0 rfl ?_
      refine g_iload_n (pc := 21) dX6_peakCurrent_21 1 rfl ?_
      refine g_callV (pc := 22) (As := [.int (zI s)]) (rest := []) k_X6_113_X6 (c_X6_layOut (τ := τ) hB s (by omega)) ⟨rfl, rfl, Nat.le_of_ble_eq_true rfl, Nat.le_of_ble_eq_true rfl⟩ (0) 5 rfl rfl am_obj rfl rfl (Nat.le_of_ble_eq_true rfl) dX6_peakCurrent_22 (fun v_ w_ hq_ => ?_)
      obtain ⟨rfl, rfl⟩ := hq_
      refine g_none ?_
      refine g_iload_n (pc := 25) dX6_peakCurrent_25 2 rfl ?_
      refine g_istore_n (pc := 26) (lv' := [(3, .int (zI k)), (0, .ref (bd 0)), (1, .int (zI s)), (2, .int (zI k))]) dX6_peakCurrent_26 (by decide) rfl ?_
      refine g_iconst (pc := 27) dX6_peakCurrent_27 ?_
      refine g_istore (pc := 28) (lv' := [(4, .int (zI 1)), (3, .int (zI k)), (0, .ref (bd 0)), (1, .int (zI s)), (2, .int (zI k))]) dX6_peakCurrent_28 (by decide) rfl ?_
      refine g_sub (lv' := [(0, .ref (bd 0)), (1, .int (zI s)), (2, .int (zI k)), (3, .int (zI k)), (4, .int (zI 1))]) [2, 3, 4, 1, 0] rfl ?_
      exact lp_X6_peakCurrent hB s (by omega) k (by omega) ((limit τ s).toNat + 2) k 1 (by omega) (by omega) (by omega) (by omega) (by unfold a_peakCurrent; rw [if_pos (by omega), if_neg (by omega), show limit τ s + 1 - 1 = limit τ s by omega]) (by omega)
    · refine g_sipush (pc := 16) dX6_peakCurrent_16 (by omega) ?_
      exact g_iret (pc := 19) dX6_peakCurrent_19 rfl (sxI_of (by unfold a_peakCurrent; (repeat' split) <;> first | rfl | (exfalso; omega)) (Sx.rf τ))
  · refine g_one ?_
    refine g_if_neF (pc := 5) 12 dX6_peakCurrent_5 (by decide) (by omega) (by omega) ?_
    refine g_sipush (pc := 8) dX6_peakCurrent_8 (by omega) ?_
    exact g_iret (pc := 11) dX6_peakCurrent_11 rfl (sxI_of (by unfold a_peakCurrent; (repeat' split) <;> first | rfl | (exfalso; omega)) (Sx.rf τ))
set_option maxRecDepth 100000 in
set_option maxHeartbeats 2000000 in
/-- PvArrayModel.bestOf, the loop at 9  -/
theorem lp_X6_bestOf {D : va_G} {cy : Nat → ClassId} {l : Launch} {bd : Nat → Nat} {τ : Nat → Int → Int} {X : va_W} (hB : Bd τ) (s : Int) (hs : 0 ≤ s ∧ s < 6) : ∀ (n : Nat) (i : Int), 1 ≤ i → i ≤ limit τ s + 1 → (limit τ s + 1 - i).toNat < n → GO D cy l rm_X6_bestOf cX6_bestOf 4 yX6_bestOf.cls (some .int) (MW cy bd τ ++ X) (rdI (bestC τ s) (MW cy bd (loS τ s) ++ X)) (MW cy bd (loS τ s) ++ X) 9 [(0, .ref (bd 0)), (1, .int (zI s)), (2, .int (zI (bestTo (spow τ s) (i - 1).toNat))), (3, .int (zI i))] [] := by
  intro n
  induction n with
  | zero =>
    intro i hi hi2 hn
    exact absurd hn (Nat.not_lt_zero _)
  | succ n ih =>
    intro i hi hi2 hn
    have g3 := limit_b hB s
    have g4 := bestTo_b (spow τ s) (N := i - 1) (by omega)
    have g5 := spow_b2 hB s (c := bestTo (spow τ s) (i - 1).toNat) (by omega)
    refine g_iload_n (pc := 9) dX6_bestOf_9 3 rfl ?_
    refine g_aload_n (pc := 10) dX6_bestOf_10 0 rfl ?_
    refine g_get (pc := 11) (ci := 5) inG_X6 rfl 10 (by decide) rfl fl_X6_110 (0) am_obj rfl dX6_bestOf_11 ?_
    refine g_topI (show (loS τ s) 0 3 = limit τ s from rfl) ?_
    refine g_icmp_gt (pc := 14) 45 dX6_bestOf_14 (by decide) (by omega) (by omega) (fun h_1 => ?_) (fun h_1 => ?_)
    · refine g_iload_n (pc := 45) dX6_bestOf_45 2 rfl ?_
      exact g_iret (pc := 46) dX6_bestOf_46 rfl (wm_of (by unfold bestC; rw [show i - 1 = limit τ s by omega]) rfl)
    · have g6 := spow_b2 hB s (c := i) (by omega)
      refine g_aload_n (pc := 17) dX6_bestOf_17 0 rfl ?_
      refine g_get (pc := 18) (ci := 5) inG_X6 rfl 11 (by decide) rfl fl_X6_32 (0) am_obj rfl dX6_bestOf_18 ?_
      refine g_iload_n (pc := 21) dX6_bestOf_21 3 rfl ?_
      refine g_lald (pc := 22) 8 am_8 (by omega) (by decide) dX6_bestOf_22 ?_
      refine g_topJ (loS_8 τ s (i := i) (by omega)) ?_
      refine g_aload_n (pc := 23) dX6_bestOf_23 0 rfl ?_
      refine g_get (pc := 24) (ci := 5) inG_X6 rfl 11 (by decide) rfl fl_X6_32 (0) am_obj rfl dX6_bestOf_24 ?_
      refine g_iload_n (pc := 27) dX6_bestOf_27 2 rfl ?_
      refine g_lald (pc := 28) 8 am_8 (by omega) (by decide) dX6_bestOf_28 ?_
      refine g_topJ (loS_8 τ s (i := bestTo (spow τ s) (i - 1).toNat) (by omega)) ?_
      refine g_lcmp_le (pc := 29) 37 dX6_bestOf_29 dX6_bestOf_30 (by decide) (by omega) (by omega) (fun h_2 => ?_) (fun h_2 => ?_)
      · refine g_iload_n (pc := 37) dX6_bestOf_37 2 rfl ?_
        refine g_istore_n (pc := 38) (lv' := [(2, .int (zI (bestTo (spow τ s) (i - 1).toNat))), (0, .ref (bd 0)), (1, .int (zI s)), (3, .int (zI i))]) dX6_bestOf_38 (by decide) rfl ?_
        refine g_iinc (pc := 39) (lv' := [(3, .int (zI (i + 1))), (2, .int (zI (bestTo (spow τ s) (i - 1).toNat))), (0, .ref (bd 0)), (1, .int (zI s))]) dX6_bestOf_39 (by decide) 3 rfl rfl ?_
        refine g_goto (pc := 42) 9 dX6_bestOf_42 (by decide) ?_
        refine g_sub (lv' := [(0, .ref (bd 0)), (1, .int (zI s)), (2, .int (zI (bestTo (spow τ s) (i - 1).toNat))), (3, .int (zI (i + 1)))]) [2, 3, 1, 0] rfl ?_
        refine g_lv (lv' := [(0, .ref (bd 0)), (1, .int (zI s)), (2, .int (zI (bestTo (spow τ s) (i + 1 - 1).toNat))), (3, .int (zI (i + 1)))]) (by rw [show (i + 1 - 1).toNat = i.toNat by omega, bestTo_s _ hi, if_neg (by omega)]) ?_
        exact ih (i + 1) (by omega) (by omega) (by omega)
      · refine g_iload_n (pc := 33) dX6_bestOf_33 3 rfl ?_
        refine g_goto (pc := 34) 38 dX6_bestOf_34 (by decide) ?_
        refine g_istore_n (pc := 38) (lv' := [(2, .int (zI i)), (0, .ref (bd 0)), (1, .int (zI s)), (3, .int (zI i))]) dX6_bestOf_38 (by decide) rfl ?_
        refine g_iinc (pc := 39) (lv' := [(3, .int (zI (i + 1))), (2, .int (zI i)), (0, .ref (bd 0)), (1, .int (zI s))]) dX6_bestOf_39 (by decide) 3 rfl rfl ?_
        refine g_goto (pc := 42) 9 dX6_bestOf_42 (by decide) ?_
        refine g_sub (lv' := [(0, .ref (bd 0)), (1, .int (zI s)), (2, .int (zI i)), (3, .int (zI (i + 1)))]) [2, 3, 1, 0] rfl ?_
        refine g_lv (lv' := [(0, .ref (bd 0)), (1, .int (zI s)), (2, .int (zI (bestTo (spow τ s) (i + 1 - 1).toNat))), (3, .int (zI (i + 1)))]) (by rw [show (i + 1 - 1).toNat = i.toNat by omega, bestTo_s _ hi, if_pos (by omega)]) ?_
        exact ih (i + 1) (by omega) (by omega) (by omega)
set_option maxRecDepth 100000 in
set_option maxHeartbeats 2000000 in
/-- PvArrayModel.bestOf  -/
theorem c_X6_bestOf {D : va_G} {cy : Nat → ClassId} {l : Launch} {bd : Nat → Nat} {τ : Nat → Int → Int} {X : va_W} (hB : Bd τ) (s : Int) (hs : 0 ≤ s ∧ s < 6) : Con D cy l yX6_bestOf cX6_bestOf 4 (some .int) rm_X6_bestOf [.ref (bd 0), .int (zI s)] (MW cy bd τ ++ X) (rdI (bestC τ s) (MW cy bd (loS τ s) ++ X)) := by
  refine Con.of (lv := [(0, .ref (bd 0)), (1, .int (zI s))]) (by decide) (Nat.le_of_ble_eq_true rfl) rfl ?_
  have g3 := limit_b hB s
  refine g_aload_n (pc := 0) dX6_bestOf_0 0 rfl ?_
  refine g_iload_n (pc := 1) dX6_bestOf_1 1 rfl ?_
  refine g_callV (pc := 2) (As := [.int (zI s)]) (rest := []) k_X6_113_X6 (c_X6_layOut (τ := τ) hB s (by omega)) ⟨rfl, rfl, Nat.le_of_ble_eq_true rfl, Nat.le_of_ble_eq_true rfl⟩ (0) 5 rfl rfl am_obj rfl rfl (Nat.le_of_ble_eq_true rfl) dX6_bestOf_2 (fun v_ w_ hq_ => ?_)
  obtain ⟨rfl, rfl⟩ := hq_
  refine g_none ?_
  refine g_iconst (pc := 5) dX6_bestOf_5 ?_
  refine g_istore_n (pc := 6) (lv' := [(2, .int (zI 0)), (0, .ref (bd 0)), (1, .int (zI s))]) dX6_bestOf_6 (by decide) rfl ?_
  refine g_iconst (pc := 7) dX6_bestOf_7 ?_
  refine g_istore_n (pc := 8) (lv' := [(3, .int (zI 1)), (2, .int (zI 0)), (0, .ref (bd 0)), (1, .int (zI s))]) dX6_bestOf_8 (by decide) rfl ?_
  refine g_sub (lv' := [(0, .ref (bd 0)), (1, .int (zI s)), (2, .int (zI 0)), (3, .int (zI 1))]) [2, 3, 1, 0] rfl ?_
  exact lp_X6_bestOf hB s hs ((limit τ s).toNat + 2) 1 (by omega) (by omega) (by omega)
set_option maxRecDepth 100000 in
set_option maxHeartbeats 2000000 in
/-- PvArrayModel.bestPowerOf  -/
theorem c_X6_bestPowerOf {D : va_G} {cy : Nat → ClassId} {l : Launch} {bd : Nat → Nat} {τ : Nat → Int → Int} {X : va_W} (hB : Bd τ) (s : Int) (hs : 0 ≤ s ∧ s < 6) : Con D cy l yX6_bestPowerOf cX6_bestPowerOf 2 (some .long) rm_X6_bestPowerOf [.ref (bd 0), .int (zI s)] (MW cy bd τ ++ X) (rdJ (bestP τ s) (MW cy bd (loS τ s) ++ X)) := by
  refine Con.of (lv := [(0, .ref (bd 0)), (1, .int (zI s))]) (by decide) (Nat.le_of_ble_eq_true rfl) rfl ?_
  have g3 := limit_b hB s
  have g4 : 0 ≤ bestC τ s ∧ bestC τ s ≤ limit τ s := bestTo_b (spow τ s) g3.1
  refine g_aload_n (pc := 0) dX6_bestPowerOf_0 0 rfl ?_
  refine g_get (pc := 1) (ci := 5) inG_X6 rfl 11 (by decide) rfl fl_X6_32 (0) am_obj rfl dX6_bestPowerOf_1 ?_
  refine g_aload_n (pc := 4) dX6_bestPowerOf_4 0 rfl ?_
  refine g_iload_n (pc := 5) dX6_bestPowerOf_5 1 rfl ?_
  refine g_callV (pc := 6) (As := [.int (zI s)]) (rest := [.ref (bd 8)]) k_X6_119_X6 (c_X6_bestOf (τ := τ) hB s (by omega)) ⟨rfl, rfl, Nat.le_of_ble_eq_true rfl, Nat.le_of_ble_eq_true rfl⟩ (0) 5 rfl rfl am_obj rfl rfl (Nat.le_of_ble_eq_true rfl) dX6_bestPowerOf_6 (fun v_ w_ hq_ => ?_)
  obtain ⟨rfl, rfl⟩ := hq_
  refine g_one ?_
  refine g_lald (pc := 9) 8 am_8 (by omega) (by decide) dX6_bestPowerOf_9 ?_
  refine g_topJ (loS_8 τ s (i := bestC τ s) (by omega)) ?_
  exact g_lret (pc := 10) dX6_bestPowerOf_10 rfl (⟨rfl, rfl⟩)
set_option maxRecDepth 100000 in
set_option maxHeartbeats 2000000 in
/-- PvArrayModel.bestCurrent  -/
theorem c_X6_bestCurrent {D : va_G} {cy : Nat → ClassId} {l : Launch} {bd : Nat → Nat} {τ : Nat → Int → Int} {X : va_W} (hB : Bd τ) (s : Int) (hs : -2147483648 ≤ s ∧ s ≤ 2147483647) : Con D cy l yX6_bestCurrent cX6_bestCurrent 2 (some .int) rm_X6_bestCurrent [.ref (bd 0), .int (zI s)] (MW cy bd τ ++ X) (sxI τ (a_bestCurrent τ s) cy bd X) := by
  refine Con.of (lv := [(0, .ref (bd 0)), (1, .int (zI s))]) (by decide) (Nat.le_of_ble_eq_true rfl) rfl ?_
  have g1 := hB.sc
  have g2 := hB.mc
  refine g_aload_n (pc := 0) dX6_bestCurrent_0 0 rfl ?_
  refine g_iload_n (pc := 1) dX6_bestCurrent_1 1 rfl ?_
  refine g_callV (pc := 2) (As := [.int (zI s)]) (rest := []) k_X6_62_X6 (c_X6_isString (τ := τ) hB s (by omega)) ⟨rfl, rfl, Nat.le_of_ble_eq_true rfl, Nat.le_of_ble_eq_true rfl⟩ (0) 5 rfl rfl am_obj rfl rfl (Nat.le_of_ble_eq_true rfl) dX6_bestCurrent_2 (fun v_ w_ hq_ => ?_)
  rcases hq_ with ⟨rfl, rfl, hs_1⟩ | ⟨rfl, rfl, hs_1⟩
  · refine g_one ?_
    refine g_if_eqF (pc := 5) 16 dX6_bestCurrent_5 (by decide) (by omega) (by omega) ?_
    refine g_aload_n (pc := 8) dX6_bestCurrent_8 0 rfl ?_
    refine g_iload_n (pc := 9) dX6_bestCurrent_9 1 rfl ?_
    refine g_callV (pc := 10) (As := [.int (zI s)]) (rest := []) k_X6_119_X6 (c_X6_bestOf (τ := τ) hB s (by omega)) ⟨rfl, rfl, Nat.le_of_ble_eq_true rfl, Nat.le_of_ble_eq_true rfl⟩ (0) 5 rfl rfl am_obj rfl rfl (Nat.le_of_ble_eq_true rfl) dX6_bestCurrent_10 (fun v_ w_ hq_ => ?_)
    obtain ⟨rfl, rfl⟩ := hq_
    refine g_one ?_
    refine g_goto (pc := 13) 19 dX6_bestCurrent_13 (by decide) ?_
    exact g_iret (pc := 19) dX6_bestCurrent_19 rfl (sxI_of (by unfold a_bestCurrent; (repeat' split) <;> first | rfl | (exfalso; omega)) (loP_Sx τ s _))
  · refine g_one ?_
    refine g_if_eqT (pc := 5) 16 dX6_bestCurrent_5 (by decide) (by omega) (by omega) ?_
    refine g_sipush (pc := 16) dX6_bestCurrent_16 (by omega) ?_
    exact g_iret (pc := 19) dX6_bestCurrent_19 rfl (sxI_of (by unfold a_bestCurrent; (repeat' split) <;> first | rfl | (exfalso; omega)) (Sx.rf τ))
set_option maxRecDepth 100000 in
set_option maxHeartbeats 2000000 in
/-- PvArrayModel.bestPower  -/
theorem c_X6_bestPower {D : va_G} {cy : Nat → ClassId} {l : Launch} {bd : Nat → Nat} {τ : Nat → Int → Int} {X : va_W} (hB : Bd τ) (s : Int) (hs : -2147483648 ≤ s ∧ s ≤ 2147483647) : Con D cy l yX6_bestPower cX6_bestPower 2 (some .long) rm_X6_bestPower [.ref (bd 0), .int (zI s)] (MW cy bd τ ++ X) (sxJ τ (a_bestPower τ s) cy bd X) := by
  refine Con.of (lv := [(0, .ref (bd 0)), (1, .int (zI s))]) (by decide) (Nat.le_of_ble_eq_true rfl) rfl ?_
  have g1 := hB.sc
  have g2 := hB.mc
  refine g_aload_n (pc := 0) dX6_bestPower_0 0 rfl ?_
  refine g_iload_n (pc := 1) dX6_bestPower_1 1 rfl ?_
  refine g_callV (pc := 2) (As := [.int (zI s)]) (rest := []) k_X6_62_X6 (c_X6_isString (τ := τ) hB s (by omega)) ⟨rfl, rfl, Nat.le_of_ble_eq_true rfl, Nat.le_of_ble_eq_true rfl⟩ (0) 5 rfl rfl am_obj rfl rfl (Nat.le_of_ble_eq_true rfl) dX6_bestPower_2 (fun v_ w_ hq_ => ?_)
  rcases hq_ with ⟨rfl, rfl, hs_1⟩ | ⟨rfl, rfl, hs_1⟩
  · refine g_one ?_
    refine g_if_eqF (pc := 5) 16 dX6_bestPower_5 (by decide) (by omega) (by omega) ?_
    refine g_aload_n (pc := 8) dX6_bestPower_8 0 rfl ?_
    refine g_iload_n (pc := 9) dX6_bestPower_9 1 rfl ?_
    refine g_callV (pc := 10) (As := [.int (zI s)]) (rest := []) k_X6_122_X6 (c_X6_bestPowerOf (τ := τ) hB s (by omega)) ⟨rfl, rfl, Nat.le_of_ble_eq_true rfl, Nat.le_of_ble_eq_true rfl⟩ (0) 5 rfl rfl am_obj rfl rfl (Nat.le_of_ble_eq_true rfl) dX6_bestPower_10 (fun v_ w_ hq_ => ?_)
    obtain ⟨rfl, rfl⟩ := hq_
    refine g_one ?_
    refine g_goto (pc := 13) 19 dX6_bestPower_13 (by decide) ?_
    exact g_lret (pc := 19) dX6_bestPower_19 rfl (sxJ_of (by unfold a_bestPower; (repeat' split) <;> first | rfl | (exfalso; omega)) (loP_Sx τ s _))
  · refine g_one ?_
    refine g_if_eqT (pc := 5) 16 dX6_bestPower_5 (by decide) (by omega) (by omega) ?_
    refine g_ldc2 (pc := 16) cl_X6_98 dX6_bestPower_16 ?_
    exact g_lret (pc := 19) dX6_bestPower_19 rfl (sxJ_of (by unfold a_bestPower; (repeat' split) <;> first | rfl | (exfalso; omega)) (Sx.rf τ))
