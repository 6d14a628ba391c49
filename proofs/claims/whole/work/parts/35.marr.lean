theorem dl_next {V : Int → Int} {i L v : Int} (h : ∀ j, i < j → j ≤ L → V j < v ∨ 7200 < v) (hi : V i < v ∨ 7200 < v) : ∀ j, i - 1 < j → j ≤ L → V j < v ∨ 7200 < v := by
  intro j q1 q2
  by_cases q : j = i
  · subst q; exact hi
  · exact h j (by omega) q2
set_option maxRecDepth 100000 in
set_option maxHeartbeats 2000000 in
/-- PvArrayModel.addDelivered, the loop at 27  -/
theorem lp_X6_addI {D : va_G} {cy : Nat → ClassId} {l : Launch} {bd : Nat → Nat} {τ : Nat → Int → Int} {X : va_W} (hB : Bd τ) (s : Int) (hs : 0 ≤ s ∧ s < 6) (i : Int) (hi : 0 ≤ i ∧ i ≤ limit τ s) (kk : ∀ v, 0 ≤ v → v ≤ 7201 → (∀ j, i - 1 < j → j ≤ limit τ s → svolt τ s j < v ∨ 7200 < v) → GO D cy l rm_X6_addDelivered cX6_addDelivered 5 yX6_addDelivered.cls none (MW cy bd τ ++ X) (wv (MW cy bd (setR τ 9 (dvR τ s (τ 9) 7201)) ++ X)) (MW cy bd (setR τ 9 (dvR τ s (τ 9) v)) ++ X) 8 [(0, .ref (bd 0)), (1, .int (zI s)), (2, .int (zI (i - 1))), (3, .int (zI v))] []) : ∀ (n : Nat) (v : Int), 0 ≤ v → v ≤ 7201 → (∀ j, i < j → j ≤ limit τ s → svolt τ s j < v ∨ 7200 < v) → (7201 - v).toNat < n → GO D cy l rm_X6_addDelivered cX6_addDelivered 5 yX6_addDelivered.cls none (MW cy bd τ ++ X) (wv (MW cy bd (setR τ 9 (dvR τ s (τ 9) 7201)) ++ X)) (MW cy bd (setR τ 9 (dvR τ s (τ 9) v)) ++ X) 27 [(0, .ref (bd 0)), (1, .int (zI s)), (2, .int (zI i)), (3, .int (zI v)), (4, .int (zI (svolt τ s i)))] [] := by
  intro n
  induction n with
  | zero =>
    intro v hv hv2 hj hn
    exact absurd hn (Nat.not_lt_zero _)
  | succ n ih =>
    intro v hv hv2 hj hn
    have g3 := limit_b hB s
    have g4 := svolt_b hB s hi.1
    refine g_iload_n (pc := 27) dX6_addDelivered_27 3 rfl ?_
    refine g_iload (pc := 28) dX6_addDelivered_28 4 rfl ?_
    refine g_icmp_gt (pc := 30) 56 dX6_addDelivered_30 (by decide) (by omega) (by omega) (fun h_1 => ?_) (fun h_1 => ?_)
    · refine g_iinc (pc := 56) (lv' := [(2, .int (zI (i + (-1)))), (0, .ref (bd 0)), (1, .int (zI s)), (3, .int (zI v)), (4, .int (zI (svolt τ s i)))]) dX6_addDelivered_56 (by decide) 2 rfl rfl ?_
      refine g_goto (pc := 59) 8 dX6_addDelivered_59 (by decide) ?_
      refine g_sub (lv' := [(0, .ref (bd 0)), (1, .int (zI s)), (2, .int (zI (i + (-1)))), (3, .int (zI v))]) [1, 2, 0, 3] rfl ?_
      refine g_lv (lv' := [(0, .ref (bd 0)), (1, .int (zI s)), (2, .int (zI (i - 1))), (3, .int (zI v))]) (by rw [show i + (-1) = i - 1 by omega]) ?_
      exact kk v hv hv2 (dl_next hj (by omega))
    · refine g_iload_n (pc := 33) dX6_addDelivered_33 3 rfl ?_
      refine g_sipush (pc := 34) dX6_addDelivered_34 (by omega) ?_
      refine g_icmp_gt (pc := 37) 56 dX6_addDelivered_37 (by decide) (by omega) (by omega) (fun h_2 => ?_) (fun h_2 => ?_)
      · refine g_iinc (pc := 56) (lv' := [(2, .int (zI (i + (-1)))), (0, .ref (bd 0)), (1, .int (zI s)), (3, .int (zI v)), (4, .int (zI (svolt τ s i)))]) dX6_addDelivered_56 (by decide) 2 rfl rfl ?_
        refine g_goto (pc := 59) 8 dX6_addDelivered_59 (by decide) ?_
        refine g_sub (lv' := [(0, .ref (bd 0)), (1, .int (zI s)), (2, .int (zI (i + (-1)))), (3, .int (zI v))]) [1, 2, 0, 3] rfl ?_
        refine g_lv (lv' := [(0, .ref (bd 0)), (1, .int (zI s)), (2, .int (zI (i - 1))), (3, .int (zI v))]) (by rw [show i + (-1) = i - 1 by omega]) ?_
        exact kk v hv hv2 (dl_next hj (by omega))
      · refine g_aload_n (pc := 40) dX6_addDelivered_40 0 rfl ?_
        refine g_get (pc := 41) (ci := 5) inG_X6 rfl 12 (by decide) rfl fl_X6_36 (0) am_obj rfl dX6_addDelivered_41 ?_
        refine g_iload_n (pc := 44) dX6_addDelivered_44 3 rfl ?_
        refine g_dup2 (pc := 45) dX6_addDelivered_45 rfl rfl ?_
        refine g_iald (pc := 46) 9 am_9 (by omega) (by decide) dX6_addDelivered_46 ?_
        refine g_topI (show (setR τ 9 (dvR τ s (τ 9) v)) 9 v = τ 9 v from dvR_at _ _ _ _) ?_
        refine g_iload_n (pc := 47) dX6_addDelivered_47 2 rfl ?_
        refine g_iadd (pc := 48) dX6_addDelivered_48 ?_
        refine g_iast (pc := 49) 9 am_9 (by omega) (by decide) sm_9 dX6_addDelivered_49 ?_
        refine g_iinc (pc := 50) (lv' := [(3, .int (zI (v + 1))), (0, .ref (bd 0)), (1, .int (zI s)), (2, .int (zI i)), (4, .int (zI (svolt τ s i)))]) dX6_addDelivered_50 (by decide) 3 rfl rfl ?_
        refine g_goto (pc := 53) 27 dX6_addDelivered_53 (by decide) ?_
        refine g_sub (lv' := [(0, .ref (bd 0)), (1, .int (zI s)), (2, .int (zI i)), (3, .int (zI (v + 1))), (4, .int (zI (svolt τ s i)))]) [1, 2, 3, 0, 4] rfl ?_
        have e9 : dlv τ s v = i := dlvT_eq _ hi.1 (by omega) (Or.inr (by omega)) (fun j q1 q2 => by have := hj j q1 (by omega); omega)
        refine g_world (w' := MW cy bd (setR τ 9 (dvR τ s (τ 9) (v + 1))) ++ X) (by rw [dvR_s _ _ _ hv, setR_put, e9]) ?_
        exact ih (v + 1) (by omega) (by omega) (fun j q1 q2 => by have := hj j q1 q2; omega) (by omega)
set_option maxRecDepth 100000 in
set_option maxHeartbeats 2000000 in
/-- PvArrayModel.addDelivered, the loop at 8  -/
theorem lp_X6_addO {D : va_G} {cy : Nat → ClassId} {l : Launch} {bd : Nat → Nat} {τ : Nat → Int → Int} {X : va_W} (hB : Bd τ) (s : Int) (hs : 0 ≤ s ∧ s < 6) : ∀ (n : Nat) (i v : Int), -1 ≤ i → i ≤ limit τ s → 0 ≤ v → v ≤ 7201 → (∀ j, i < j → j ≤ limit τ s → svolt τ s j < v ∨ 7200 < v) → (i + 1).toNat < n → GO D cy l rm_X6_addDelivered cX6_addDelivered 5 yX6_addDelivered.cls none (MW cy bd τ ++ X) (wv (MW cy bd (setR τ 9 (dvR τ s (τ 9) 7201)) ++ X)) (MW cy bd (setR τ 9 (dvR τ s (τ 9) v)) ++ X) 8 [(0, .ref (bd 0)), (1, .int (zI s)), (2, .int (zI i)), (3, .int (zI v))] [] := by
  intro n
  induction n with
  | zero =>
    intro i v hi hi2 hv hv2 hj hn
    exact absurd hn (Nat.not_lt_zero _)
  | succ n ih =>
    intro i v hi hi2 hv hv2 hj hn
    have g3 := limit_b hB s
    refine g_iload_n (pc := 8) dX6_addDelivered_8 2 rfl ?_
    refine g_if_lt (pc := 9) 62 dX6_addDelivered_9 (by decide) (by omega) (fun h_1 => ?_) (fun h_1 => ?_)
    · exact g_vret (pc := 62) dX6_addDelivered_62 rfl (wvm_of (by rw [dvR_end hB _ hv (fun q j q1 q2 => by have := hj j (by omega) q2; omega) hv2]))
    · refine g_iload_n (pc := 12) dX6_addDelivered_12 3 rfl ?_
      refine g_sipush (pc := 13) dX6_addDelivered_13 (by omega) ?_
      refine g_icmp_gt (pc := 16) 62 dX6_addDelivered_16 (by decide) (by omega) (by omega) (fun h_2 => ?_) (fun h_2 => ?_)
      · exact g_vret (pc := 62) dX6_addDelivered_62 rfl (wvm_of (by rw [dvR_end hB _ hv (fun q j q1 q2 => by have := hj j (by omega) q2; omega) hv2]))
      · refine g_aload_n (pc := 19) dX6_addDelivered_19 0 rfl ?_
        refine g_iload_n (pc := 20) dX6_addDelivered_20 1 rfl ?_
        refine g_iload_n (pc := 21) dX6_addDelivered_21 2 rfl ?_
        refine g_callV (pc := 22) (As := [.int (zI s), .int (zI i)]) (rest := []) k_X6_100_X6 (c_X6_voltageAt (τ := (setR τ 9 (dvR τ s (τ 9) v))) ((set9_Sx τ _).Bd hB) s (by omega) i (by omega)) ⟨rfl, rfl, Nat.le_of_ble_eq_true rfl, Nat.le_of_ble_eq_true rfl⟩ (0) 5 rfl rfl am_obj rfl rfl (Nat.le_of_ble_eq_true rfl) dX6_addDelivered_22 (fun v_ w_ hq_ => ?_)
        obtain ⟨rfl, rfl⟩ := hq_
        refine g_one ?_
        refine g_topI (congrFun (Sm_svolt (set9_Sx τ _).Sm s) i) ?_
        refine g_istore (pc := 25) (lv' := [(4, .int (zI (svolt τ s i))), (0, .ref (bd 0)), (1, .int (zI s)), (2, .int (zI i)), (3, .int (zI v))]) dX6_addDelivered_25 (by decide) rfl ?_
        refine g_sub (lv' := [(0, .ref (bd 0)), (1, .int (zI s)), (2, .int (zI i)), (3, .int (zI v)), (4, .int (zI (svolt τ s i)))]) [1, 2, 3, 4, 0] rfl ?_
        exact lp_X6_addI hB s hs i (by omega) (fun v q1 q2 q3 => ih (i - 1) v (by omega) (by omega) q1 q2 q3 (by omega)) (7201 - v).toNat.succ v (by omega) (by omega) hj (Nat.lt_succ_self _)
set_option maxRecDepth 100000 in
set_option maxHeartbeats 2000000 in
/-- PvArrayModel.addDelivered  -/
theorem c_X6_addDelivered {D : va_G} {cy : Nat → ClassId} {l : Launch} {bd : Nat → Nat} {τ : Nat → Int → Int} {X : va_W} (hB : Bd τ) (s : Int) (hs : 0 ≤ s ∧ s < 6) : Con D cy l yX6_addDelivered cX6_addDelivered 5 none rm_X6_addDelivered [.ref (bd 0), .int (zI s)] (MW cy bd τ ++ X) (wv (MW cy bd (setR τ 9 (dvR τ s (τ 9) 7201)) ++ X)) := by
  refine Con.of (lv := [(0, .ref (bd 0)), (1, .int (zI s))]) (by decide) (Nat.le_of_ble_eq_true rfl) rfl ?_
  have g3 := limit_b hB s
  refine g_aload_n (pc := 0) dX6_addDelivered_0 0 rfl ?_
  refine g_iload_n (pc := 1) dX6_addDelivered_1 1 rfl ?_
  refine g_callV (pc := 2) (As := [.int (zI s)]) (rest := []) k_X6_103_X6 (c_X6_limitOf (τ := τ) hB s (by omega)) ⟨rfl, rfl, Nat.le_of_ble_eq_true rfl, Nat.le_of_ble_eq_true rfl⟩ (0) 5 rfl rfl am_obj rfl rfl (Nat.le_of_ble_eq_true rfl) dX6_addDelivered_2 (fun v_ w_ hq_ => ?_)
  obtain ⟨rfl, rfl⟩ := hq_
  refine g_one ?_
  refine g_istore_n (pc := 5) (lv' := [(2, .int (zI (limit τ s))), (0, .ref (bd 0)), (1, .int (zI s))]) dX6_addDelivered_5 (by decide) rfl ?_
  refine g_iconst (pc := 6) dX6_addDelivered_6 ?_
  refine g_istore_n (pc := 7) (lv' := [(3, .int (zI 0)), (2, .int (zI (limit τ s))), (0, .ref (bd 0)), (1, .int (zI s))]) dX6_addDelivered_7 (by decide) rfl ?_
  refine g_sub (lv' := [(0, .ref (bd 0)), (1, .int (zI s)), (2, .int (zI (limit τ s))), (3, .int (zI 0))]) [2, 3, 1, 0] rfl ?_
  refine g_world (w' := MW cy bd (setR τ 9 (dvR τ s (τ 9) 0)) ++ X) (by rw [dvR_0, setR_id]) ?_
  exact lp_X6_addO hB s hs ((limit τ s + 1).toNat + 1) (limit τ s) 0 (by omega) (by omega) (by omega) (by omega) (fun j q1 q2 => absurd q1 (by omega)) (by omega)
theorem setR_setR (σ : Nat → Int → Int) (f : Nat) (r t : Int → Int) : setR (setR σ f r) f t = setR σ f t := by
  funext g
  by_cases h : g = f
  · subst h; rw [setR_s, setR_s]
  · rw [setR_o _ _ h, setR_o _ _ h, setR_o _ _ h]
theorem la_step (τ : Nat → Int → Int) {k : Int} (hk : 0 ≤ k) : setR (setR τ 9 (laR τ k)) 9 (dvR (setR τ 9 (laR τ k)) k (setR τ 9 (laR τ k) 9) 7201) = setR τ 9 (laR τ (k + 1)) := by
  rw [setR_setR, setR_s, laR_s _ hk]
set_option maxRecDepth 100000 in
set_option maxHeartbeats 2000000 in
/-- PvArrayModel.layOutArray, the loop at 24  -/
theorem lp_X6_lay2 {D : va_G} {cy : Nat → ClassId} {l : Launch} {bd : Nat → Nat} {τ : Nat → Int → Int} {X : va_W} (hB : Bd τ) : ∀ (n : Nat) (k : Int), 0 ≤ k → k ≤ τ 0 2 → (τ 0 2 - k).toNat < n → GO D cy l rm_X6_layOutArray cX6_layOutArray 2 yX6_layOutArray.cls none (MW cy bd τ ++ X) (wv (MW cy bd (setR τ 9 (laR τ (τ 0 2))) ++ X)) (MW cy bd (setR τ 9 (laR τ k)) ++ X) 24 [(0, .ref (bd 0)), (1, .int (zI k))] [] := by
  intro n
  induction n with
  | zero =>
    intro k hk hk2 hn
    exact absurd hn (Nat.not_lt_zero _)
  | succ n ih =>
    intro k hk hk2 hn
    have g1 := hB.sc
    have g2 := hB.mc
    refine g_iload_n (pc := 24) dX6_layOutArray_24 1 rfl ?_
    refine g_aload_n (pc := 25) dX6_layOutArray_25 0 rfl ?_
    refine g_get (pc := 26) (ci := 5) inG_X6 rfl 7 (by decide) rfl fl_X6_59 (0) am_obj rfl dX6_layOutArray_26 ?_
    refine g_topI (show (setR τ 9 (laR τ k)) 0 2 = τ 0 2 from rfl) ?_
    refine g_icmp_ge (pc := 29) 43 dX6_layOutArray_29 (by decide) (by omega) (by omega) (fun h_1 => ?_) (fun h_1 => ?_)
    · exact g_vret (pc := 43) dX6_layOutArray_43 rfl (wvm_of (by rw [show k = τ 0 2 by omega]))
    · refine g_aload_n (pc := 32) dX6_layOutArray_32 0 rfl ?_
      refine g_iload_n (pc := 33) dX6_layOutArray_33 1 rfl ?_
      refine g_callV (pc := 34) (As := [.int (zI k)]) (rest := []) k_X6_125_X6 (c_X6_addDelivered (τ := (setR τ 9 (laR τ k))) ((set9_Sx τ _).Bd hB) k (by omega)) ⟨rfl, rfl, Nat.le_of_ble_eq_true rfl, Nat.le_of_ble_eq_true rfl⟩ (0) 5 rfl rfl am_obj rfl rfl (Nat.le_of_ble_eq_true rfl) dX6_layOutArray_34 (fun v_ w_ hq_ => ?_)
      obtain ⟨rfl, rfl⟩ := hq_
      refine g_none ?_
      refine g_iinc (pc := 37) (lv' := [(1, .int (zI (k + 1))), (0, .ref (bd 0))]) dX6_layOutArray_37 (by decide) 1 rfl rfl ?_
      refine g_goto (pc := 40) 24 dX6_layOutArray_40 (by decide) ?_
      refine g_sub (lv' := [(0, .ref (bd 0)), (1, .int (zI (k + 1)))]) [1, 0] rfl ?_
      refine g_world (w' := MW cy bd (setR τ 9 (laR τ (k + 1))) ++ X) (by rw [la_step _ hk]) ?_
      exact ih (k + 1) (by omega) (by omega) (by omega)
set_option maxRecDepth 100000 in
set_option maxHeartbeats 2000000 in
/-- PvArrayModel.layOutArray, the loop at 2  -/
theorem lp_X6_lay1 {D : va_G} {cy : Nat → ClassId} {l : Launch} {bd : Nat → Nat} {τ : Nat → Int → Int} {X : va_W} (hB : Bd τ) : ∀ (n : Nat) (k : Int), 0 ≤ k → k ≤ 7201 → (7201 - k).toNat < n → GO D cy l rm_X6_layOutArray cX6_layOutArray 2 yX6_layOutArray.cls none (MW cy bd τ ++ X) (wv (MW cy bd (setR τ 9 (laR τ (τ 0 2))) ++ X)) (MW cy bd (setR τ 9 (zeR τ k)) ++ X) 2 [(0, .ref (bd 0)), (1, .int (zI k))] [] := by
  intro n
  induction n with
  | zero =>
    intro k hk hk2 hn
    exact absurd hn (Nat.not_lt_zero _)
  | succ n ih =>
    intro k hk hk2 hn
    have g1 := hB.sc
    have g2 := hB.mc
    refine g_iload_n (pc := 2) dX6_layOutArray_2 1 rfl ?_
    refine g_sipush (pc := 3) dX6_layOutArray_3 (by omega) ?_
    refine g_icmp_gt (pc := 6) 22 dX6_layOutArray_6 (by decide) (by omega) (by omega) (fun h_1 => ?_) (fun h_1 => ?_)
    · refine g_iconst (pc := 22) dX6_layOutArray_22 ?_
      refine g_istore_n (pc := 23) (lv' := [(1, .int (zI 0)), (0, .ref (bd 0))]) dX6_layOutArray_23 (by decide) rfl ?_
      refine g_sub (lv' := [(0, .ref (bd 0)), (1, .int (zI 0))]) [1, 0] rfl ?_
      refine g_world (w' := MW cy bd (setR τ 9 (laR τ 0)) ++ X) (by rw [← laR_0, show k = 7201 by omega]) ?_
      exact lp_X6_lay2 hB ((τ 0 2).toNat + 1) 0 (by omega) (by omega) (by omega)
    · refine g_aload_n (pc := 9) dX6_layOutArray_9 0 rfl ?_
      refine g_get (pc := 10) (ci := 5) inG_X6 rfl 12 (by decide) rfl fl_X6_36 (0) am_obj rfl dX6_layOutArray_10 ?_
      refine g_iload_n (pc := 13) dX6_layOutArray_13 1 rfl ?_
      refine g_iconst (pc := 14) dX6_layOutArray_14 ?_
      refine g_iast (pc := 15) 9 am_9 (by omega) (by decide) sm_9 dX6_layOutArray_15 ?_
      refine g_iinc (pc := 16) (lv' := [(1, .int (zI (k + 1))), (0, .ref (bd 0))]) dX6_layOutArray_16 (by decide) 1 rfl rfl ?_
      refine g_goto (pc := 19) 2 dX6_layOutArray_19 (by decide) ?_
      refine g_sub (lv' := [(0, .ref (bd 0)), (1, .int (zI (k + 1)))]) [1, 0] rfl ?_
      refine g_world (w' := MW cy bd (setR τ 9 (zeR τ (k + 1))) ++ X) (by rw [setR_put, zeR_s _ hk]) ?_
      exact ih (k + 1) (by omega) (by omega) (by omega)
set_option maxRecDepth 100000 in
set_option maxHeartbeats 2000000 in
/-- PvArrayModel.layOutArray  -/
theorem c_X6_layOutArray {D : va_G} {cy : Nat → ClassId} {l : Launch} {bd : Nat → Nat} {τ : Nat → Int → Int} {X : va_W} (hB : Bd τ) : Con D cy l yX6_layOutArray cX6_layOutArray 2 none rm_X6_layOutArray [.ref (bd 0)] (MW cy bd τ ++ X) (wv (MW cy bd (setR τ 9 (laR τ (τ 0 2))) ++ X)) := by
  refine Con.of (lv := [(0, .ref (bd 0))]) (by decide) (Nat.le_of_ble_eq_true rfl) rfl ?_
  have g1 := hB.sc
  have g2 := hB.mc
  refine g_iconst (pc := 0) dX6_layOutArray_0 ?_
  refine g_istore_n (pc := 1) (lv' := [(1, .int (zI 0)), (0, .ref (bd 0))]) dX6_layOutArray_1 (by decide) rfl ?_
  refine g_sub (lv' := [(0, .ref (bd 0)), (1, .int (zI 0))]) [1, 0] rfl ?_
  refine g_world (w' := MW cy bd (setR τ 9 (zeR τ 0)) ++ X) (by rw [zeR_0, setR_id]) ?_
  exact lp_X6_lay1 hB 7202 0 (by omega) (by omega) (by omega)
theorem laR_at (τ : Nat → Int → Int) {v : Int} (h : 0 ≤ v ∧ v ≤ 7200) : setR τ 9 (laR τ (τ 0 2)) 9 v = acur τ v := if_pos h
set_option maxRecDepth 100000 in
set_option maxHeartbeats 2000000 in
/-- PvArrayModel.arrayCurrent  -/
theorem c_X6_arrayCurrent {D : va_G} {cy : Nat → ClassId} {l : Launch} {bd : Nat → Nat} {τ : Nat → Int → Int} {X : va_W} (hB : Bd τ) (v : Int) (hv : -2147483648 ≤ v ∧ v ≤ 2147483647) : Con D cy l yX6_arrayCurrent cX6_arrayCurrent 2 (some .int) rm_X6_arrayCurrent [.ref (bd 0), .int (zI v)] (MW cy bd τ ++ X) (sxI τ (a_arrayCurrent τ v) cy bd X) := by
  refine Con.of (lv := [(0, .ref (bd 0)), (1, .int (zI v))]) (by decide) (Nat.le_of_ble_eq_true rfl) rfl ?_
  have g1 := hB.sc
  have g2 := hB.mc
  refine g_iload_n (pc := 0) dX6_arrayCurrent_0 1 rfl ?_
  refine g_iconst (pc := 1) dX6_arrayCurrent_1 ?_
  refine g_sipush (pc := 2) dX6_arrayCurrent_2 (by omega) ?_
  refine g_callS (pc := 5) (As := [.int (zI v), .int (zI 0), .int (zI 7200)]) (rest := []) k_X6_55_X6 (c_X6_isBetween (τ := τ) v 0 7200 (by omega) (by omega) (by omega)) ⟨rfl, rfl, Nat.le_of_ble_eq_true rfl, Nat.le_of_ble_eq_true rfl⟩ rfl rfl (Nat.le_of_ble_eq_true rfl) dX6_arrayCurrent_5 (fun v_ w_ hq_ => ?_)
  rcases hq_ with ⟨rfl, rfl, hw_1⟩ | ⟨rfl, rfl, hw_1⟩
  · refine g_one ?_
    refine g_if_neT (pc := 8) 15 dX6_arrayCurrent_8 (by decide) (by omega) (by omega) ?_
    refine g_aload_n (pc := 15) dX6_arrayCurrent_15 0 rfl ?_
    refine g_callV (pc := 16) (As := []) (rest := []) k_X6_128_X6 (c_X6_layOutArray (τ := τ) hB) ⟨rfl, rfl, Nat.le_of_ble_eq_true rfl, Nat.le_of_ble_eq_true rfl⟩ (0) 5 rfl rfl am_obj rfl rfl (Nat.le_of_ble_eq_true rfl) dX6_arrayCurrent_16 (fun v_ w_ hq_ => ?_)
    obtain ⟨rfl, rfl⟩ := hq_
    refine g_none ?_
    refine g_aload_n (pc := 19) dX6_arrayCurrent_19 0 rfl ?_
    refine g_get (pc := 20) (ci := 5) inG_X6 rfl 12 (by decide) rfl fl_X6_36 (0) am_obj rfl dX6_arrayCurrent_20 ?_
    refine g_iload_n (pc := 23) dX6_arrayCurrent_23 1 rfl ?_
    refine g_iald (pc := 24) 9 am_9 (by omega) (by decide) dX6_arrayCurrent_24 ?_
    refine g_topI (laR_at τ (v := v) (by omega)) ?_
    exact g_iret (pc := 25) dX6_arrayCurrent_25 rfl (sxI_of (by unfold a_arrayCurrent; (repeat' split) <;> first | rfl | (exfalso; omega)) (set9_Sx τ _))
  · refine g_one ?_
    refine g_if_neF (pc := 8) 15 dX6_arrayCurrent_8 (by decide) (by omega) (by omega) ?_
    refine g_sipush (pc := 11) dX6_arrayCurrent_11 (by omega) ?_
    exact g_iret (pc := 14) dX6_arrayCurrent_14 rfl (sxI_of (by unfold a_arrayCurrent; (repeat' split) <;> first | rfl | (exfalso; omega)) (Sx.rf τ))
set_option maxRecDepth 100000 in
set_option maxHeartbeats 2000000 in
/-- PvArrayModel.bestArrayVoltage, the loop at 8  -/
theorem lp_X6_bestV {D : va_G} {cy : Nat → ClassId} {l : Launch} {bd : Nat → Nat} {τ : Nat → Int → Int} {X : va_W} (hB : Bd τ) : ∀ (n : Nat) (i : Int), 1 ≤ i → i ≤ 7201 → (7201 - i).toNat < n → GO D cy l rm_X6_bestArrayVoltage cX6_bestArrayVoltage 3 yX6_bestArrayVoltage.cls (some .int) (MW cy bd τ ++ X) (sxI τ (bestV τ) cy bd X) (MW cy bd (setR τ 9 (laR τ (τ 0 2))) ++ X) 8 [(0, .ref (bd 0)), (1, .int (zI (bestTo (apow τ) (i - 1).toNat))), (2, .int (zI i))] [] := by
  intro n
  induction n with
  | zero =>
    intro i hi hi2 hn
    exact absurd hn (Nat.not_lt_zero _)
  | succ n ih =>
    intro i hi hi2 hn
    have g4 := bestTo_b (apow τ) (N := i - 1) (by omega)
    have g5 : -1728000 ≤ bestTo (apow τ) (i - 1).toNat * acur τ (bestTo (apow τ) (i - 1).toNat) ∧ bestTo (apow τ) (i - 1).toNat * acur τ (bestTo (apow τ) (i - 1).toNat) ≤ 51840000 := apow_b hB (c := bestTo (apow τ) (i - 1).toNat) (by omega)
    have g7 := acur_b hB (bestTo (apow τ) (i - 1).toNat)
    have g8 := acur_b hB i
    refine g_iload_n (pc := 8) dX6_bestArrayVoltage_8 2 rfl ?_
    refine g_sipush (pc := 9) dX6_bestArrayVoltage_9 (by omega) ?_
    refine g_icmp_gt (pc := 12) 51 dX6_bestArrayVoltage_12 (by decide) (by omega) (by omega) (fun h_1 => ?_) (fun h_1 => ?_)
    · refine g_iload_n (pc := 51) dX6_bestArrayVoltage_51 1 rfl ?_
      exact g_iret (pc := 52) dX6_bestArrayVoltage_52 rfl (sxI_of (by unfold bestV; rw [show (i - 1).toNat = 7200 by omega]) (set9_Sx τ _))
    · have g6 : -1728000 ≤ i * acur τ i ∧ i * acur τ i ≤ 51840000 := apow_b hB (c := i) (by omega)
      refine g_iload_n (pc := 15) dX6_bestArrayVoltage_15 2 rfl ?_
      refine g_i2l (pc := 16) dX6_bestArrayVoltage_16 (by omega) ?_
      refine g_aload_n (pc := 17) dX6_bestArrayVoltage_17 0 rfl ?_
      refine g_get (pc := 18) (ci := 5) inG_X6 rfl 12 (by decide) rfl fl_X6_36 (0) am_obj rfl dX6_bestArrayVoltage_18 ?_
      refine g_iload_n (pc := 21) dX6_bestArrayVoltage_21 2 rfl ?_
      refine g_iald (pc := 22) 9 am_9 (by omega) (by decide) dX6_bestArrayVoltage_22 ?_
      refine g_topI (laR_at τ (v := i) (by omega)) ?_
      refine g_i2l (pc := 23) dX6_bestArrayVoltage_23 (by omega) ?_
      refine g_lmul (pc := 24) dX6_bestArrayVoltage_24 ?_
      refine g_iload_n (pc := 25) dX6_bestArrayVoltage_25 1 rfl ?_
      refine g_i2l (pc := 26) dX6_bestArrayVoltage_26 (by omega) ?_
      refine g_aload_n (pc := 27) dX6_bestArrayVoltage_27 0 rfl ?_
      refine g_get (pc := 28) (ci := 5) inG_X6 rfl 12 (by decide) rfl fl_X6_36 (0) am_obj rfl dX6_bestArrayVoltage_28 ?_
      refine g_iload_n (pc := 31) dX6_bestArrayVoltage_31 1 rfl ?_
      refine g_iald (pc := 32) 9 am_9 (by omega) (by decide) dX6_bestArrayVoltage_32 ?_
      refine g_topI (laR_at τ (v := bestTo (apow τ) (i - 1).toNat) (by omega)) ?_
      refine g_i2l (pc := 33) dX6_bestArrayVoltage_33 (by omega) ?_
      refine g_lmul (pc := 34) dX6_bestArrayVoltage_34 ?_
      refine g_lcmp_le (pc := 35) 43 dX6_bestArrayVoltage_35 dX6_bestArrayVoltage_36 (by decide) (by omega) (by omega) (fun h_2 => ?_) (fun h_2 => ?_)
      · refine g_iload_n (pc := 43) dX6_bestArrayVoltage_43 1 rfl ?_
        refine g_istore_n (pc := 44) (lv' := [(1, .int (zI (bestTo (apow τ) (i - 1).toNat))), (0, .ref (bd 0)), (2, .int (zI i))]) dX6_bestArrayVoltage_44 (by decide) rfl ?_
        refine g_iinc (pc := 45) (lv' := [(2, .int (zI (i + 1))), (1, .int (zI (bestTo (apow τ) (i - 1).toNat))), (0, .ref (bd 0))]) dX6_bestArrayVoltage_45 (by decide) 2 rfl rfl ?_
        refine g_goto (pc := 48) 8 dX6_bestArrayVoltage_48 (by decide) ?_
        refine g_sub (lv' := [(0, .ref (bd 0)), (1, .int (zI (bestTo (apow τ) (i - 1).toNat))), (2, .int (zI (i + 1)))]) [2, 1, 0] rfl ?_
        refine g_lv (lv' := [(0, .ref (bd 0)), (1, .int (zI (bestTo (apow τ) (i + 1 - 1).toNat))), (2, .int (zI (i + 1)))]) (by rw [show (i + 1 - 1).toNat = i.toNat by omega, bestTo_s _ hi, if_neg (show ¬ apow τ (bestTo (apow τ) (i - 1).toNat) < apow τ i by show ¬ bestTo (apow τ) (i - 1).toNat * acur τ (bestTo (apow τ) (i - 1).toNat) < i * acur τ i; omega)]) ?_
        exact ih (i + 1) (by omega) (by omega) (by omega)
      · refine g_iload_n (pc := 39) dX6_bestArrayVoltage_39 2 rfl ?_
        refine g_goto (pc := 40) 44 dX6_bestArrayVoltage_40 (by decide) ?_
        refine g_istore_n (pc := 44) (lv' := [(1, .int (zI i)), (0, .ref (bd 0)), (2, .int (zI i))]) dX6_bestArrayVoltage_44 (by decide) rfl ?_
        refine g_iinc (pc := 45) (lv' := [(2, .int (zI (i + 1))), (1, .int (zI i)), (0, .ref (bd 0))]) dX6_bestArrayVoltage_45 (by decide) 2 rfl rfl ?_
        refine g_goto (pc := 48) 8 dX6_bestArrayVoltage_48 (by decide) ?_
        refine g_sub (lv' := [(0, .ref (bd 0)), (1, .int (zI i)), (2, .int (zI (i + 1)))]) [2, 1, 0] rfl ?_
        refine g_lv (lv' := [(0, .ref (bd 0)), (1, .int (zI (bestTo (apow τ) (i + 1 - 1).toNat))), (2, .int (zI (i + 1)))]) (by rw [show (i + 1 - 1).toNat = i.toNat by omega, bestTo_s _ hi, if_pos (show apow τ (bestTo (apow τ) (i - 1).toNat) < apow τ i by show bestTo (apow τ) (i - 1).toNat * acur τ (bestTo (apow τ) (i - 1).toNat) < i * acur τ i; omega)]) ?_
        exact ih (i + 1) (by omega) (by omega) (by omega)
set_option maxRecDepth 100000 in
set_option maxHeartbeats 2000000 in
/-- PvArrayModel.bestArrayVoltage  -/
theorem c_X6_bestArrayVoltage {D : va_G} {cy : Nat → ClassId} {l : Launch} {bd : Nat → Nat} {τ : Nat → Int → Int} {X : va_W} (hB : Bd τ) : Con D cy l yX6_bestArrayVoltage cX6_bestArrayVoltage 3 (some .int) rm_X6_bestArrayVoltage [.ref (bd 0)] (MW cy bd τ ++ X) (sxI τ (bestV τ) cy bd X) := by
  refine Con.of (lv := [(0, .ref (bd 0))]) (by decide) (Nat.le_of_ble_eq_true rfl) rfl ?_
  refine g_aload_n (pc := 0) dX6_bestArrayVoltage_0 0 rfl ?_
  refine g_callV (pc := 1) (As := []) (rest := []) k_X6_128_X6 (c_X6_layOutArray (τ := τ) hB) ⟨rfl, rfl, Nat.le_of_ble_eq_true rfl, Nat.le_of_ble_eq_true rfl⟩ (0) 5 rfl rfl am_obj rfl rfl (Nat.le_of_ble_eq_true rfl) dX6_bestArrayVoltage_1 (fun v_ w_ hq_ => ?_)
  obtain ⟨rfl, rfl⟩ := hq_
  refine g_none ?_
  refine g_iconst (pc := 4) dX6_bestArrayVoltage_4 ?_
  refine g_istore_n (pc := 5) (lv' := [(1, .int (zI 0)), (0, .ref (bd 0))]) dX6_bestArrayVoltage_5 (by decide) rfl ?_
  refine g_iconst (pc := 6) dX6_bestArrayVoltage_6 ?_
  refine g_istore_n (pc := 7) (lv' := [(2, .int (zI 1)), (1, .int (zI 0)), (0, .ref (bd 0))]) dX6_bestArrayVoltage_7 (by decide) rfl ?_
  refine g_sub (lv' := [(0, .ref (bd 0)), (1, .int (zI 0)), (2, .int (zI 1))]) [2, 1, 0] rfl ?_
  exact lp_X6_bestV hB 7202 1 (by omega) (by omega) (by omega)
set_option maxRecDepth 100000 in
set_option maxHeartbeats 2000000 in
/-- PvArrayModel.totalNow, the loop at 4  -/
theorem lp_X6_total {D : va_G} {cy : Nat → ClassId} {l : Launch} {bd : Nat → Nat} {τ : Nat → Int → Int} {X : va_W} (hB : Bd τ) : ∀ (n : Nat) (k : Int) (ρ : Nat → Int → Int), 0 ≤ k → k ≤ τ 0 2 → Sx τ ρ → (τ 0 2 - k).toNat < n → GO D cy l rm_X6_totalNow cX6_totalNow 4 yX6_totalNow.cls (some .long) (MW cy bd τ ++ X) (sxJ τ (a_total τ) cy bd X) (MW cy bd (ρ) ++ X) 4 [(0, .ref (bd 0)), (1, .long (zJ (sumP (bestP τ) k.toNat))), (3, .int (zI k))] [] := by
  intro n
  induction n with
  | zero =>
    intro k ρ hk hk2 hx hn
    exact absurd hn (Nat.not_lt_zero _)
  | succ n ih =>
    intro k ρ hk hk2 hx hn
    have g1 := hB.sc
    have g2 := hB.mc
    refine g_iload_n (pc := 4) dX6_totalNow_4 2 rfl ?_
    refine g_aload_n (pc := 5) dX6_totalNow_5 0 rfl ?_
    refine g_get (pc := 6) (ci := 5) inG_X6 rfl 7 (by decide) rfl fl_X6_59 (0) am_obj rfl dX6_totalNow_6 ?_
    refine g_topI hx.2.2.1 ?_
    refine g_icmp_ge (pc := 9) 26 dX6_totalNow_9 (by decide) (by omega) (by omega) (fun h_1 => ?_) (fun h_1 => ?_)
    · refine g_lload_n (pc := 26) dX6_totalNow_26 1 rfl ?_
      exact g_lret (pc := 27) dX6_totalNow_27 rfl (sxJ_of (by unfold a_total; rw [show k = τ 0 2 by omega]) hx)
    · refine g_lload_n (pc := 12) dX6_totalNow_12 1 rfl ?_
      refine g_aload_n (pc := 13) dX6_totalNow_13 0 rfl ?_
      refine g_iload_n (pc := 14) dX6_totalNow_14 2 rfl ?_
      refine g_callV (pc := 15) (As := [.int (zI k)]) (rest := [.long (zJ (sumP (bestP τ) k.toNat))]) k_X6_122_X6 (c_X6_bestPowerOf (τ := ρ) (hx.Bd hB) k (by omega)) ⟨rfl, rfl, Nat.le_of_ble_eq_true rfl, Nat.le_of_ble_eq_true rfl⟩ (0) 5 rfl rfl am_obj rfl rfl (Nat.le_of_ble_eq_true rfl) dX6_totalNow_15 (fun v_ w_ hq_ => ?_)
      obtain ⟨rfl, rfl⟩ := hq_
      refine g_one ?_
      refine g_topJ (Sm_bestP hx.Sm _) ?_
      refine g_ladd (pc := 18) dX6_totalNow_18 ?_
      refine g_lstore_n (pc := 19) (lv' := [(1, .long (zJ ((sumP (bestP τ) k.toNat) + (bestP τ k)))), (0, .ref (bd 0)), (3, .int (zI k))]) dX6_totalNow_19 (by decide) rfl ?_
      refine g_iinc (pc := 20) (lv' := [(3, .int (zI (k + 1))), (1, .long (zJ ((sumP (bestP τ) k.toNat) + (bestP τ k)))), (0, .ref (bd 0))]) dX6_totalNow_20 (by decide) 2 rfl rfl ?_
      refine g_goto (pc := 23) 4 dX6_totalNow_23 (by decide) ?_
      refine g_sub (lv' := [(0, .ref (bd 0)), (1, .long (zJ ((sumP (bestP τ) k.toNat) + (bestP τ k)))), (3, .int (zI (k + 1)))]) [2, 1, 0] rfl ?_
      refine g_lv (lv' := [(0, .ref (bd 0)), (1, .long (zJ (sumP (bestP τ) (k + 1).toNat))), (3, .int (zI (k + 1)))]) (by rw [sumP_s _ hk]) ?_
      exact ih (k + 1) (loS ρ k) (by omega) (by omega) (hx.tr (loP_Sx ρ k _)) (by omega)
set_option maxRecDepth 100000 in
set_option maxHeartbeats 2000000 in
/-- PvArrayModel.totalNow  -/
theorem c_X6_totalNow {D : va_G} {cy : Nat → ClassId} {l : Launch} {bd : Nat → Nat} {τ : Nat → Int → Int} {X : va_W} (hB : Bd τ) : Con D cy l yX6_totalNow cX6_totalNow 4 (some .long) rm_X6_totalNow [.ref (bd 0)] (MW cy bd τ ++ X) (sxJ τ (a_total τ) cy bd X) := by
  refine Con.of (lv := [(0, .ref (bd 0))]) (by decide) (Nat.le_of_ble_eq_true rfl) rfl ?_
  have g1 := hB.sc
  have g2 := hB.mc
  refine g_lconst (pc := 0) (z := 0) dX6_totalNow_0 rfl ?_
  refine g_lstore_n (pc := 1) (lv' := [(1, .long (zJ 0)), (0, .ref (bd 0))]) dX6_totalNow_1 (by decide) rfl ?_
  refine g_iconst (pc := 2) dX6_totalNow_2 ?_
  refine g_istore_n (pc := 3) (lv' := [(3, .int (zI 0)), (1, .long (zJ 0)), (0, .ref (bd 0))]) dX6_totalNow_3 (by decide) rfl ?_
  refine g_sub (lv' := [(0, .ref (bd 0)), (1, .long (zJ 0)), (3, .int (zI 0))]) [2, 1, 0] rfl ?_
  exact lp_X6_total hB ((τ 0 2).toNat + 1) 0 τ (by omega) (by omega) (Sx.rf τ) (by omega)
set_option maxRecDepth 100000 in
set_option maxHeartbeats 2000000 in
/-- PvArrayModel.totalBestPower  -/
theorem c_X6_totalBestPower {D : va_G} {cy : Nat → ClassId} {l : Launch} {bd : Nat → Nat} {τ : Nat → Int → Int} {X : va_W} (hB : Bd τ) : Con D cy l yX6_totalBestPower cX6_totalBestPower 1 (some .long) rm_X6_totalBestPower [.ref (bd 0)] (MW cy bd τ ++ X) (sxJ τ (a_total τ) cy bd X) := by
  refine Con.of (lv := [(0, .ref (bd 0))]) (by decide) (Nat.le_of_ble_eq_true rfl) rfl ?_
  refine g_aload_n (pc := 0) dX6_totalBestPower_0 0 rfl ?_
  refine g_callV (pc := 1) (As := []) (rest := []) k_X6_131_X6 (c_X6_totalNow (τ := τ) hB) ⟨rfl, rfl, Nat.le_of_ble_eq_true rfl, Nat.le_of_ble_eq_true rfl⟩ (0) 5 rfl rfl am_obj rfl rfl (Nat.le_of_ble_eq_true rfl) dX6_totalBestPower_1 (fun v_ w_ hq_ => ?_)
  obtain ⟨ρ, rfl, rfl, hx⟩ := hq_
  refine g_one ?_
  exact g_lret (pc := 4) dX6_totalBestPower_4 rfl (⟨ρ, rfl, rfl, hx⟩)
set_option maxRecDepth 100000 in
set_option maxHeartbeats 2000000 in
/-- PvArrayModel.mismatchLoss, the loop at 4  -/
theorem lp_X6_loss {D : va_G} {cy : Nat → ClassId} {l : Launch} {bd : Nat → Nat} {τ : Nat → Int → Int} {X : va_W} (hB : Bd τ) : ∀ (n : Nat) (k : Int), 0 ≤ k → k ≤ τ 0 1 → (τ 0 1 - k).toNat < n → GO D cy l rm_X6_mismatchLoss cX6_mismatchLoss 4 yX6_mismatchLoss.cls (some .long) (MW cy bd τ ++ X) (sxJ τ (a_loss τ) cy bd X) (MW cy bd τ ++ X) 4 [(0, .ref (bd 0)), (1, .long (zJ (sumP (mpeak τ) k.toNat))), (3, .int (zI k))] [] := by
  intro n
  induction n with
  | zero =>
    intro k hk hk2 hn
    exact absurd hn (Nat.not_lt_zero _)
  | succ n ih =>
    intro k hk hk2 hn
    have g1 := hB.sc
    have g2 := hB.mc
    refine g_iload_n (pc := 4) dX6_mismatchLoss_4 2 rfl ?_
    refine g_aload_n (pc := 5) dX6_mismatchLoss_5 0 rfl ?_
    refine g_get (pc := 6) (ci := 5) inG_X6 rfl 1 (by decide) rfl fl_X6_52 (0) am_obj rfl dX6_mismatchLoss_6 ?_
    refine g_icmp_ge (pc := 9) 26 dX6_mismatchLoss_9 (by decide) (by omega) (by omega) (fun h_1 => ?_) (fun h_1 => ?_)
    · refine g_lload_n (pc := 26) dX6_mismatchLoss_26 1 rfl ?_
      refine g_aload_n (pc := 27) dX6_mismatchLoss_27 0 rfl ?_
      refine g_callV (pc := 28) (As := []) (rest := [.long (zJ (sumP (mpeak τ) k.toNat))]) k_X6_131_X6 (c_X6_totalNow (τ := τ) hB) ⟨rfl, rfl, Nat.le_of_ble_eq_true rfl, Nat.le_of_ble_eq_true rfl⟩ (0) 5 rfl rfl am_obj rfl rfl (Nat.le_of_ble_eq_true rfl) dX6_mismatchLoss_28 (fun v_ w_ hq_ => ?_)
      obtain ⟨ρ, rfl, rfl, hx⟩ := hq_
      refine g_one ?_
      refine g_lsub (pc := 31) dX6_mismatchLoss_31 ?_
      exact g_lret (pc := 32) dX6_mismatchLoss_32 rfl (sxJ_of (by unfold a_loss a_total; rw [show k = τ 0 1 by omega]) hx)
    · refine g_lload_n (pc := 12) dX6_mismatchLoss_12 1 rfl ?_
      refine g_aload_n (pc := 13) dX6_mismatchLoss_13 0 rfl ?_
      refine g_iload_n (pc := 14) dX6_mismatchLoss_14 2 rfl ?_
      refine g_callV (pc := 15) (As := [.int (zI k)]) (rest := [.long (zJ (sumP (mpeak τ) k.toNat))]) k_X6_94_X6 (c_X6_peakPowerOf (τ := τ) hB k (by omega)) ⟨rfl, rfl, Nat.le_of_ble_eq_true rfl, Nat.le_of_ble_eq_true rfl⟩ (0) 5 rfl rfl am_obj rfl rfl (Nat.le_of_ble_eq_true rfl) dX6_mismatchLoss_15 (fun v_ w_ hq_ => ?_)
      obtain ⟨rfl, rfl⟩ := hq_
      refine g_one ?_
      refine g_ladd (pc := 18) dX6_mismatchLoss_18 ?_
      refine g_lstore_n (pc := 19) (lv' := [(1, .long (zJ ((sumP (mpeak τ) k.toNat) + (mpeak τ k)))), (0, .ref (bd 0)), (3, .int (zI k))]) dX6_mismatchLoss_19 (by decide) rfl ?_
      refine g_iinc (pc := 20) (lv' := [(3, .int (zI (k + 1))), (1, .long (zJ ((sumP (mpeak τ) k.toNat) + (mpeak τ k)))), (0, .ref (bd 0))]) dX6_mismatchLoss_20 (by decide) 2 rfl rfl ?_
      refine g_goto (pc := 23) 4 dX6_mismatchLoss_23 (by decide) ?_
      refine g_sub (lv' := [(0, .ref (bd 0)), (1, .long (zJ ((sumP (mpeak τ) k.toNat) + (mpeak τ k)))), (3, .int (zI (k + 1)))]) [2, 1, 0] rfl ?_
      refine g_lv (lv' := [(0, .ref (bd 0)), (1, .long (zJ (sumP (mpeak τ) (k + 1).toNat))), (3, .int (zI (k + 1)))]) (by rw [sumP_s _ hk]) ?_
      exact ih (k + 1) (by omega) (by omega) (by omega)
set_option maxRecDepth 100000 in
set_option maxHeartbeats 2000000 in
/-- PvArrayModel.mismatchLoss  -/
theorem c_X6_mismatchLoss {D : va_G} {cy : Nat → ClassId} {l : Launch} {bd : Nat → Nat} {τ : Nat → Int → Int} {X : va_W} (hB : Bd τ) : Con D cy l yX6_mismatchLoss cX6_mismatchLoss 4 (some .long) rm_X6_mismatchLoss [.ref (bd 0)] (MW cy bd τ ++ X) (sxJ τ (a_loss τ) cy bd X) := by
  refine Con.of (lv := [(0, .ref (bd 0))]) (by decide) (Nat.le_of_ble_eq_true rfl) rfl ?_
  have g1 := hB.sc
  have g2 := hB.mc
  refine g_lconst (pc := 0) (z := 0) dX6_mismatchLoss_0 rfl ?_
  refine g_lstore_n (pc := 1) (lv' := [(1, .long (zJ 0)), (0, .ref (bd 0))]) dX6_mismatchLoss_1 (by decide) rfl ?_
  refine g_iconst (pc := 2) dX6_mismatchLoss_2 ?_
  refine g_istore_n (pc := 3) (lv' := [(3, .int (zI 0)), (1, .long (zJ 0)), (0, .ref (bd 0))]) dX6_mismatchLoss_3 (by decide) rfl ?_
  refine g_sub (lv' := [(0, .ref (bd 0)), (1, .long (zJ 0)), (3, .int (zI 0))]) [2, 1, 0] rfl ?_
  exact lp_X6_loss hB ((τ 0 1).toNat + 1) 0 (by omega) (by omega) (by omega)
