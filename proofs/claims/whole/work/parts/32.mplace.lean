theorem place_at {τ : Nat → Int → Int} {st po : Int → Int} {s p m : Int} (g : (0 ≤ τ 7 (12 * s + p) ∧ τ 7 (12 * s + p) < τ 0 1) ∧ st (τ 7 (12 * s + p)) = s ∧ po (τ 7 (12 * s + p)) = p) (h : τ 7 (12 * s + p) = m) : 12 * s + p = 12 * st m + po m := by
  rw [h] at g
  rw [g.2.1, g.2.2]
theorem place_next {τ : Nat → Int → Int} {st po : Int → Int} (hP : Pos τ st po) {m s p : Int} (hm : 0 ≤ m ∧ m < τ 0 1) (hs : 0 ≤ s ∧ s < τ 0 2) (hle : s ≤ st m) (hp : 0 ≤ p) (hp2 : p < τ 6 s) (hq : s = st m → p ≤ po m) (hne : ¬ τ 7 (12 * s + p) = m) (q : s = st m) : p + 1 ≤ po m := by
  have h1 := hq q
  by_cases e : p = po m
  · exact absurd (by rw [q, e]; exact (hP.1 m hm.1 hm.2).2.2) hne
  · omega
theorem place_out {τ : Nat → Int → Int} {st po : Int → Int} (hP : Pos τ st po) {m s p : Int} (hm : 0 ≤ m ∧ m < τ 0 1) (hle : s ≤ st m) (hq : s = st m → p ≤ po m) (h : τ 6 s ≤ p) : s + 1 ≤ st m := by
  by_cases e : s = st m
  · have h1 := hq e
    have h2 := (hP.1 m hm.1 hm.2).2.1
    rw [← e] at h2
    omega
  · omega
set_option maxRecDepth 100000 in
set_option maxHeartbeats 2000000 in
/-- PvArrayModel.placeOf, the loop at 12  -/
theorem lp_X6_placeI {D : va_G} {cy : Nat → ClassId} {l : Launch} {bd : Nat → Nat} {τ : Nat → Int → Int} {X : va_W} {st po : Int → Int} (hB : Bd τ) (hP : Pos τ st po) (m : Int) (hm : 0 ≤ m ∧ m < τ 0 1) (s : Int) (hs : 0 ≤ s ∧ s < τ 0 2) (hle : s ≤ st m) (kk : s + 1 ≤ st m → GO D cy l rm_X6_placeOf cX6_placeOf 4 yX6_placeOf.cls (some .int) (MW cy bd τ ++ X) (rdI (12 * st m + po m) (MW cy bd τ ++ X)) (MW cy bd τ ++ X) 2 [(0, .ref (bd 0)), (1, .int (zI m)), (2, .int (zI (s + 1)))] []) : ∀ (n : Nat) (p : Int), 0 ≤ p → p ≤ τ 6 s → (s = st m → p ≤ po m) → (τ 6 s - p).toNat < n → GO D cy l rm_X6_placeOf cX6_placeOf 4 yX6_placeOf.cls (some .int) (MW cy bd τ ++ X) (rdI (12 * st m + po m) (MW cy bd τ ++ X)) (MW cy bd τ ++ X) 12 [(0, .ref (bd 0)), (1, .int (zI m)), (2, .int (zI s)), (3, .int (zI p))] [] := by
  intro n
  induction n with
  | zero =>
    intro p hp hp2 hq hn
    exact absurd hn (Nat.not_lt_zero _)
  | succ n ih =>
    intro p hp hp2 hq hn
    have g1 := hB.sc
    have g2 := hB.mc
    have g3 := hP.1 m hm.1 hm.2
    have g4 := hB.b6 s
    have g5 := hB.b7 (12 * s + p)
    refine g_iload_n (pc := 12) dX6_placeOf_12 3 rfl ?_
    refine g_aload_n (pc := 13) dX6_placeOf_13 0 rfl ?_
    refine g_get (pc := 14) (ci := 5) inG_X6 rfl 8 (by decide) rfl fl_X6_26 (0) am_obj rfl dX6_placeOf_14 ?_
    refine g_iload_n (pc := 17) dX6_placeOf_17 2 rfl ?_
    refine g_iald (pc := 18) 6 am_6 (by omega) (by decide) dX6_placeOf_18 ?_
    refine g_icmp_ge (pc := 19) 50 dX6_placeOf_19 (by decide) (by omega) (by omega) (fun h_1 => ?_) (fun h_1 => ?_)
    · refine g_iinc (pc := 50) (lv' := [(2, .int (zI (s + 1))), (0, .ref (bd 0)), (1, .int (zI m)), (3, .int (zI p))]) dX6_placeOf_50 (by decide) 2 rfl rfl ?_
      refine g_goto (pc := 53) 2 dX6_placeOf_53 (by decide) ?_
      refine g_sub (lv' := [(0, .ref (bd 0)), (1, .int (zI m)), (2, .int (zI (s + 1)))]) [1, 2, 0] rfl ?_
      exact kk (place_out hP hm hle hq (by omega))
    · have g6 := hP.2 s p (by omega) (by omega) (by omega) (by omega)
      refine g_aload_n (pc := 22) dX6_placeOf_22 0 rfl ?_
      refine g_get (pc := 23) (ci := 5) inG_X6 rfl 9 (by decide) rfl fl_X6_29 (0) am_obj rfl dX6_placeOf_23 ?_
      refine g_bipush (pc := 26) dX6_placeOf_26 (by omega) ?_
      refine g_iload_n (pc := 28) dX6_placeOf_28 2 rfl ?_
      refine g_imul (pc := 29) dX6_placeOf_29 ?_
      refine g_iload_n (pc := 30) dX6_placeOf_30 3 rfl ?_
      refine g_iadd (pc := 31) dX6_placeOf_31 ?_
      refine g_iald (pc := 32) 7 am_7 (by omega) (by decide) dX6_placeOf_32 ?_
      refine g_iload_n (pc := 33) dX6_placeOf_33 1 rfl ?_
      refine g_icmp_ne (pc := 34) 44 dX6_placeOf_34 (by decide) (by omega) (by omega) (fun h_2 => ?_) (fun h_2 => ?_)
      · refine g_iinc (pc := 44) (lv' := [(3, .int (zI (p + 1))), (0, .ref (bd 0)), (1, .int (zI m)), (2, .int (zI s))]) dX6_placeOf_44 (by decide) 3 rfl rfl ?_
        refine g_goto (pc := 47) 12 dX6_placeOf_47 (by decide) ?_
        refine g_sub (lv' := [(0, .ref (bd 0)), (1, .int (zI m)), (2, .int (zI s)), (3, .int (zI (p + 1)))]) [1, 2, 3, 0] rfl ?_
        exact ih (p + 1) (by omega) (by omega) (fun q => place_next hP hm hs hle hp (by omega) hq (by omega) q) (by omega)
      · refine g_bipush (pc := 37) dX6_placeOf_37 (by omega) ?_
        refine g_iload_n (pc := 39) dX6_placeOf_39 2 rfl ?_
        refine g_imul (pc := 40) dX6_placeOf_40 ?_
        refine g_iload_n (pc := 41) dX6_placeOf_41 3 rfl ?_
        refine g_iadd (pc := 42) dX6_placeOf_42 ?_
        exact g_iret (pc := 43) dX6_placeOf_43 rfl (rdI_of (by rw [← place_at g6 (by omega)]))
set_option maxRecDepth 100000 in
set_option maxHeartbeats 2000000 in
/-- PvArrayModel.placeOf, the loop at 2  -/
theorem lp_X6_placeO {D : va_G} {cy : Nat → ClassId} {l : Launch} {bd : Nat → Nat} {τ : Nat → Int → Int} {X : va_W} {st po : Int → Int} (hB : Bd τ) (hP : Pos τ st po) (m : Int) (hm : 0 ≤ m ∧ m < τ 0 1) : ∀ (n : Nat) (s : Int), 0 ≤ s → s ≤ st m → (st m + 1 - s).toNat < n → GO D cy l rm_X6_placeOf cX6_placeOf 4 yX6_placeOf.cls (some .int) (MW cy bd τ ++ X) (rdI (12 * st m + po m) (MW cy bd τ ++ X)) (MW cy bd τ ++ X) 2 [(0, .ref (bd 0)), (1, .int (zI m)), (2, .int (zI s))] [] := by
  intro n
  induction n with
  | zero =>
    intro s hs hle hn
    exact absurd hn (Nat.not_lt_zero _)
  | succ n ih =>
    intro s hs hle hn
    have g1 := hB.sc
    have g2 := hB.mc
    have g3 := hP.1 m hm.1 hm.2
    refine g_iload_n (pc := 2) dX6_placeOf_2 2 rfl ?_
    refine g_aload_n (pc := 3) dX6_placeOf_3 0 rfl ?_
    refine g_get (pc := 4) (ci := 5) inG_X6 rfl 7 (by decide) rfl fl_X6_59 (0) am_obj rfl dX6_placeOf_4 ?_
    refine g_icmp_ge (pc := 7) 56 dX6_placeOf_7 (by decide) (by omega) (by omega) (fun h_1 => ?_) (fun h_1 => ?_)
    · exfalso; omega
    · refine g_iconst (pc := 10) dX6_placeOf_10 ?_
      refine g_istore_n (pc := 11) (lv' := [(3, .int (zI 0)), (0, .ref (bd 0)), (1, .int (zI m)), (2, .int (zI s))]) dX6_placeOf_11 (by decide) rfl ?_
      refine g_sub (lv' := [(0, .ref (bd 0)), (1, .int (zI m)), (2, .int (zI s)), (3, .int (zI 0))]) [1, 2, 3, 0] rfl ?_
      exact lp_X6_placeI hB hP m hm s (by omega) hle (fun h => ih (s + 1) (by omega) h (by omega)) ((τ 6 s).toNat + 1) 0 (by omega) (by have := hB.b6 s; omega) (fun q => by omega) (by omega)
set_option maxRecDepth 100000 in
set_option maxHeartbeats 2000000 in
/-- PvArrayModel.placeOf  -/
theorem c_X6_placeOf {D : va_G} {cy : Nat → ClassId} {l : Launch} {bd : Nat → Nat} {τ : Nat → Int → Int} {X : va_W} {st po : Int → Int} (hB : Bd τ) (hP : Pos τ st po) (m : Int) (hm : 0 ≤ m ∧ m < τ 0 1) : Con D cy l yX6_placeOf cX6_placeOf 4 (some .int) rm_X6_placeOf [.ref (bd 0), .int (zI m)] (MW cy bd τ ++ X) (rdI (12 * st m + po m) (MW cy bd τ ++ X)) := by
  refine Con.of (lv := [(0, .ref (bd 0)), (1, .int (zI m))]) (by decide) (Nat.le_of_ble_eq_true rfl) rfl ?_
  have g1 := hB.sc
  have g2 := hB.mc
  have g3 := hP.1 m hm.1 hm.2
  refine g_iconst (pc := 0) dX6_placeOf_0 ?_
  refine g_istore_n (pc := 1) (lv' := [(2, .int (zI 0)), (0, .ref (bd 0)), (1, .int (zI m))]) dX6_placeOf_1 (by decide) rfl ?_
  refine g_sub (lv' := [(0, .ref (bd 0)), (1, .int (zI m)), (2, .int (zI 0))]) [1, 2, 0] rfl ?_
  exact lp_X6_placeO hB hP m hm ((st m).toNat + 2) 0 (by omega) (by omega) (by omega)
set_option maxRecDepth 100000 in
set_option maxHeartbeats 2000000 in
/-- PvArrayModel.append  -/
theorem c_X6_append {D : va_G} {cy : Nat → ClassId} {l : Launch} {bd : Nat → Nat} {τ : Nat → Int → Int} {X : va_W} (m : Int) (s : Int) (hs : 0 ≤ s ∧ s < 6) (hc : 0 ≤ τ 6 s ∧ τ 6 s < 12) : Con D cy l yX6_append cX6_append 3 none rm_X6_append [.ref (bd 0), .int (zI m), .int (zI s)] (MW cy bd τ ++ X) (wv (MW cy bd (apM τ m s) ++ X)) := by
  refine Con.of (lv := [(0, .ref (bd 0)), (1, .int (zI m)), (2, .int (zI s))]) (by decide) (Nat.le_of_ble_eq_true rfl) rfl ?_
  refine g_aload_n (pc := 0) dX6_append_0 0 rfl ?_
  refine g_get (pc := 1) (ci := 5) inG_X6 rfl 9 (by decide) rfl fl_X6_29 (0) am_obj rfl dX6_append_1 ?_
  refine g_bipush (pc := 4) dX6_append_4 (by omega) ?_
  refine g_iload_n (pc := 6) dX6_append_6 2 rfl ?_
  refine g_imul (pc := 7) dX6_append_7 ?_
  refine g_aload_n (pc := 8) dX6_append_8 0 rfl ?_
  refine g_get (pc := 9) (ci := 5) inG_X6 rfl 8 (by decide) rfl fl_X6_26 (0) am_obj rfl dX6_append_9 ?_
  refine g_iload_n (pc := 12) dX6_append_12 2 rfl ?_
  refine g_iald (pc := 13) 6 am_6 (by omega) (by decide) dX6_append_13 ?_
  refine g_iadd (pc := 14) dX6_append_14 ?_
  refine g_iload_n (pc := 15) dX6_append_15 1 rfl ?_
  refine g_iast (pc := 16) 7 am_7 (by omega) (by decide) sm_7 dX6_append_16 ?_
  refine g_aload_n (pc := 17) dX6_append_17 0 rfl ?_
  refine g_get (pc := 18) (ci := 5) inG_X6 rfl 8 (by decide) rfl fl_X6_26 (0) am_obj rfl dX6_append_18 ?_
  refine g_iload_n (pc := 21) dX6_append_21 2 rfl ?_
  refine g_dup2 (pc := 22) dX6_append_22 rfl rfl ?_
  refine g_iald (pc := 23) 6 am_6 (by omega) (by decide) dX6_append_23 ?_
  refine g_topI (show up τ 7 (12 * s + τ 6 s) m 6 s = τ 6 s from rfl) ?_
  refine g_iconst (pc := 24) dX6_append_24 ?_
  refine g_iadd (pc := 25) dX6_append_25 ?_
  refine g_iast (pc := 26) 6 am_6 (by omega) (by decide) sm_6 dX6_append_26 ?_
  exact g_vret (pc := 27) dX6_append_27 rfl (wvm_of rfl)
set_option maxRecDepth 100000 in
set_option maxHeartbeats 2000000 in
/-- PvArrayModel.remove, the loop at 24  -/
theorem lp_X6_remove {D : va_G} {cy : Nat → ClassId} {l : Launch} {bd : Nat → Nat} {τ : Nat → Int → Int} {X : va_W} {st po : Int → Int} (hB : Bd τ) (hP : Pos τ st po) (m : Int) (hm : 0 ≤ m ∧ m < τ 0 1) : ∀ (n : Nat) (k : Int), 12 * st m + po m ≤ k → k ≤ 12 * st m + τ 6 (st m) - 1 → (12 * st m + τ 6 (st m) - 1 - k).toNat < n → GO D cy l rm_X6_remove cX6_remove 5 yX6_remove.cls none (MW cy bd τ ++ X) (wv (MW cy bd (rmP τ (st m) (12 * st m + po m) (12 * st m + τ 6 (st m) - 1)) ++ X)) (MW cy bd (rmP τ (st m) (12 * st m + po m) k) ++ X) 24 [(0, .ref (bd 0)), (1, .int (zI m)), (2, .int (zI (12 * st m + po m))), (3, .int (zI (st m))), (4, .int (zI k))] [] := by
  intro n
  induction n with
  | zero =>
    intro k hk hk2 hn
    exact absurd hn (Nat.not_lt_zero _)
  | succ n ih =>
    intro k hk hk2 hn
    have g1 := hB.sc
    have g2 := hB.mc
    have g3 := hP.1 m hm.1 hm.2
    have g4 := hB.b6 (st m)
    have g5 : (12 * st m + po m) / 12 = st m := by omega
    refine g_iload (pc := 24) dX6_remove_24 4 rfl ?_
    refine g_bipush (pc := 26) dX6_remove_26 (by omega) ?_
    refine g_iload_n (pc := 28) dX6_remove_28 3 rfl ?_
    refine g_imul (pc := 29) dX6_remove_29 ?_
    refine g_aload_n (pc := 30) dX6_remove_30 0 rfl ?_
    refine g_get (pc := 31) (ci := 5) inG_X6 rfl 8 (by decide) rfl fl_X6_26 (0) am_obj rfl dX6_remove_31 ?_
    refine g_iload_n (pc := 34) dX6_remove_34 3 rfl ?_
    refine g_iald (pc := 35) 6 am_6 (by omega) (by decide) dX6_remove_35 ?_
    refine g_topI (show (rmP τ (st m) (12 * st m + po m) k) 6 (st m) = τ 6 (st m) - 1 from zup_s _ _ _) ?_
    refine g_iadd (pc := 36) dX6_remove_36 ?_
    refine g_icmp_ge (pc := 37) 62 dX6_remove_37 (by decide) (by omega) (by omega) (fun h_1 => ?_) (fun h_1 => ?_)
    · exact g_vret (pc := 62) dX6_remove_62 rfl (wvm_of (by rw [show k = 12 * st m + τ 6 (st m) - 1 by omega]))
    · refine g_aload_n (pc := 40) dX6_remove_40 0 rfl ?_
      refine g_get (pc := 41) (ci := 5) inG_X6 rfl 9 (by decide) rfl fl_X6_29 (0) am_obj rfl dX6_remove_41 ?_
      refine g_iload (pc := 44) dX6_remove_44 4 rfl ?_
      refine g_aload_n (pc := 46) dX6_remove_46 0 rfl ?_
      refine g_get (pc := 47) (ci := 5) inG_X6 rfl 9 (by decide) rfl fl_X6_29 (0) am_obj rfl dX6_remove_47 ?_
      refine g_iload (pc := 50) dX6_remove_50 4 rfl ?_
      refine g_iconst (pc := 52) dX6_remove_52 ?_
      refine g_iadd (pc := 53) dX6_remove_53 ?_
      refine g_iald (pc := 54) 7 am_7 (by omega) (by decide) dX6_remove_54 ?_
      refine g_topI (show (rmP τ (st m) (12 * st m + po m) k) 7 (k + 1) = τ 7 (k + 1) from shft_at _ (by omega)) ?_
      refine g_iast (pc := 55) 7 am_7 (by omega) (by decide) sm_7 dX6_remove_55 ?_
      refine g_iinc (pc := 56) (lv' := [(4, .int (zI (k + 1))), (0, .ref (bd 0)), (1, .int (zI m)), (2, .int (zI (12 * st m + po m))), (3, .int (zI (st m)))]) dX6_remove_56 (by decide) 4 rfl rfl ?_
      refine g_goto (pc := 59) 24 dX6_remove_59 (by decide) ?_
      refine g_sub (lv' := [(0, .ref (bd 0)), (1, .int (zI m)), (2, .int (zI (12 * st m + po m))), (3, .int (zI (st m))), (4, .int (zI (k + 1)))]) [1, 2, 3, 4, 0] rfl ?_
      refine g_world (w' := MW cy bd (rmP τ (st m) (12 * st m + po m) (k + 1)) ++ X) (by rw [← rmP_s _ _ hk]) ?_
      exact ih (k + 1) (by omega) (by omega) (by omega)
set_option maxRecDepth 100000 in
set_option maxHeartbeats 2000000 in
/-- PvArrayModel.remove  -/
theorem c_X6_remove {D : va_G} {cy : Nat → ClassId} {l : Launch} {bd : Nat → Nat} {τ : Nat → Int → Int} {X : va_W} {st po : Int → Int} (hB : Bd τ) (hP : Pos τ st po) (m : Int) (hm : 0 ≤ m ∧ m < τ 0 1) : Con D cy l yX6_remove cX6_remove 5 none rm_X6_remove [.ref (bd 0), .int (zI m)] (MW cy bd τ ++ X) (wv (MW cy bd (rmP τ (st m) (12 * st m + po m) (12 * st m + τ 6 (st m) - 1)) ++ X)) := by
  refine Con.of (lv := [(0, .ref (bd 0)), (1, .int (zI m))]) (by decide) (Nat.le_of_ble_eq_true rfl) rfl ?_
  have g1 := hB.sc
  have g2 := hB.mc
  have g3 := hP.1 m hm.1 hm.2
  have g4 := hB.b6 (st m)
  have g5 : (12 * st m + po m) / 12 = st m := by omega
  refine g_aload_n (pc := 0) dX6_remove_0 0 rfl ?_
  refine g_iload_n (pc := 1) dX6_remove_1 1 rfl ?_
  refine g_callV (pc := 2) (As := [.int (zI m)]) (rest := []) k_X6_73_X6 (c_X6_placeOf (τ := τ) hB hP m (by omega)) ⟨rfl, rfl, Nat.le_of_ble_eq_true rfl, Nat.le_of_ble_eq_true rfl⟩ (0) 5 rfl rfl am_obj rfl rfl (Nat.le_of_ble_eq_true rfl) dX6_remove_2 (fun v_ w_ hq_ => ?_)
  obtain ⟨rfl, rfl⟩ := hq_
  refine g_one ?_
  refine g_istore_n (pc := 5) (lv' := [(2, .int (zI (12 * st m + po m))), (0, .ref (bd 0)), (1, .int (zI m))]) dX6_remove_5 (by decide) rfl ?_
  refine g_iload_n (pc := 6) dX6_remove_6 0 rfl ?_
  refine g_bipush (pc := 7) dX6_remove_7 (by omega) ?_
  refine g_idiv (pc := 9) dX6_remove_9 (by omega) (by omega) ?_
  refine g_topI g5 ?_
  refine g_istore_n (pc := 10) (lv' := [(3, .int (zI (st m))), (2, .int (zI (12 * st m + po m))), (0, .ref (bd 0)), (1, .int (zI m))]) dX6_remove_10 (by decide) rfl ?_
  refine g_aload_n (pc := 11) dX6_remove_11 2 rfl ?_
  refine g_get (pc := 12) (ci := 5) inG_X6 rfl 8 (by decide) rfl fl_X6_26 (0) am_obj rfl dX6_remove_12 ?_
  refine g_iload_n (pc := 15) dX6_remove_15 0 rfl ?_
  refine g_dup2 (pc := 16) dX6_remove_16 rfl rfl ?_
  refine g_iald (pc := 17) 6 am_6 (by omega) (by decide) dX6_remove_17 ?_
  refine g_iconst (pc := 18) dX6_remove_18 ?_
  refine g_isub (pc := 19) dX6_remove_19 ?_
  refine g_iast (pc := 20) 6 am_6 (by omega) (by decide) sm_6 dX6_remove_20 ?_
  refine g_iload_n (pc := 21) dX6_remove_21 1 rfl ?_
  refine g_istore (pc := 22) (lv' := [(4, .int (zI (12 * st m + po m))), (3, .int (zI (st m))), (2, .int (zI (12 * st m + po m))), (0, .ref (bd 0)), (1, .int (zI m))]) dX6_remove_22 (by decide) rfl ?_
  refine g_sub (lv' := [(0, .ref (bd 0)), (1, .int (zI m)), (2, .int (zI (12 * st m + po m))), (3, .int (zI (st m))), (4, .int (zI (12 * st m + po m)))]) [3, 4, 2, 1, 0] rfl ?_
  refine g_world (w' := MW cy bd (rmP τ (st m) (12 * st m + po m) (12 * st m + po m)) ++ X) (by rw [← rmP_0]) ?_
  exact lp_X6_remove hB hP m hm ((τ 6 (st m)).toNat + 1) (12 * st m + po m) (by omega) (by omega) (by omega)
def u_move (τ : Nat → Int → Int) (st po : Int → Int) (m s : Int) : Nat → Int → Int := apM (rmP τ (st m) (12 * st m + po m) (12 * st m + τ 6 (st m) - 1)) m s
theorem rm6 (τ : Nat → Int → Int) (t a k s : Int) : rmP τ t a k 6 s = if t = s then τ 6 s - 1 else τ 6 s := by
  show zup (τ 6) t (τ 6 t - 1) s = _
  unfold zup
  by_cases h : t = s
  · rw [if_pos h, if_pos h.symm, h]
  · rw [if_neg h, if_neg (fun q => h q.symm)]
theorem rm6_b {τ : Nat → Int → Int} {t s : Int} (a k : Int) (h1 : 1 ≤ τ 6 t ∧ τ 6 t ≤ 12) (h2 : 0 ≤ τ 6 s) (h3 : ¬ (¬ t = s ∧ 12 ≤ τ 6 s)) : 0 ≤ rmP τ t a k 6 s ∧ rmP τ t a k 6 s < 12 := by
  rw [rm6]
  split
  · subst_vars; omega
  · omega
set_option maxRecDepth 100000 in
set_option maxHeartbeats 2000000 in
/-- PvArrayModel.moveModule  -/
theorem c_X6_moveModule {D : va_G} {cy : Nat → ClassId} {l : Launch} {bd : Nat → Nat} {τ : Nat → Int → Int} {X : va_W} {st po : Int → Int} (hB : Bd τ) (hP : Pos τ st po) (m : Int) (hm : -2147483648 ≤ m ∧ m ≤ 2147483647) (s : Int) (hs : -2147483648 ≤ s ∧ s ≤ 2147483647) : Con D cy l yX6_moveModule cX6_moveModule 3 (some .int) rm_X6_moveModule [.ref (bd 0), .int (zI m), .int (zI s)] (MW cy bd τ ++ X) (rwI (ok_move τ st m s) (a_move τ st m s) (a_move τ st m s) (MW cy bd (u_move τ st po m s) ++ X) (MW cy bd τ ++ X)) := by
  refine Con.of (lv := [(0, .ref (bd 0)), (1, .int (zI m)), (2, .int (zI s))]) (by decide) (Nat.le_of_ble_eq_true rfl) rfl ?_
  have g1 := hB.sc
  have g2 := hB.mc
  have g3 := hB.b6 s
  refine g_aload_n (pc := 0) dX6_moveModule_0 0 rfl ?_
  refine g_iload_n (pc := 1) dX6_moveModule_1 1 rfl ?_
  refine g_callV (pc := 2) (As := [.int (zI m)]) (rest := []) k_X6_70_X6 (c_X6_isModule (τ := τ) hB m (by omega)) ⟨rfl, rfl, Nat.le_of_ble_eq_true rfl, Nat.le_of_ble_eq_true rfl⟩ (0) 5 rfl rfl am_obj rfl rfl (Nat.le_of_ble_eq_true rfl) dX6_moveModule_2 (fun v_ w_ hq_ => ?_)
  rcases hq_ with ⟨rfl, rfl, hm_1⟩ | ⟨rfl, rfl, hm_1⟩
  · refine g_one ?_
    refine g_if_neT (pc := 5) 12 dX6_moveModule_5 (by decide) (by omega) (by omega) ?_
    refine g_aload_n (pc := 12) dX6_moveModule_12 0 rfl ?_
    refine g_iload_n (pc := 13) dX6_moveModule_13 2 rfl ?_
    refine g_callV (pc := 14) (As := [.int (zI s)]) (rest := []) k_X6_62_X6 (c_X6_isString (τ := τ) hB s (by omega)) ⟨rfl, rfl, Nat.le_of_ble_eq_true rfl, Nat.le_of_ble_eq_true rfl⟩ (0) 5 rfl rfl am_obj rfl rfl (Nat.le_of_ble_eq_true rfl) dX6_moveModule_14 (fun v_ w_ hq_ => ?_)
    rcases hq_ with ⟨rfl, rfl, hs_2⟩ | ⟨rfl, rfl, hs_2⟩
    · refine g_one ?_
      refine g_if_neT (pc := 17) 24 dX6_moveModule_17 (by decide) (by omega) (by omega) ?_
      have g4 := hP.1 m (by omega) (by omega)
      have g5 := hB.b6 (st m)
      have g6 : (12 * st m + po m) / 12 = st m := by omega
      refine g_aload_n (pc := 24) dX6_moveModule_24 0 rfl ?_
      refine g_iload_n (pc := 25) dX6_moveModule_25 1 rfl ?_
      refine g_callV (pc := 26) (As := [.int (zI m)]) (rest := []) k_X6_73_X6 (c_X6_placeOf (τ := τ) hB hP m (by omega)) ⟨rfl, rfl, Nat.le_of_ble_eq_true rfl, Nat.le_of_ble_eq_true rfl⟩ (0) 5 rfl rfl am_obj rfl rfl (Nat.le_of_ble_eq_true rfl) dX6_moveModule_26 (fun v_ w_ hq_ => ?_)
      obtain ⟨rfl, rfl⟩ := hq_
      refine g_one ?_
      refine g_bipush (pc := 29) dX6_moveModule_29 (by omega) ?_
      refine g_idiv (pc := 31) dX6_moveModule_31 (by omega) (by omega) ?_
      refine g_topI g6 ?_
      refine g_iload_n (pc := 32) dX6_moveModule_32 2 rfl ?_
      refine g_icmp_eq (pc := 33) 51 dX6_moveModule_33 (by decide) (by omega) (by omega) (fun h_3 => ?_) (fun h_3 => ?_)
      · refine g_aload_n (pc := 51) dX6_moveModule_51 0 rfl ?_
        refine g_iload_n (pc := 52) dX6_moveModule_52 1 rfl ?_
        refine g_callV (pc := 53) (As := [.int (zI m)]) (rest := []) k_X6_77_X6 (c_X6_remove (τ := τ) hB hP m (by omega)) ⟨rfl, rfl, Nat.le_of_ble_eq_true rfl, Nat.le_of_ble_eq_true rfl⟩ (0) 5 rfl rfl am_obj rfl rfl (Nat.le_of_ble_eq_true rfl) dX6_moveModule_53 (fun v_ w_ hq_ => ?_)
        obtain ⟨rfl, rfl⟩ := hq_
        refine g_none ?_
        refine g_aload_n (pc := 56) dX6_moveModule_56 0 rfl ?_
        refine g_iload_n (pc := 57) dX6_moveModule_57 1 rfl ?_
        refine g_iload_n (pc := 58) dX6_moveModule_58 2 rfl ?_
        refine g_callV (pc := 59) (As := [.int (zI m), .int (zI s)]) (rest := []) k_X6_66_X6 (c_X6_append (τ := (rmP τ (st m) (12 * st m + po m) (12 * st m + τ 6 (st m) - 1))) m s (by omega) (rm6_b _ _ (by omega) (by omega) (by omega))) ⟨rfl, rfl, Nat.le_of_ble_eq_true rfl, Nat.le_of_ble_eq_true rfl⟩ (0) 5 rfl rfl am_obj rfl rfl (Nat.le_of_ble_eq_true rfl) dX6_moveModule_59 (fun v_ w_ hq_ => ?_)
        obtain ⟨rfl, rfl⟩ := hq_
        refine g_none ?_
        refine g_aload_n (pc := 62) dX6_moveModule_62 0 rfl ?_
        refine g_get (pc := 63) (ci := 5) inG_X6 rfl 8 (by decide) rfl fl_X6_26 (0) am_obj rfl dX6_moveModule_63 ?_
        refine g_iload_n (pc := 66) dX6_moveModule_66 2 rfl ?_
        refine g_iald (pc := 67) 6 am_6 (by omega) (by decide) dX6_moveModule_67 ?_
        refine g_topI (show apM (rmP τ (st m) (12 * st m + po m) (12 * st m + τ 6 (st m) - 1)) m s 6 s = (rmP τ (st m) (12 * st m + po m) (12 * st m + τ 6 (st m) - 1)) 6 s + 1 from zup_s _ _ _) ?_
        refine g_iconst (pc := 68) dX6_moveModule_68 ?_
        refine g_isub (pc := 69) dX6_moveModule_69 ?_
        exact g_iret (pc := 70) dX6_moveModule_70 rfl (Or.inl ⟨by unfold ok_move; omega, by rw [show ∀ x : Int, x + 1 - 1 = x from fun x => by omega, rm6, a_move_ok (by unfold ok_move; omega)], rfl⟩)
      · refine g_aload_n (pc := 36) dX6_moveModule_36 0 rfl ?_
        refine g_get (pc := 37) (ci := 5) inG_X6 rfl 8 (by decide) rfl fl_X6_26 (0) am_obj rfl dX6_moveModule_37 ?_
        refine g_iload_n (pc := 40) dX6_moveModule_40 2 rfl ?_
        refine g_iald (pc := 41) 6 am_6 (by omega) (by decide) dX6_moveModule_41 ?_
        refine g_bipush (pc := 42) dX6_moveModule_42 (by omega) ?_
        refine g_icmp_ne (pc := 44) 51 dX6_moveModule_44 (by decide) (by omega) (by omega) (fun h_4 => ?_) (fun h_4 => ?_)
        · refine g_aload_n (pc := 51) dX6_moveModule_51 0 rfl ?_
          refine g_iload_n (pc := 52) dX6_moveModule_52 1 rfl ?_
          refine g_callV (pc := 53) (As := [.int (zI m)]) (rest := []) k_X6_77_X6 (c_X6_remove (τ := τ) hB hP m (by omega)) ⟨rfl, rfl, Nat.le_of_ble_eq_true rfl, Nat.le_of_ble_eq_true rfl⟩ (0) 5 rfl rfl am_obj rfl rfl (Nat.le_of_ble_eq_true rfl) dX6_moveModule_53 (fun v_ w_ hq_ => ?_)
          obtain ⟨rfl, rfl⟩ := hq_
          refine g_none ?_
          refine g_aload_n (pc := 56) dX6_moveModule_56 0 rfl ?_
          refine g_iload_n (pc := 57) dX6_moveModule_57 1 rfl ?_
          refine g_iload_n (pc := 58) dX6_moveModule_58 2 rfl ?_
          refine g_callV (pc := 59) (As := [.int (zI m), .int (zI s)]) (rest := []) k_X6_66_X6 (c_X6_append (τ := (rmP τ (st m) (12 * st m + po m) (12 * st m + τ 6 (st m) - 1))) m s (by omega) (rm6_b _ _ (by omega) (by omega) (by omega))) ⟨rfl, rfl, Nat.le_of_ble_eq_true rfl, Nat.le_of_ble_eq_true rfl⟩ (0) 5 rfl rfl am_obj rfl rfl (Nat.le_of_ble_eq_true rfl) dX6_moveModule_59 (fun v_ w_ hq_ => ?_)
          obtain ⟨rfl, rfl⟩ := hq_
          refine g_none ?_
          refine g_aload_n (pc := 62) dX6_moveModule_62 0 rfl ?_
          refine g_get (pc := 63) (ci := 5) inG_X6 rfl 8 (by decide) rfl fl_X6_26 (0) am_obj rfl dX6_moveModule_63 ?_
          refine g_iload_n (pc := 66) dX6_moveModule_66 2 rfl ?_
          refine g_iald (pc := 67) 6 am_6 (by omega) (by decide) dX6_moveModule_67 ?_
          refine g_topI (show apM (rmP τ (st m) (12 * st m + po m) (12 * st m + τ 6 (st m) - 1)) m s 6 s = (rmP τ (st m) (12 * st m + po m) (12 * st m + τ 6 (st m) - 1)) 6 s + 1 from zup_s _ _ _) ?_
          refine g_iconst (pc := 68) dX6_moveModule_68 ?_
          refine g_isub (pc := 69) dX6_moveModule_69 ?_
          exact g_iret (pc := 70) dX6_moveModule_70 rfl (Or.inl ⟨by unfold ok_move; omega, by rw [show ∀ x : Int, x + 1 - 1 = x from fun x => by omega, rm6, a_move_ok (by unfold ok_move; omega)], rfl⟩)
        · refine g_sipush (pc := 47) dX6_moveModule_47 (by omega) ?_
          exact g_iret (pc := 50) dX6_moveModule_50 rfl (Or.inr ⟨by unfold ok_move; omega, by unfold a_move; (repeat' split) <;> first | rfl | (exfalso; omega), rfl⟩)
    · refine g_one ?_
      refine g_if_neF (pc := 17) 24 dX6_moveModule_17 (by decide) (by omega) (by omega) ?_
      refine g_sipush (pc := 20) dX6_moveModule_20 (by omega) ?_
      exact g_iret (pc := 23) dX6_moveModule_23 rfl (Or.inr ⟨by unfold ok_move; omega, by unfold a_move; (repeat' split) <;> first | rfl | (exfalso; omega), rfl⟩)
  · refine g_one ?_
    refine g_if_neF (pc := 5) 12 dX6_moveModule_5 (by decide) (by omega) (by omega) ?_
    refine g_sipush (pc := 8) dX6_moveModule_8 (by omega) ?_
    exact g_iret (pc := 11) dX6_moveModule_11 rfl (Or.inr ⟨by unfold ok_move; omega, by unfold a_move; (repeat' split) <;> first | rfl | (exfalso; omega), rfl⟩)
set_option maxRecDepth 100000 in
set_option maxHeartbeats 2000000 in
/-- PvArrayModel.exchange  -/
theorem c_X6_exchange {D : va_G} {cy : Nat → ClassId} {l : Launch} {bd : Nat → Nat} {τ : Nat → Int → Int} {X : va_W} {st po : Int → Int} (hB : Bd τ) (hP : Pos τ st po) (a : Int) (ha : 0 ≤ a ∧ a < τ 0 1) (b : Int) (hb : 0 ≤ b ∧ b < τ 0 1) : Con D cy l yX6_exchange cX6_exchange 5 none rm_X6_exchange [.ref (bd 0), .int (zI a), .int (zI b)] (MW cy bd τ ++ X) (wv (MW cy bd (xcM τ st po a b) ++ X)) := by
  refine Con.of (lv := [(0, .ref (bd 0)), (1, .int (zI a)), (2, .int (zI b))]) (by decide) (Nat.le_of_ble_eq_true rfl) rfl ?_
  have g1 := hB.sc
  have g2 := hB.mc
  have g3 := hP.1 a ha.1 ha.2
  have g4 := hP.1 b hb.1 hb.2
  have g5 := hB.b6 (st a)
  have g6 := hB.b6 (st b)
  refine g_aload_n (pc := 0) dX6_exchange_0 0 rfl ?_
  refine g_iload_n (pc := 1) dX6_exchange_1 1 rfl ?_
  refine g_callV (pc := 2) (As := [.int (zI a)]) (rest := []) k_X6_73_X6 (c_X6_placeOf (τ := τ) hB hP a (by omega)) ⟨rfl, rfl, Nat.le_of_ble_eq_true rfl, Nat.le_of_ble_eq_true rfl⟩ (0) 5 rfl rfl am_obj rfl rfl (Nat.le_of_ble_eq_true rfl) dX6_exchange_2 (fun v_ w_ hq_ => ?_)
  obtain ⟨rfl, rfl⟩ := hq_
  refine g_one ?_
  refine g_istore_n (pc := 5) (lv' := [(3, .int (zI (12 * st a + po a))), (0, .ref (bd 0)), (1, .int (zI a)), (2, .int (zI b))]) dX6_exchange_5 (by decide) rfl ?_
  refine g_aload_n (pc := 6) dX6_exchange_6 1 rfl ?_
  refine g_iload_n (pc := 7) dX6_exchange_7 3 rfl ?_
  refine g_callV (pc := 8) (As := [.int (zI b)]) (rest := []) k_X6_73_X6 (c_X6_placeOf (τ := τ) hB hP b (by omega)) ⟨rfl, rfl, Nat.le_of_ble_eq_true rfl, Nat.le_of_ble_eq_true rfl⟩ (0) 5 rfl rfl am_obj rfl rfl (Nat.le_of_ble_eq_true rfl) dX6_exchange_8 (fun v_ w_ hq_ => ?_)
  obtain ⟨rfl, rfl⟩ := hq_
  refine g_one ?_
  refine g_istore (pc := 11) (lv' := [(4, .int (zI (12 * st b + po b))), (3, .int (zI (12 * st a + po a))), (0, .ref (bd 0)), (1, .int (zI a)), (2, .int (zI b))]) dX6_exchange_11 (by decide) rfl ?_
  refine g_aload_n (pc := 13) dX6_exchange_13 2 rfl ?_
  refine g_get (pc := 14) (ci := 5) inG_X6 rfl 9 (by decide) rfl fl_X6_29 (0) am_obj rfl dX6_exchange_14 ?_
  refine g_iload_n (pc := 17) dX6_exchange_17 1 rfl ?_
  refine g_iload_n (pc := 18) dX6_exchange_18 4 rfl ?_
  refine g_iast (pc := 19) 7 am_7 (by omega) (by decide) sm_7 dX6_exchange_19 ?_
  refine g_aload_n (pc := 20) dX6_exchange_20 2 rfl ?_
  refine g_get (pc := 21) (ci := 5) inG_X6 rfl 9 (by decide) rfl fl_X6_29 (0) am_obj rfl dX6_exchange_21 ?_
  refine g_iload (pc := 24) dX6_exchange_24 0 rfl ?_
  refine g_iload_n (pc := 26) dX6_exchange_26 3 rfl ?_
  refine g_iast (pc := 27) 7 am_7 (by omega) (by decide) sm_7 dX6_exchange_27 ?_
  exact g_vret (pc := 28) dX6_exchange_28 rfl (wvm_of rfl)
set_option maxRecDepth 100000 in
set_option maxHeartbeats 2000000 in
/-- PvArrayModel.swapModules  -/
theorem c_X6_swapModules {D : va_G} {cy : Nat → ClassId} {l : Launch} {bd : Nat → Nat} {τ : Nat → Int → Int} {X : va_W} {st po : Int → Int} (hB : Bd τ) (hP : Pos τ st po) (a : Int) (ha : -2147483648 ≤ a ∧ a ≤ 2147483647) (b : Int) (hb : -2147483648 ≤ b ∧ b ≤ 2147483647) : Con D cy l yX6_swapModules cX6_swapModules 3 (some .int) rm_X6_swapModules [.ref (bd 0), .int (zI a), .int (zI b)] (MW cy bd τ ++ X) (rwI ((0 ≤ a ∧ a < τ 0 1) ∧ (0 ≤ b ∧ b < τ 0 1)) (a_swap τ st a b) (a_swap τ st a b) (MW cy bd (xcM τ st po a b) ++ X) (MW cy bd τ ++ X)) := by
  refine Con.of (lv := [(0, .ref (bd 0)), (1, .int (zI a)), (2, .int (zI b))]) (by decide) (Nat.le_of_ble_eq_true rfl) rfl ?_
  have g1 := hB.sc
  have g2 := hB.mc
  refine g_aload_n (pc := 0) dX6_swapModules_0 0 rfl ?_
  refine g_iload_n (pc := 1) dX6_swapModules_1 1 rfl ?_
  refine g_callV (pc := 2) (As := [.int (zI a)]) (rest := []) k_X6_70_X6 (c_X6_isModule (τ := τ) hB a (by omega)) ⟨rfl, rfl, Nat.le_of_ble_eq_true rfl, Nat.le_of_ble_eq_true rfl⟩ (0) 5 rfl rfl am_obj rfl rfl (Nat.le_of_ble_eq_true rfl) dX6_swapModules_2 (fun v_ w_ hq_ => ?_)
  rcases hq_ with ⟨rfl, rfl, hm_1⟩ | ⟨rfl, rfl, hm_1⟩
  · refine g_one ?_
    refine g_if_eqF (pc := 5) 16 dX6_swapModules_5 (by decide) (by omega) (by omega) ?_
    refine g_aload_n (pc := 8) dX6_swapModules_8 0 rfl ?_
    refine g_iload_n (pc := 9) dX6_swapModules_9 2 rfl ?_
    refine g_callV (pc := 10) (As := [.int (zI b)]) (rest := []) k_X6_70_X6 (c_X6_isModule (τ := τ) hB b (by omega)) ⟨rfl, rfl, Nat.le_of_ble_eq_true rfl, Nat.le_of_ble_eq_true rfl⟩ (0) 5 rfl rfl am_obj rfl rfl (Nat.le_of_ble_eq_true rfl) dX6_swapModules_10 (fun v_ w_ hq_ => ?_)
    rcases hq_ with ⟨rfl, rfl, hm_2⟩ | ⟨rfl, rfl, hm_2⟩
    · refine g_one ?_
      refine g_if_neT (pc := 13) 20 dX6_swapModules_13 (by decide) (by omega) (by omega) ?_
      refine g_aload_n (pc := 20) dX6_swapModules_20 0 rfl ?_
      refine g_iload_n (pc := 21) dX6_swapModules_21 1 rfl ?_
      refine g_iload_n (pc := 22) dX6_swapModules_22 2 rfl ?_
      refine g_callV (pc := 23) (As := [.int (zI a), .int (zI b)]) (rest := []) k_X6_81_X6 (c_X6_exchange (τ := τ) hB hP a (by omega) b (by omega)) ⟨rfl, rfl, Nat.le_of_ble_eq_true rfl, Nat.le_of_ble_eq_true rfl⟩ (0) 5 rfl rfl am_obj rfl rfl (Nat.le_of_ble_eq_true rfl) dX6_swapModules_23 (fun v_ w_ hq_ => ?_)
      obtain ⟨rfl, rfl⟩ := hq_
      refine g_none ?_
      have ha2 : 0 ≤ a ∧ a < τ 0 1 := by omega
      have hb2 : 0 ≤ b ∧ b < τ 0 1 := by omega
      have hPx := Pos_xc hB hP ha2 hb2
      have hBx := Bd_xc hB st po ha2 hb2
      have g3 := hP.1 a ha2.1 ha2.2
      have g4 := hP.1 b hb2.1 hb2.2
      have g5 := hB.b6 (st a)
      have g6 := hB.b6 (st b)
      have e1 := xst_a st a b
      have e2 := xst_b st a b
      have e3 := xst_a po a b
      have e4 := xst_b po a b
      refine g_aload_n (pc := 26) dX6_swapModules_26 0 rfl ?_
      refine g_iload_n (pc := 27) dX6_swapModules_27 1 rfl ?_
      refine g_callV (pc := 28) (As := [.int (zI a)]) (rest := []) k_X6_73_X6 (c_X6_placeOf (τ := (xcM τ st po a b)) hBx hPx a (ha2)) ⟨rfl, rfl, Nat.le_of_ble_eq_true rfl, Nat.le_of_ble_eq_true rfl⟩ (0) 5 rfl rfl am_obj rfl rfl (Nat.le_of_ble_eq_true rfl) dX6_swapModules_28 (fun v_ w_ hq_ => ?_)
      obtain ⟨rfl, rfl⟩ := hq_
      refine g_one ?_
      refine g_bipush (pc := 31) dX6_swapModules_31 (by omega) ?_
      refine g_idiv (pc := 33) dX6_swapModules_33 (by omega) (by omega) ?_
      refine g_topI (show (12 * xst st a b a + xst po a b a) / 12 = st b by rw [e1, e3]; omega) ?_
      refine g_aload_n (pc := 34) dX6_swapModules_34 0 rfl ?_
      refine g_iload_n (pc := 35) dX6_swapModules_35 2 rfl ?_
      refine g_callV (pc := 36) (As := [.int (zI b)]) (rest := [.int (zI (st b))]) k_X6_73_X6 (c_X6_placeOf (τ := (xcM τ st po a b)) hBx hPx b (hb2)) ⟨rfl, rfl, Nat.le_of_ble_eq_true rfl, Nat.le_of_ble_eq_true rfl⟩ (0) 5 rfl rfl am_obj rfl rfl (Nat.le_of_ble_eq_true rfl) dX6_swapModules_36 (fun v_ w_ hq_ => ?_)
      obtain ⟨rfl, rfl⟩ := hq_
      refine g_one ?_
      refine g_bipush (pc := 39) dX6_swapModules_39 (by omega) ?_
      refine g_idiv (pc := 41) dX6_swapModules_41 (by omega) (by omega) ?_
      refine g_topI (show (12 * xst st a b b + xst po a b b) / 12 = st a by rw [e2, e4]; omega) ?_
      refine g_icmp_ne (pc := 42) 49 dX6_swapModules_42 (by decide) (by omega) (by omega) (fun h_3 => ?_) (fun h_3 => ?_)
      · refine g_iconst (pc := 49) dX6_swapModules_49 ?_
        exact g_iret (pc := 50) dX6_swapModules_50 rfl (Or.inl ⟨by omega, by unfold a_swap; rw [if_pos (by omega)]; rw [if_neg (by omega)], rfl⟩)
      · refine g_iconst (pc := 45) dX6_swapModules_45 ?_
        refine g_goto (pc := 46) 50 dX6_swapModules_46 (by decide) ?_
        exact g_iret (pc := 50) dX6_swapModules_50 rfl (Or.inl ⟨by omega, by unfold a_swap; rw [if_pos (by omega)]; rw [if_pos (by omega)], rfl⟩)
    · refine g_one ?_
      refine g_if_neF (pc := 13) 20 dX6_swapModules_13 (by decide) (by omega) (by omega) ?_
      refine g_sipush (pc := 16) dX6_swapModules_16 (by omega) ?_
      exact g_iret (pc := 19) dX6_swapModules_19 rfl (Or.inr ⟨by omega, by unfold a_swap; (repeat' split) <;> first | rfl | (exfalso; omega), rfl⟩)
  · refine g_one ?_
    refine g_if_eqT (pc := 5) 16 dX6_swapModules_5 (by decide) (by omega) (by omega) ?_
    refine g_sipush (pc := 16) dX6_swapModules_16 (by omega) ?_
    exact g_iret (pc := 19) dX6_swapModules_19 rfl (Or.inr ⟨by omega, by unfold a_swap; (repeat' split) <;> first | rfl | (exfalso; omega), rfl⟩)
set_option maxRecDepth 100000 in
set_option maxHeartbeats 2000000 in
/-- PvArrayModel.stringOf  -/
theorem c_X6_stringOf {D : va_G} {cy : Nat → ClassId} {l : Launch} {bd : Nat → Nat} {τ : Nat → Int → Int} {X : va_W} {st po : Int → Int} (hB : Bd τ) (hP : Pos τ st po) (m : Int) (hm : -2147483648 ≤ m ∧ m ≤ 2147483647) : Con D cy l yX6_stringOf cX6_stringOf 2 (some .int) rm_X6_stringOf [.ref (bd 0), .int (zI m)] (MW cy bd τ ++ X) (rdI (a_stringOf τ st m) (MW cy bd τ ++ X)) := by
  refine Con.of (lv := [(0, .ref (bd 0)), (1, .int (zI m))]) (by decide) (Nat.le_of_ble_eq_true rfl) rfl ?_
  have g1 := hB.sc
  have g2 := hB.mc
  refine g_aload_n (pc := 0) dX6_stringOf_0 0 rfl ?_
  refine g_iload_n (pc := 1) dX6_stringOf_1 1 rfl ?_
  refine g_callV (pc := 2) (As := [.int (zI m)]) (rest := []) k_X6_70_X6 (c_X6_isModule (τ := τ) hB m (by omega)) ⟨rfl, rfl, Nat.le_of_ble_eq_true rfl, Nat.le_of_ble_eq_true rfl⟩ (0) 5 rfl rfl am_obj rfl rfl (Nat.le_of_ble_eq_true rfl) dX6_stringOf_2 (fun v_ w_ hq_ => ?_)
  rcases hq_ with ⟨rfl, rfl, hm_1⟩ | ⟨rfl, rfl, hm_1⟩
  · refine g_one ?_
    refine g_if_eqF (pc := 5) 19 dX6_stringOf_5 (by decide) (by omega) (by omega) ?_
    have g4 := hP.1 m (by omega) (by omega)
    have g5 := hB.b6 (st m)
    refine g_aload_n (pc := 8) dX6_stringOf_8 0 rfl ?_
    refine g_iload_n (pc := 9) dX6_stringOf_9 1 rfl ?_
    refine g_callV (pc := 10) (As := [.int (zI m)]) (rest := []) k_X6_73_X6 (c_X6_placeOf (τ := τ) hB hP m (by omega)) ⟨rfl, rfl, Nat.le_of_ble_eq_true rfl, Nat.le_of_ble_eq_true rfl⟩ (0) 5 rfl rfl am_obj rfl rfl (Nat.le_of_ble_eq_true rfl) dX6_stringOf_10 (fun v_ w_ hq_ => ?_)
    obtain ⟨rfl, rfl⟩ := hq_
    refine g_one ?_
    refine g_bipush (pc := 13) dX6_stringOf_13 (by omega) ?_
    refine g_idiv (pc := 15) dX6_stringOf_15 (by omega) (by omega) ?_
    refine g_topI (show (12 * st m + po m) / 12 = st m by omega) ?_
    refine g_goto (pc := 16) 22 dX6_stringOf_16 (by decide) ?_
    exact g_iret (pc := 22) dX6_stringOf_22 rfl (rdI_of (by unfold a_stringOf; (repeat' split) <;> first | rfl | (exfalso; omega)))
  · refine g_one ?_
    refine g_if_eqT (pc := 5) 19 dX6_stringOf_5 (by decide) (by omega) (by omega) ?_
    refine g_sipush (pc := 19) dX6_stringOf_19 (by omega) ?_
    exact g_iret (pc := 22) dX6_stringOf_22 rfl (rdI_of (by unfold a_stringOf; (repeat' split) <;> first | rfl | (exfalso; omega)))
def u_addMod (τ : Nat → Int → Int) (s r o : Int) : Nat → Int → Int := up (apM (up (up (up (up (up τ 1 (τ 0 1) r) 2 (τ 0 1) o) 3 (τ 0 1) 1000) 4 (τ 0 1) 0) 5 (τ 0 1) 1) (τ 0 1) s) 0 1 (τ 0 1 + 1)
set_option maxRecDepth 100000 in
set_option maxHeartbeats 2000000 in
/-- PvArrayModel.addModule  -/
theorem c_X6_addModule {D : va_G} {cy : Nat → ClassId} {l : Launch} {bd : Nat → Nat} {τ : Nat → Int → Int} {X : va_W} (hB : Bd τ) (s : Int) (hs : -2147483648 ≤ s ∧ s ≤ 2147483647) (r : Int) (hr : -2147483648 ≤ r ∧ r ≤ 2147483647) (o : Int) (ho : -2147483648 ≤ o ∧ o ≤ 2147483647) : Con D cy l yX6_addModule cX6_addModule 4 (some .int) rm_X6_addModule [.ref (bd 0), .int (zI s), .int (zI r), .int (zI o)] (MW cy bd τ ++ X) (rwI (ok_addMod τ s r o) (a_addMod τ s r o) (a_addMod τ s r o) (MW cy bd (u_addMod τ s r o) ++ X) (MW cy bd τ ++ X)) := by
  refine Con.of (lv := [(0, .ref (bd 0)), (1, .int (zI s)), (2, .int (zI r)), (3, .int (zI o))]) (by decide) (Nat.le_of_ble_eq_true rfl) rfl ?_
  have g1 := hB.sc
  have g2 := hB.mc
  have g3 := hB.b6 s
  refine g_aload_n (pc := 0) dX6_addModule_0 0 rfl ?_
  refine g_iload_n (pc := 1) dX6_addModule_1 1 rfl ?_
  refine g_callV (pc := 2) (As := [.int (zI s)]) (rest := []) k_X6_62_X6 (c_X6_isString (τ := τ) hB s (by omega)) ⟨rfl, rfl, Nat.le_of_ble_eq_true rfl, Nat.le_of_ble_eq_true rfl⟩ (0) 5 rfl rfl am_obj rfl rfl (Nat.le_of_ble_eq_true rfl) dX6_addModule_2 (fun v_ w_ hq_ => ?_)
  rcases hq_ with ⟨rfl, rfl, hs_1⟩ | ⟨rfl, rfl, hs_1⟩
  · refine g_one ?_
    refine g_if_neT (pc := 5) 12 dX6_addModule_5 (by decide) (by omega) (by omega) ?_
    refine g_iload_n (pc := 12) dX6_addModule_12 2 rfl ?_
    refine g_iconst (pc := 13) dX6_addModule_13 ?_
    refine g_sipush (pc := 14) dX6_addModule_14 (by omega) ?_
    refine g_callS (pc := 17) (As := [.int (zI r), .int (zI 1), .int (zI 1000)]) (rest := []) k_X6_55_X6 (c_X6_isBetween (τ := τ) r 1 1000 (by omega) (by omega) (by omega)) ⟨rfl, rfl, Nat.le_of_ble_eq_true rfl, Nat.le_of_ble_eq_true rfl⟩ rfl rfl (Nat.le_of_ble_eq_true rfl) dX6_addModule_17 (fun v_ w_ hq_ => ?_)
    rcases hq_ with ⟨rfl, rfl, hw_2⟩ | ⟨rfl, rfl, hw_2⟩
    · refine g_one ?_
      refine g_if_eqF (pc := 20) 34 dX6_addModule_20 (by decide) (by omega) (by omega) ?_
      refine g_iload_n (pc := 23) dX6_addModule_23 3 rfl ?_
      refine g_iconst (pc := 24) dX6_addModule_24 ?_
      refine g_sipush (pc := 25) dX6_addModule_25 (by omega) ?_
      refine g_callS (pc := 28) (As := [.int (zI o), .int (zI 1), .int (zI 600)]) (rest := []) k_X6_55_X6 (c_X6_isBetween (τ := τ) o 1 600 (by omega) (by omega) (by omega)) ⟨rfl, rfl, Nat.le_of_ble_eq_true rfl, Nat.le_of_ble_eq_true rfl⟩ rfl rfl (Nat.le_of_ble_eq_true rfl) dX6_addModule_28 (fun v_ w_ hq_ => ?_)
      rcases hq_ with ⟨rfl, rfl, hw_3⟩ | ⟨rfl, rfl, hw_3⟩
      · refine g_one ?_
        refine g_if_neT (pc := 31) 38 dX6_addModule_31 (by decide) (by omega) (by omega) ?_
        refine g_aload_n (pc := 38) dX6_addModule_38 0 rfl ?_
        refine g_get (pc := 39) (ci := 5) inG_X6 rfl 1 (by decide) rfl fl_X6_52 (0) am_obj rfl dX6_addModule_39 ?_
        refine g_bipush (pc := 42) dX6_addModule_42 (by omega) ?_
        refine g_icmp_eq (pc := 44) 58 dX6_addModule_44 (by decide) (by omega) (by omega) (fun h_4 => ?_) (fun h_4 => ?_)
        · refine g_sipush (pc := 58) dX6_addModule_58 (by omega) ?_
          exact g_iret (pc := 61) dX6_addModule_61 rfl (Or.inr ⟨by unfold ok_addMod; omega, by unfold a_addMod; (repeat' split) <;> first | rfl | (exfalso; omega), rfl⟩)
        · refine g_aload_n (pc := 47) dX6_addModule_47 0 rfl ?_
          refine g_get (pc := 48) (ci := 5) inG_X6 rfl 8 (by decide) rfl fl_X6_26 (0) am_obj rfl dX6_addModule_48 ?_
          refine g_iload_n (pc := 51) dX6_addModule_51 1 rfl ?_
          refine g_iald (pc := 52) 6 am_6 (by omega) (by decide) dX6_addModule_52 ?_
          refine g_bipush (pc := 53) dX6_addModule_53 (by omega) ?_
          refine g_icmp_ne (pc := 55) 62 dX6_addModule_55 (by decide) (by omega) (by omega) (fun h_5 => ?_) (fun h_5 => ?_)
          · refine g_aload_n (pc := 62) dX6_addModule_62 0 rfl ?_
            refine g_get (pc := 63) (ci := 5) inG_X6 rfl 2 (by decide) rfl fl_X6_7 (0) am_obj rfl dX6_addModule_63 ?_
            refine g_aload_n (pc := 66) dX6_addModule_66 0 rfl ?_
            refine g_get (pc := 67) (ci := 5) inG_X6 rfl 1 (by decide) rfl fl_X6_52 (0) am_obj rfl dX6_addModule_67 ?_
            refine g_iload_n (pc := 70) dX6_addModule_70 2 rfl ?_
            refine g_iast (pc := 71) 1 am_1 (by omega) (by decide) sm_1 dX6_addModule_71 ?_
            refine g_aload_n (pc := 72) dX6_addModule_72 0 rfl ?_
            refine g_get (pc := 73) (ci := 5) inG_X6 rfl 3 (by decide) rfl fl_X6_13 (0) am_obj rfl dX6_addModule_73 ?_
            refine g_aload_n (pc := 76) dX6_addModule_76 0 rfl ?_
            refine g_get (pc := 77) (ci := 5) inG_X6 rfl 1 (by decide) rfl fl_X6_52 (0) am_obj rfl dX6_addModule_77 ?_
            refine g_topI (show (up τ 1 (τ 0 1) r) 0 1 = τ 0 1 from rfl) ?_
            refine g_iload_n (pc := 80) dX6_addModule_80 3 rfl ?_
            refine g_iast (pc := 81) 2 am_2 (by omega) (by decide) sm_2 dX6_addModule_81 ?_
            refine g_aload_n (pc := 82) dX6_addModule_82 0 rfl ?_
            refine g_get (pc := 83) (ci := 5) inG_X6 rfl 4 (by decide) rfl fl_X6_16 (0) am_obj rfl dX6_addModule_83 ?_
            refine g_aload_n (pc := 86) dX6_addModule_86 0 rfl ?_
            refine g_get (pc := 87) (ci := 5) inG_X6 rfl 1 (by decide) rfl fl_X6_52 (0) am_obj rfl dX6_addModule_87 ?_
            refine g_topI (show (up (up τ 1 (τ 0 1) r) 2 (τ 0 1) o) 0 1 = τ 0 1 from rfl) ?_
            refine g_sipush (pc := 90) dX6_addModule_90 (by omega) ?_
            refine g_iast (pc := 93) 3 am_3 (by omega) (by decide) sm_3 dX6_addModule_93 ?_
            refine g_aload_n (pc := 94) dX6_addModule_94 0 rfl ?_
            refine g_get (pc := 95) (ci := 5) inG_X6 rfl 5 (by decide) rfl fl_X6_19 (0) am_obj rfl dX6_addModule_95 ?_
            refine g_aload_n (pc := 98) dX6_addModule_98 0 rfl ?_
            refine g_get (pc := 99) (ci := 5) inG_X6 rfl 1 (by decide) rfl fl_X6_52 (0) am_obj rfl dX6_addModule_99 ?_
            refine g_topI (show (up (up (up τ 1 (τ 0 1) r) 2 (τ 0 1) o) 3 (τ 0 1) 1000) 0 1 = τ 0 1 from rfl) ?_
            refine g_iconst (pc := 102) dX6_addModule_102 ?_
            refine g_iast (pc := 103) 4 am_4 (by omega) (by decide) sm_4 dX6_addModule_103 ?_
            refine g_aload_n (pc := 104) dX6_addModule_104 0 rfl ?_
            refine g_get (pc := 105) (ci := 5) inG_X6 rfl 6 (by decide) rfl fl_X6_22 (0) am_obj rfl dX6_addModule_105 ?_
            refine g_aload_n (pc := 108) dX6_addModule_108 0 rfl ?_
            refine g_get (pc := 109) (ci := 5) inG_X6 rfl 1 (by decide) rfl fl_X6_52 (0) am_obj rfl dX6_addModule_109 ?_
            refine g_topI (show (up (up (up (up τ 1 (τ 0 1) r) 2 (τ 0 1) o) 3 (τ 0 1) 1000) 4 (τ 0 1) 0) 0 1 = τ 0 1 from rfl) ?_
            refine g_iconst (pc := 112) dX6_addModule_112 ?_
            refine g_zast (pc := 113) 5 am_5 (by omega) (by decide) (by omega) sm_5 dX6_addModule_113 ?_
            refine g_aload_n (pc := 114) dX6_addModule_114 0 rfl ?_
            refine g_aload_n (pc := 115) dX6_addModule_115 0 rfl ?_
            refine g_get (pc := 116) (ci := 5) inG_X6 rfl 1 (by decide) rfl fl_X6_52 (0) am_obj rfl dX6_addModule_116 ?_
            refine g_topI (show (up (up (up (up (up τ 1 (τ 0 1) r) 2 (τ 0 1) o) 3 (τ 0 1) 1000) 4 (τ 0 1) 0) 5 (τ 0 1) 1) 0 1 = τ 0 1 from rfl) ?_
            refine g_iload_n (pc := 119) dX6_addModule_119 1 rfl ?_
            refine g_callV (pc := 120) (As := [.int (zI (τ 0 1)), .int (zI s)]) (rest := []) k_X6_66_X6 (c_X6_append (τ := (up (up (up (up (up τ 1 (τ 0 1) r) 2 (τ 0 1) o) 3 (τ 0 1) 1000) 4 (τ 0 1) 0) 5 (τ 0 1) 1)) (τ 0 1) s (by omega) (show 0 ≤ τ 6 s ∧ τ 6 s < 12 by omega)) ⟨rfl, rfl, Nat.le_of_ble_eq_true rfl, Nat.le_of_ble_eq_true rfl⟩ (0) 5 rfl rfl am_obj rfl rfl (Nat.le_of_ble_eq_true rfl) dX6_addModule_120 (fun v_ w_ hq_ => ?_)
            obtain ⟨rfl, rfl⟩ := hq_
            refine g_none ?_
            refine g_aload_n (pc := 123) dX6_addModule_123 0 rfl ?_
            refine g_dup (pc := 124) dX6_addModule_124 rfl ?_
            refine g_get (pc := 125) (ci := 5) inG_X6 rfl 1 (by decide) rfl fl_X6_52 (0) am_obj rfl dX6_addModule_125 ?_
            refine g_topI (show (apM (up (up (up (up (up τ 1 (τ 0 1) r) 2 (τ 0 1) o) 3 (τ 0 1) 1000) 4 (τ 0 1) 0) 5 (τ 0 1) 1) (τ 0 1) s) 0 1 = τ 0 1 from rfl) ?_
            refine g_iconst (pc := 128) dX6_addModule_128 ?_
            refine g_iadd (pc := 129) dX6_addModule_129 ?_
            refine g_put (pc := 130) (ci := 5) inG_X6 tyX6 tyX6_ok nmX6 rfl 1 (by decide) rfl rfl fl_X6_52 (0) am_obj rfl rfl (Nat.le_of_ble_eq_true rfl) sm_0_1 dX6_addModule_130 ?_
            refine g_aload_n (pc := 133) dX6_addModule_133 0 rfl ?_
            refine g_get (pc := 134) (ci := 5) inG_X6 rfl 1 (by decide) rfl fl_X6_52 (0) am_obj rfl dX6_addModule_134 ?_
            refine g_iconst (pc := 137) dX6_addModule_137 ?_
            refine g_isub (pc := 138) dX6_addModule_138 ?_
            exact g_iret (pc := 139) dX6_addModule_139 rfl (Or.inl ⟨by unfold ok_addMod; omega, by unfold a_addMod; rw [if_pos (by omega), if_pos (by omega), if_pos (by omega)]; show some (Value.int (zI (zup (τ 0) 1 (τ 0 1 + 1) 1 - 1))) = _; rw [zup_s, show τ 0 1 + 1 - 1 = τ 0 1 by omega], rfl⟩)
          · refine g_sipush (pc := 58) dX6_addModule_58 (by omega) ?_
            exact g_iret (pc := 61) dX6_addModule_61 rfl (Or.inr ⟨by unfold ok_addMod; omega, by unfold a_addMod; (repeat' split) <;> first | rfl | (exfalso; omega), rfl⟩)
      · refine g_one ?_
        refine g_if_neF (pc := 31) 38 dX6_addModule_31 (by decide) (by omega) (by omega) ?_
        refine g_sipush (pc := 34) dX6_addModule_34 (by omega) ?_
        exact g_iret (pc := 37) dX6_addModule_37 rfl (Or.inr ⟨by unfold ok_addMod; omega, by unfold a_addMod; (repeat' split) <;> first | rfl | (exfalso; omega), rfl⟩)
    · refine g_one ?_
      refine g_if_eqT (pc := 20) 34 dX6_addModule_20 (by decide) (by omega) (by omega) ?_
      refine g_sipush (pc := 34) dX6_addModule_34 (by omega) ?_
      exact g_iret (pc := 37) dX6_addModule_37 rfl (Or.inr ⟨by unfold ok_addMod; omega, by unfold a_addMod; (repeat' split) <;> first | rfl | (exfalso; omega), rfl⟩)
  · refine g_one ?_
    refine g_if_neF (pc := 5) 12 dX6_addModule_5 (by decide) (by omega) (by omega) ?_
    refine g_sipush (pc := 8) dX6_addModule_8 (by omega) ?_
    exact g_iret (pc := 11) dX6_addModule_11 rfl (Or.inr ⟨by unfold ok_addMod; omega, by unfold a_addMod; (repeat' split) <;> first | rfl | (exfalso; omega), rfl⟩)
