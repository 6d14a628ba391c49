/-! what the calls that change nothing answer -/
def NOP : Int := -9223372036854775808
def a_moduleAt (g : Nat → Int → Int) (s p : Int) : Int := if 0 ≤ s ∧ s < g 0 2 then (if p < 0 then -1003 else if p < g 6 s then memb g s p else -1005) else -1001
def a_photocurrent (g : Nat → Int → Int) (m : Int) : Int := if 0 ≤ m ∧ m < g 0 1 then photo g m else -1002
def a_moduleVoltage (g : Nat → Int → Int) (m c : Int) : Int := if 0 ≤ m ∧ m < g 0 1 then (if 0 ≤ c ∧ c ≤ 1200 then (if photo g m < c ∧ g 5 m = 0 then -1005 else volt g m c) else -1003) else -1002
def a_modulePeakPower (g : Nat → Int → Int) (m : Int) : Int := if 0 ≤ m ∧ m < g 0 1 then mpeak g m else NOP
def a_currentLimit (g : Nat → Int → Int) (s : Int) : Int := if 0 ≤ s ∧ s < g 0 2 then limit g s else -1001
def a_stringVoltage (g : Nat → Int → Int) (s c : Int) : Int := if 0 ≤ s ∧ s < g 0 2 then (if 0 ≤ c ∧ c ≤ limit g s then svolt g s c else -1003) else -1001
def a_stringPower (g : Nat → Int → Int) (s c : Int) : Int := if 0 ≤ s ∧ s < g 0 2 then (if 0 ≤ c ∧ c ≤ limit g s then spow g s c else NOP) else NOP
def a_bypassedModules (g : Nat → Int → Int) (s c : Int) : Int32 := if 0 ≤ s ∧ s < g 0 2 then (if 0 ≤ c ∧ c ≤ limit g s then byp g s c else zI (-1003)) else zI (-1001)
def a_peakCount (g : Nat → Int → Int) (s : Int) : Int := if 0 ≤ s ∧ s < g 0 2 then pkN (spow g s) (limit g s) (limit g s).toNat else -1001
def a_peakCurrent (g : Nat → Int → Int) (s k : Int) : Int := if 0 ≤ s ∧ s < g 0 2 then (if k < 0 then -1003 else pkS (spow g s) (limit g s) (limit g s).toNat 1 k) else -1001
def a_bestCurrent (g : Nat → Int → Int) (s : Int) : Int := if 0 ≤ s ∧ s < g 0 2 then bestC g s else -1001
def a_bestPower (g : Nat → Int → Int) (s : Int) : Int := if 0 ≤ s ∧ s < g 0 2 then bestP g s else NOP
def a_perturb (g : Nat → Int → Int) (s a t n : Int) : Int := if 0 ≤ s ∧ s < g 0 2 then (if (0 ≤ a ∧ a ≤ limit g s) ∧ (1 ≤ t ∧ t ≤ 100) ∧ (0 ≤ n ∧ n ≤ 200) then pobs (spow g s) (limit g s) t n.toNat a true else -1003) else -1001
def a_scan (g : Nat → Int → Int) (s v : Int) : Int := if 0 ≤ s ∧ s < g 0 2 then (if 1 ≤ v ∧ v ≤ 500 then climb (spow g s) (limit g s) (scan (spow g s) (limit g s) v) else -1003) else -1001
def a_arrayCurrent (g : Nat → Int → Int) (v : Int) : Int := if 0 ≤ v ∧ v ≤ 7200 then acur g v else -1003
def a_total (g : Nat → Int → Int) : Int := sumP (bestP g) (g 0 2).toNat
def a_loss (g : Nat → Int → Int) : Int := sumP (mpeak g) (g 0 1).toNat - sumP (bestP g) (g 0 2).toNat
theorem pkN_s (f : Int → Int) (N : Int) {i : Int} (h : 1 ≤ i) : pkN f N i.toNat = pkN f N (i - 1).toNat + (if pkB f N i = true then 1 else 0) := by
  rw [show i.toNat = (i - 1).toNat + 1 by omega]
  show pkN f N (i - 1).toNat + (if pkB f N (((i - 1).toNat + 1 : Nat) : Int) = true then 1 else 0) = _
  rw [show (((i - 1).toNat + 1 : Nat) : Int) = i by omega]
theorem pkN_b (f : Int → Int) (N : Int) : ∀ n : Nat, 0 ≤ pkN f N n ∧ pkN f N n ≤ n
  | 0 => by simp [pkN]
  | n + 1 => by
    have := pkN_b f N n
    unfold pkN
    split <;> omega
theorem pobs_t (f : Int → Int) (N t c : Int) (n : Nat) : pobs f N t (n + 1) c true = if f c < f (min (c + t) N) then pobs f N t n (min (c + t) N) true else pobs f N t n c false := rfl
theorem pobs_f (f : Int → Int) (N t c : Int) (n : Nat) : pobs f N t (n + 1) c false = if f c < f (max (c - t) 0) then pobs f N t n (max (c - t) 0) false else pobs f N t n c true := rfl
theorem bestP_b {g : Nat → Int → Int} (h : Bd g) (s : Int) : 0 ≤ bestP g s ∧ bestP g s ≤ 8640000 := by
  have h0 := limit_b h s
  have h1 := bestTo_is (spow g s) (limit g s).toNat
  have h2 : 0 ≤ bestC g s ∧ bestC g s ≤ limit g s := bestTo_b _ h0.1
  have h3 := spow_b h s (c := bestC g s) (by omega)
  have h4 : spow g s 0 = 0 := Int.zero_mul _
  have h5 : spow g s 0 ≤ spow g s (bestC g s) := by
    by_cases q : (0 : Int) < bestC g s
    · exact Int.le_of_lt (h1.2.2.1 0 (Int.le_refl _) q)
    · have : bestC g s = 0 := by omega
      rw [this]; exact Int.le_refl _
  unfold bestP
  omega
theorem mpeak_b {g : Nat → Int → Int} (h : Bd g) (i : Int) : 0 ≤ mpeak g i ∧ mpeak g i ≤ 51840000 := by
  have h0 := photo_b h i
  have h1 := bestTo_is (mpow g i) (photo g i).toNat
  have h2 : 0 ≤ mbest g i ∧ mbest g i ≤ photo g i := bestTo_b _ h0.1
  have h3 := mpow_b h i (c := mbest g i) (by omega)
  have h4 : mpow g i 0 = 0 := Int.zero_mul _
  have h5 : mpow g i 0 ≤ mpow g i (mbest g i) := by
    by_cases q : (0 : Int) < mbest g i
    · exact Int.le_of_lt (h1.2.2.1 0 (Int.le_refl _) q)
    · have : mbest g i = 0 := by omega
      rw [this]; exact Int.le_refl _
  unfold mpeak
  omega
set_option maxRecDepth 100000 in
set_option maxHeartbeats 2000000 in
/-- PvArray.moduleAt  -/
theorem c_X5_moduleAt {D : va_G} {cy : Nat → ClassId} {l : Launch} {ad : Nat → Nat} {σ : Nat → Int → Int} {X : va_W} (hB : Bd σ) (s : Int) (hs : -2147483648 ≤ s ∧ s ≤ 2147483647) (p : Int) (hp : -2147483648 ≤ p ∧ p ≤ 2147483647) : Con D cy l yX5_moduleAt cX5_moduleAt 3 (some .int) rm_X5_moduleAt [.ref (ad 0), .int (zI s), .int (zI p)] (CW cy ad σ ++ X) (rdI (a_moduleAt σ s p) (CW cy ad σ ++ X)) := by
  refine Con.of (lv := [(0, .ref (ad 0)), (1, .int (zI s)), (2, .int (zI p))]) (by decide) (Nat.le_of_ble_eq_true rfl) rfl ?_
  have g1 := hB.sc
  have g2 := hB.mc
  have g3 := hB.b6 s
  refine g_aload_n (pc := 0) dX5_moduleAt_0 0 rfl ?_
  refine g_iload_n (pc := 1) dX5_moduleAt_1 1 rfl ?_
  refine g_callV (pc := 2) (As := [.int (zI s)]) (rest := []) k_X5_70_X5 (c_X5_isString (σ := σ) hB s (by omega)) ⟨rfl, rfl, Nat.le_of_ble_eq_true rfl, Nat.le_of_ble_eq_true rfl⟩ (0) 4 rfl rfl at_arr rfl rfl (Nat.le_of_ble_eq_true rfl) dX5_moduleAt_2 (fun v_ w_ hq_ => ?_)
  rcases hq_ with ⟨rfl, rfl, hs_1⟩ | ⟨rfl, rfl, hs_1⟩
  · refine g_one ?_
    refine g_if_neT (pc := 5) 12 dX5_moduleAt_5 (by decide) (by omega) (by omega) ?_
    refine g_iload_n (pc := 12) dX5_moduleAt_12 2 rfl ?_
    refine g_if_ge (pc := 13) 20 dX5_moduleAt_13 (by decide) (by omega) (fun h_2 => ?_) (fun h_2 => ?_)
    · refine g_iload_n (pc := 20) dX5_moduleAt_20 2 rfl ?_
      refine g_aload_n (pc := 21) dX5_moduleAt_21 0 rfl ?_
      refine g_get (pc := 22) (ci := 4) inG_X5 rfl 3 (by decide) rfl fl_X5_63 (0) at_arr rfl dX5_moduleAt_22 ?_
      refine g_iload_n (pc := 25) dX5_moduleAt_25 1 rfl ?_
      refine g_aald (pc := 26) 3 4 at_strs rfl (by omega) (by decide) rfl dX5_moduleAt_26 ?_
      refine g_getN (pc := 27) (ci := 3) inG_X4 rfl 2 (by decide) rfl fl_X5_122 (31 + s.toNat) (at_str (s := s) (by omega)) rfl dX5_moduleAt_27 ?_
      refine g_icmp_ge (pc := 30) 47 dX5_moduleAt_30 (by decide) (by omega) (by omega) (fun h_3 => ?_) (fun h_3 => ?_)
      · refine g_sipush (pc := 47) dX5_moduleAt_47 (by omega) ?_
        exact g_iret (pc := 50) dX5_moduleAt_50 rfl (rdI_of (by unfold a_moduleAt memb; (repeat' split) <;> first | rfl | (exfalso; omega)))
      · refine g_aload_n (pc := 33) dX5_moduleAt_33 0 rfl ?_
        refine g_get (pc := 34) (ci := 4) inG_X5 rfl 3 (by decide) rfl fl_X5_63 (0) at_arr rfl dX5_moduleAt_34 ?_
        refine g_iload_n (pc := 37) dX5_moduleAt_37 1 rfl ?_
        refine g_aald (pc := 38) 3 4 at_strs rfl (by omega) (by decide) rfl dX5_moduleAt_38 ?_
        refine g_getN (pc := 39) (ci := 3) inG_X4 rfl 1 (by decide) rfl fl_X5_123 (31 + s.toNat) (at_str (s := s) (by omega)) rfl dX5_moduleAt_39 ?_
        refine g_iload_n (pc := 42) dX5_moduleAt_42 2 rfl ?_
        refine g_mem (pc := 43) (by omega) (by omega) dX5_moduleAt_43 ?_
        refine g_goto (pc := 44) 50 dX5_moduleAt_44 (by decide) ?_
        exact g_iret (pc := 50) dX5_moduleAt_50 rfl (rdI_of (by unfold a_moduleAt memb; (repeat' split) <;> first | rfl | (exfalso; omega)))
    · refine g_sipush (pc := 16) dX5_moduleAt_16 (by omega) ?_
      exact g_iret (pc := 19) dX5_moduleAt_19 rfl (rdI_of (by unfold a_moduleAt memb; (repeat' split) <;> first | rfl | (exfalso; omega)))
  · refine g_one ?_
    refine g_if_neF (pc := 5) 12 dX5_moduleAt_5 (by decide) (by omega) (by omega) ?_
    refine g_sipush (pc := 8) dX5_moduleAt_8 (by omega) ?_
    exact g_iret (pc := 11) dX5_moduleAt_11 rfl (rdI_of (by unfold a_moduleAt memb; (repeat' split) <;> first | rfl | (exfalso; omega)))
set_option maxRecDepth 100000 in
set_option maxHeartbeats 2000000 in
/-- PvArray.photocurrent  -/
theorem c_X5_photocurrent {D : va_G} {cy : Nat → ClassId} {l : Launch} {ad : Nat → Nat} {σ : Nat → Int → Int} {X : va_W} (hB : Bd σ) (hL : LC σ) (m : Int) (hm : -2147483648 ≤ m ∧ m ≤ 2147483647) : Con D cy l yX5_photocurrent cX5_photocurrent 2 (some .int) rm_X5_photocurrent [.ref (ad 0), .int (zI m)] (CW cy ad σ ++ X) (rdI (a_photocurrent σ m) (CW cy ad σ ++ X)) := by
  refine Con.of (lv := [(0, .ref (ad 0)), (1, .int (zI m))]) (by decide) (Nat.le_of_ble_eq_true rfl) rfl ?_
  have g1 := hB.sc
  have g2 := hB.mc
  refine g_aload_n (pc := 0) dX5_photocurrent_0 0 rfl ?_
  refine g_iload_n (pc := 1) dX5_photocurrent_1 1 rfl ?_
  refine g_callV (pc := 2) (As := [.int (zI m)]) (rest := []) k_X5_96_X5 (c_X5_isModule (σ := σ) hB m (by omega)) ⟨rfl, rfl, Nat.le_of_ble_eq_true rfl, Nat.le_of_ble_eq_true rfl⟩ (0) 4 rfl rfl at_arr rfl rfl (Nat.le_of_ble_eq_true rfl) dX5_photocurrent_2 (fun v_ w_ hq_ => ?_)
  rcases hq_ with ⟨rfl, rfl, hm_1⟩ | ⟨rfl, rfl, hm_1⟩
  · refine g_one ?_
    refine g_if_eqF (pc := 5) 20 dX5_photocurrent_5 (by decide) (by omega) (by omega) ?_
    refine g_aload_n (pc := 8) dX5_photocurrent_8 0 rfl ?_
    refine g_get (pc := 9) (ci := 4) inG_X5 rfl 1 (by decide) rfl fl_X5_59 (0) at_arr rfl dX5_photocurrent_9 ?_
    refine g_iload_n (pc := 12) dX5_photocurrent_12 1 rfl ?_
    refine g_aald (pc := 13) 2 3 at_mods rfl (by omega) (by decide) rfl dX5_photocurrent_13 ?_
    refine g_getN (pc := 14) (ci := 2) inG_X3 rfl 4 (by decide) rfl fl_X5_126 (7 + m.toNat) (at_mod (i := m) (by omega)) rfl dX5_photocurrent_14 ?_
    refine g_topI (hL _) ?_
    refine g_goto (pc := 17) 23 dX5_photocurrent_17 (by decide) ?_
    exact g_iret (pc := 23) dX5_photocurrent_23 rfl (rdI_of (by unfold a_photocurrent; (repeat' split) <;> first | rfl | (exfalso; omega)))
  · refine g_one ?_
    refine g_if_eqT (pc := 5) 20 dX5_photocurrent_5 (by decide) (by omega) (by omega) ?_
    refine g_sipush (pc := 20) dX5_photocurrent_20 (by omega) ?_
    exact g_iret (pc := 23) dX5_photocurrent_23 rfl (rdI_of (by unfold a_photocurrent; (repeat' split) <;> first | rfl | (exfalso; omega)))
set_option maxRecDepth 100000 in
set_option maxHeartbeats 2000000 in
/-- PvArray.moduleVoltage  -/
theorem c_X5_moduleVoltage {D : va_G} {cy : Nat → ClassId} {l : Launch} {ad : Nat → Nat} {σ : Nat → Int → Int} {X : va_W} (hB : Bd σ) (hL : LC σ) (m : Int) (hm : -2147483648 ≤ m ∧ m ≤ 2147483647) (c : Int) (hc : -2147483648 ≤ c ∧ c ≤ 2147483647) : Con D cy l yX5_moduleVoltage cX5_moduleVoltage 3 (some .int) rm_X5_moduleVoltage [.ref (ad 0), .int (zI m), .int (zI c)] (CW cy ad σ ++ X) (rdI (a_moduleVoltage σ m c) (CW cy ad σ ++ X)) := by
  refine Con.of (lv := [(0, .ref (ad 0)), (1, .int (zI m)), (2, .int (zI c))]) (by decide) (Nat.le_of_ble_eq_true rfl) rfl ?_
  have g1 := hB.sc
  have g2 := hB.mc
  have g3 := photo_b hB m
  have g4 := hB.b5 m
  refine g_aload_n (pc := 0) dX5_moduleVoltage_0 0 rfl ?_
  refine g_iload_n (pc := 1) dX5_moduleVoltage_1 1 rfl ?_
  refine g_callV (pc := 2) (As := [.int (zI m)]) (rest := []) k_X5_96_X5 (c_X5_isModule (σ := σ) hB m (by omega)) ⟨rfl, rfl, Nat.le_of_ble_eq_true rfl, Nat.le_of_ble_eq_true rfl⟩ (0) 4 rfl rfl at_arr rfl rfl (Nat.le_of_ble_eq_true rfl) dX5_moduleVoltage_2 (fun v_ w_ hq_ => ?_)
  rcases hq_ with ⟨rfl, rfl, hm_1⟩ | ⟨rfl, rfl, hm_1⟩
  · refine g_one ?_
    refine g_if_neT (pc := 5) 12 dX5_moduleVoltage_5 (by decide) (by omega) (by omega) ?_
    refine g_iload_n (pc := 12) dX5_moduleVoltage_12 2 rfl ?_
    refine g_iconst (pc := 13) dX5_moduleVoltage_13 ?_
    refine g_sipush (pc := 14) dX5_moduleVoltage_14 (by omega) ?_
    refine g_callS (pc := 17) (As := [.int (zI c), .int (zI 0), .int (zI 1200)]) (rest := []) k_X5_74_X5 (c_X5_isWithin (σ := σ) c 0 1200 (by omega) (by omega) (by omega)) ⟨rfl, rfl, Nat.le_of_ble_eq_true rfl, Nat.le_of_ble_eq_true rfl⟩ rfl rfl (Nat.le_of_ble_eq_true rfl) dX5_moduleVoltage_17 (fun v_ w_ hq_ => ?_)
    rcases hq_ with ⟨rfl, rfl, hw_2⟩ | ⟨rfl, rfl, hw_2⟩
    · refine g_one ?_
      refine g_if_neT (pc := 20) 27 dX5_moduleVoltage_20 (by decide) (by omega) (by omega) ?_
      refine g_iload_n (pc := 27) dX5_moduleVoltage_27 2 rfl ?_
      refine g_aload_n (pc := 28) dX5_moduleVoltage_28 0 rfl ?_
      refine g_get (pc := 29) (ci := 4) inG_X5 rfl 1 (by decide) rfl fl_X5_59 (0) at_arr rfl dX5_moduleVoltage_29 ?_
      refine g_iload_n (pc := 32) dX5_moduleVoltage_32 1 rfl ?_
      refine g_aald (pc := 33) 2 3 at_mods rfl (by omega) (by decide) rfl dX5_moduleVoltage_33 ?_
      refine g_getN (pc := 34) (ci := 2) inG_X3 rfl 4 (by decide) rfl fl_X5_126 (7 + m.toNat) (at_mod (i := m) (by omega)) rfl dX5_moduleVoltage_34 ?_
      refine g_topI (hL _) ?_
      refine g_icmp_le (pc := 37) 56 dX5_moduleVoltage_37 (by decide) (by omega) (by omega) (fun h_3 => ?_) (fun h_3 => ?_)
      · refine g_aload_n (pc := 56) dX5_moduleVoltage_56 0 rfl ?_
        refine g_get (pc := 57) (ci := 4) inG_X5 rfl 1 (by decide) rfl fl_X5_59 (0) at_arr rfl dX5_moduleVoltage_57 ?_
        refine g_iload_n (pc := 60) dX5_moduleVoltage_60 1 rfl ?_
        refine g_aald (pc := 61) 2 3 at_mods rfl (by omega) (by decide) rfl dX5_moduleVoltage_61 ?_
        refine g_iload_n (pc := 62) dX5_moduleVoltage_62 2 rfl ?_
        refine g_callV (pc := 63) (As := [.int (zI c)]) (rest := []) k_X5_129_X3 (c_X3_valueAt (σ := σ) hB hL m (by omega) c (by omega)) ⟨rfl, rfl, Nat.le_of_ble_eq_true rfl, Nat.le_of_ble_eq_true rfl⟩ (7 + m.toNat) 2 rfl rfl (at_mod (i := m) (by omega)) rfl rfl (Nat.le_of_ble_eq_true rfl) dX5_moduleVoltage_63 (fun v_ w_ hq_ => ?_)
        obtain ⟨rfl, rfl⟩ := hq_
        refine g_one ?_
        exact g_iret (pc := 66) dX5_moduleVoltage_66 rfl (rdI_of (by unfold a_moduleVoltage; (repeat' split) <;> first | rfl | (exfalso; omega)))
      · refine g_aload_n (pc := 40) dX5_moduleVoltage_40 0 rfl ?_
        refine g_get (pc := 41) (ci := 4) inG_X5 rfl 1 (by decide) rfl fl_X5_59 (0) at_arr rfl dX5_moduleVoltage_41 ?_
        refine g_iload_n (pc := 44) dX5_moduleVoltage_44 1 rfl ?_
        refine g_aald (pc := 45) 2 3 at_mods rfl (by omega) (by decide) rfl dX5_moduleVoltage_45 ?_
        refine g_getN (pc := 46) (ci := 2) inG_X3 rfl 6 (by decide) rfl fl_X5_105 (7 + m.toNat) (at_mod (i := m) (by omega)) rfl dX5_moduleVoltage_46 ?_
        refine g_if_ne (pc := 49) 56 dX5_moduleVoltage_49 (by decide) (by omega) (fun h_4 => ?_) (fun h_4 => ?_)
        · refine g_aload_n (pc := 56) dX5_moduleVoltage_56 0 rfl ?_
          refine g_get (pc := 57) (ci := 4) inG_X5 rfl 1 (by decide) rfl fl_X5_59 (0) at_arr rfl dX5_moduleVoltage_57 ?_
          refine g_iload_n (pc := 60) dX5_moduleVoltage_60 1 rfl ?_
          refine g_aald (pc := 61) 2 3 at_mods rfl (by omega) (by decide) rfl dX5_moduleVoltage_61 ?_
          refine g_iload_n (pc := 62) dX5_moduleVoltage_62 2 rfl ?_
          refine g_callV (pc := 63) (As := [.int (zI c)]) (rest := []) k_X5_129_X3 (c_X3_valueAt (σ := σ) hB hL m (by omega) c (by omega)) ⟨rfl, rfl, Nat.le_of_ble_eq_true rfl, Nat.le_of_ble_eq_true rfl⟩ (7 + m.toNat) 2 rfl rfl (at_mod (i := m) (by omega)) rfl rfl (Nat.le_of_ble_eq_true rfl) dX5_moduleVoltage_63 (fun v_ w_ hq_ => ?_)
          obtain ⟨rfl, rfl⟩ := hq_
          refine g_one ?_
          exact g_iret (pc := 66) dX5_moduleVoltage_66 rfl (rdI_of (by unfold a_moduleVoltage; (repeat' split) <;> first | rfl | (exfalso; omega)))
        · refine g_sipush (pc := 52) dX5_moduleVoltage_52 (by omega) ?_
          exact g_iret (pc := 55) dX5_moduleVoltage_55 rfl (rdI_of (by unfold a_moduleVoltage; (repeat' split) <;> first | rfl | (exfalso; omega)))
    · refine g_one ?_
      refine g_if_neF (pc := 20) 27 dX5_moduleVoltage_20 (by decide) (by omega) (by omega) ?_
      refine g_sipush (pc := 23) dX5_moduleVoltage_23 (by omega) ?_
      exact g_iret (pc := 26) dX5_moduleVoltage_26 rfl (rdI_of (by unfold a_moduleVoltage; (repeat' split) <;> first | rfl | (exfalso; omega)))
  · refine g_one ?_
    refine g_if_neF (pc := 5) 12 dX5_moduleVoltage_5 (by decide) (by omega) (by omega) ?_
    refine g_sipush (pc := 8) dX5_moduleVoltage_8 (by omega) ?_
    exact g_iret (pc := 11) dX5_moduleVoltage_11 rfl (rdI_of (by unfold a_moduleVoltage; (repeat' split) <;> first | rfl | (exfalso; omega)))
set_option maxRecDepth 100000 in
set_option maxHeartbeats 2000000 in
/-- PvArray.modulePeakPower  -/
theorem c_X5_modulePeakPower {D : va_G} {cy : Nat → ClassId} {l : Launch} {ad : Nat → Nat} {σ : Nat → Int → Int} {X : va_W} (hB : Bd σ) (hL : LC σ) (m : Int) (hm : -2147483648 ≤ m ∧ m ≤ 2147483647) : Con D cy l yX5_modulePeakPower cX5_modulePeakPower 2 (some .long) rm_X5_modulePeakPower [.ref (ad 0), .int (zI m)] (CW cy ad σ ++ X) (rdJ (a_modulePeakPower σ m) (CW cy ad σ ++ X)) := by
  refine Con.of (lv := [(0, .ref (ad 0)), (1, .int (zI m))]) (by decide) (Nat.le_of_ble_eq_true rfl) rfl ?_
  have g1 := hB.sc
  have g2 := hB.mc
  refine g_aload_n (pc := 0) dX5_modulePeakPower_0 0 rfl ?_
  refine g_iload_n (pc := 1) dX5_modulePeakPower_1 1 rfl ?_
  refine g_callV (pc := 2) (As := [.int (zI m)]) (rest := []) k_X5_96_X5 (c_X5_isModule (σ := σ) hB m (by omega)) ⟨rfl, rfl, Nat.le_of_ble_eq_true rfl, Nat.le_of_ble_eq_true rfl⟩ (0) 4 rfl rfl at_arr rfl rfl (Nat.le_of_ble_eq_true rfl) dX5_modulePeakPower_2 (fun v_ w_ hq_ => ?_)
  rcases hq_ with ⟨rfl, rfl, hm_1⟩ | ⟨rfl, rfl, hm_1⟩
  · refine g_one ?_
    refine g_if_eqF (pc := 5) 20 dX5_modulePeakPower_5 (by decide) (by omega) (by omega) ?_
    refine g_aload_n (pc := 8) dX5_modulePeakPower_8 0 rfl ?_
    refine g_get (pc := 9) (ci := 4) inG_X5 rfl 1 (by decide) rfl fl_X5_59 (0) at_arr rfl dX5_modulePeakPower_9 ?_
    refine g_iload_n (pc := 12) dX5_modulePeakPower_12 1 rfl ?_
    refine g_aald (pc := 13) 2 3 at_mods rfl (by omega) (by decide) rfl dX5_modulePeakPower_13 ?_
    refine g_callU (pc := 14) (As := []) (rest := []) k_X5_133_X3 (c_X0_greatestProduct_mod (σ := σ) hB hL m (by omega)) ⟨rfl, rfl, Nat.le_of_ble_eq_true rfl, Nat.le_of_ble_eq_true rfl⟩ (7 + m.toNat) 2 rfl rfl (at_mod (i := m) (by omega)) rfl rfl (Nat.le_of_ble_eq_true rfl) dX5_modulePeakPower_14 (fun v_ w_ hq_ => ?_)
    obtain ⟨rfl, rfl⟩ := hq_
    refine g_one ?_
    refine g_goto (pc := 17) 23 dX5_modulePeakPower_17 (by decide) ?_
    exact g_lret (pc := 23) dX5_modulePeakPower_23 rfl (rdJ_of (by unfold a_modulePeakPower; (repeat' split) <;> first | rfl | (exfalso; omega)))
  · refine g_one ?_
    refine g_if_eqT (pc := 5) 20 dX5_modulePeakPower_5 (by decide) (by omega) (by omega) ?_
    refine g_ldc2 (pc := 20) cl_X5_137 dX5_modulePeakPower_20 ?_
    exact g_lret (pc := 23) dX5_modulePeakPower_23 rfl (rdJ_of (by unfold a_modulePeakPower; (repeat' split) <;> first | rfl | (exfalso; omega)))
set_option maxRecDepth 100000 in
set_option maxHeartbeats 2000000 in
/-- PvArray.currentLimit  -/
theorem c_X5_currentLimit {D : va_G} {cy : Nat → ClassId} {l : Launch} {ad : Nat → Nat} {σ : Nat → Int → Int} {X : va_W} (hB : Bd σ) (hL : LC σ) (s : Int) (hs : -2147483648 ≤ s ∧ s ≤ 2147483647) : Con D cy l yX5_currentLimit cX5_currentLimit 2 (some .int) rm_X5_currentLimit [.ref (ad 0), .int (zI s)] (CW cy ad σ ++ X) (rdI (a_currentLimit σ s) (CW cy ad σ ++ X)) := by
  refine Con.of (lv := [(0, .ref (ad 0)), (1, .int (zI s))]) (by decide) (Nat.le_of_ble_eq_true rfl) rfl ?_
  have g1 := hB.sc
  have g2 := hB.mc
  refine g_aload_n (pc := 0) dX5_currentLimit_0 0 rfl ?_
  refine g_iload_n (pc := 1) dX5_currentLimit_1 1 rfl ?_
  refine g_callV (pc := 2) (As := [.int (zI s)]) (rest := []) k_X5_70_X5 (c_X5_isString (σ := σ) hB s (by omega)) ⟨rfl, rfl, Nat.le_of_ble_eq_true rfl, Nat.le_of_ble_eq_true rfl⟩ (0) 4 rfl rfl at_arr rfl rfl (Nat.le_of_ble_eq_true rfl) dX5_currentLimit_2 (fun v_ w_ hq_ => ?_)
  rcases hq_ with ⟨rfl, rfl, hs_1⟩ | ⟨rfl, rfl, hs_1⟩
  · refine g_one ?_
    refine g_if_eqF (pc := 5) 20 dX5_currentLimit_5 (by decide) (by omega) (by omega) ?_
    refine g_aload_n (pc := 8) dX5_currentLimit_8 0 rfl ?_
    refine g_get (pc := 9) (ci := 4) inG_X5 rfl 3 (by decide) rfl fl_X5_63 (0) at_arr rfl dX5_currentLimit_9 ?_
    refine g_iload_n (pc := 12) dX5_currentLimit_12 1 rfl ?_
    refine g_aald (pc := 13) 3 4 at_strs rfl (by omega) (by decide) rfl dX5_currentLimit_13 ?_
    refine g_callV (pc := 14) (As := []) (rest := []) k_X5_139_X4 (c_X4_end (σ := σ) hB hL s (by omega)) ⟨rfl, rfl, Nat.le_of_ble_eq_true rfl, Nat.le_of_ble_eq_true rfl⟩ (31 + s.toNat) 3 rfl rfl (at_str (s := s) (by omega)) rfl rfl (Nat.le_of_ble_eq_true rfl) dX5_currentLimit_14 (fun v_ w_ hq_ => ?_)
    obtain ⟨rfl, rfl⟩ := hq_
    refine g_one ?_
    refine g_goto (pc := 17) 23 dX5_currentLimit_17 (by decide) ?_
    exact g_iret (pc := 23) dX5_currentLimit_23 rfl (rdI_of (by unfold a_currentLimit; (repeat' split) <;> first | rfl | (exfalso; omega)))
  · refine g_one ?_
    refine g_if_eqT (pc := 5) 20 dX5_currentLimit_5 (by decide) (by omega) (by omega) ?_
    refine g_sipush (pc := 20) dX5_currentLimit_20 (by omega) ?_
    exact g_iret (pc := 23) dX5_currentLimit_23 rfl (rdI_of (by unfold a_currentLimit; (repeat' split) <;> first | rfl | (exfalso; omega)))
set_option maxRecDepth 100000 in
set_option maxHeartbeats 2000000 in
/-- PvArray.stringVoltage  -/
theorem c_X5_stringVoltage {D : va_G} {cy : Nat → ClassId} {l : Launch} {ad : Nat → Nat} {σ : Nat → Int → Int} {X : va_W} (hB : Bd σ) (hL : LC σ) (s : Int) (hs : -2147483648 ≤ s ∧ s ≤ 2147483647) (c : Int) (hc : -2147483648 ≤ c ∧ c ≤ 2147483647) : Con D cy l yX5_stringVoltage cX5_stringVoltage 3 (some .int) rm_X5_stringVoltage [.ref (ad 0), .int (zI s), .int (zI c)] (CW cy ad σ ++ X) (rdI (a_stringVoltage σ s c) (CW cy ad σ ++ X)) := by
  refine Con.of (lv := [(0, .ref (ad 0)), (1, .int (zI s)), (2, .int (zI c))]) (by decide) (Nat.le_of_ble_eq_true rfl) rfl ?_
  have g1 := hB.sc
  have g2 := hB.mc
  have g3 := limit_b hB s
  refine g_aload_n (pc := 0) dX5_stringVoltage_0 0 rfl ?_
  refine g_iload_n (pc := 1) dX5_stringVoltage_1 1 rfl ?_
  refine g_callV (pc := 2) (As := [.int (zI s)]) (rest := []) k_X5_70_X5 (c_X5_isString (σ := σ) hB s (by omega)) ⟨rfl, rfl, Nat.le_of_ble_eq_true rfl, Nat.le_of_ble_eq_true rfl⟩ (0) 4 rfl rfl at_arr rfl rfl (Nat.le_of_ble_eq_true rfl) dX5_stringVoltage_2 (fun v_ w_ hq_ => ?_)
  rcases hq_ with ⟨rfl, rfl, hs_1⟩ | ⟨rfl, rfl, hs_1⟩
  · refine g_one ?_
    refine g_if_neT (pc := 5) 12 dX5_stringVoltage_5 (by decide) (by omega) (by omega) ?_
    refine g_iload_n (pc := 12) dX5_stringVoltage_12 2 rfl ?_
    refine g_iconst (pc := 13) dX5_stringVoltage_13 ?_
    refine g_aload_n (pc := 14) dX5_stringVoltage_14 0 rfl ?_
    refine g_get (pc := 15) (ci := 4) inG_X5 rfl 3 (by decide) rfl fl_X5_63 (0) at_arr rfl dX5_stringVoltage_15 ?_
    refine g_iload_n (pc := 18) dX5_stringVoltage_18 1 rfl ?_
    refine g_aald (pc := 19) 3 4 at_strs rfl (by omega) (by decide) rfl dX5_stringVoltage_19 ?_
    refine g_callV (pc := 20) (As := []) (rest := [.int (zI 0), .int (zI c)]) k_X5_139_X4 (c_X4_end (σ := σ) hB hL s (by omega)) ⟨rfl, rfl, Nat.le_of_ble_eq_true rfl, Nat.le_of_ble_eq_true rfl⟩ (31 + s.toNat) 3 rfl rfl (at_str (s := s) (by omega)) rfl rfl (Nat.le_of_ble_eq_true rfl) dX5_stringVoltage_20 (fun v_ w_ hq_ => ?_)
    obtain ⟨rfl, rfl⟩ := hq_
    refine g_one ?_
    refine g_callS (pc := 23) (As := [.int (zI c), .int (zI 0), .int (zI (limit σ s))]) (rest := []) k_X5_74_X5 (c_X5_isWithin (σ := σ) c 0 (limit σ s) (by omega) (by omega) (by omega)) ⟨rfl, rfl, Nat.le_of_ble_eq_true rfl, Nat.le_of_ble_eq_true rfl⟩ rfl rfl (Nat.le_of_ble_eq_true rfl) dX5_stringVoltage_23 (fun v_ w_ hq_ => ?_)
    rcases hq_ with ⟨rfl, rfl, hw_2⟩ | ⟨rfl, rfl, hw_2⟩
    · refine g_one ?_
      refine g_if_neT (pc := 26) 33 dX5_stringVoltage_26 (by decide) (by omega) (by omega) ?_
      refine g_aload_n (pc := 33) dX5_stringVoltage_33 0 rfl ?_
      refine g_get (pc := 34) (ci := 4) inG_X5 rfl 3 (by decide) rfl fl_X5_63 (0) at_arr rfl dX5_stringVoltage_34 ?_
      refine g_iload_n (pc := 37) dX5_stringVoltage_37 1 rfl ?_
      refine g_aald (pc := 38) 3 4 at_strs rfl (by omega) (by decide) rfl dX5_stringVoltage_38 ?_
      refine g_iload_n (pc := 39) dX5_stringVoltage_39 2 rfl ?_
      refine g_callV (pc := 40) (As := [.int (zI c)]) (rest := []) k_X5_143_X4 (c_X4_valueAt (σ := σ) hB hL s (by omega) c (by omega)) ⟨rfl, rfl, Nat.le_of_ble_eq_true rfl, Nat.le_of_ble_eq_true rfl⟩ (31 + s.toNat) 3 rfl rfl (at_str (s := s) (by omega)) rfl rfl (Nat.le_of_ble_eq_true rfl) dX5_stringVoltage_40 (fun v_ w_ hq_ => ?_)
      obtain ⟨rfl, rfl⟩ := hq_
      refine g_one ?_
      exact g_iret (pc := 43) dX5_stringVoltage_43 rfl (rdI_of (by unfold a_stringVoltage; (repeat' split) <;> first | rfl | (exfalso; omega)))
    · refine g_one ?_
      refine g_if_neF (pc := 26) 33 dX5_stringVoltage_26 (by decide) (by omega) (by omega) ?_
      refine g_sipush (pc := 29) dX5_stringVoltage_29 (by omega) ?_
      exact g_iret (pc := 32) dX5_stringVoltage_32 rfl (rdI_of (by unfold a_stringVoltage; (repeat' split) <;> first | rfl | (exfalso; omega)))
  · refine g_one ?_
    refine g_if_neF (pc := 5) 12 dX5_stringVoltage_5 (by decide) (by omega) (by omega) ?_
    refine g_sipush (pc := 8) dX5_stringVoltage_8 (by omega) ?_
    exact g_iret (pc := 11) dX5_stringVoltage_11 rfl (rdI_of (by unfold a_stringVoltage; (repeat' split) <;> first | rfl | (exfalso; omega)))
set_option maxRecDepth 100000 in
set_option maxHeartbeats 2000000 in
/-- PvArray.stringPower  -/
theorem c_X5_stringPower {D : va_G} {cy : Nat → ClassId} {l : Launch} {ad : Nat → Nat} {σ : Nat → Int → Int} {X : va_W} (hB : Bd σ) (hL : LC σ) (s : Int) (hs : -2147483648 ≤ s ∧ s ≤ 2147483647) (c : Int) (hc : -2147483648 ≤ c ∧ c ≤ 2147483647) : Con D cy l yX5_stringPower cX5_stringPower 3 (some .long) rm_X5_stringPower [.ref (ad 0), .int (zI s), .int (zI c)] (CW cy ad σ ++ X) (rdJ (a_stringPower σ s c) (CW cy ad σ ++ X)) := by
  refine Con.of (lv := [(0, .ref (ad 0)), (1, .int (zI s)), (2, .int (zI c))]) (by decide) (Nat.le_of_ble_eq_true rfl) rfl ?_
  have g1 := hB.sc
  have g2 := hB.mc
  have g3 := limit_b hB s
  refine g_aload_n (pc := 0) dX5_stringPower_0 0 rfl ?_
  refine g_iload_n (pc := 1) dX5_stringPower_1 1 rfl ?_
  refine g_callV (pc := 2) (As := [.int (zI s)]) (rest := []) k_X5_70_X5 (c_X5_isString (σ := σ) hB s (by omega)) ⟨rfl, rfl, Nat.le_of_ble_eq_true rfl, Nat.le_of_ble_eq_true rfl⟩ (0) 4 rfl rfl at_arr rfl rfl (Nat.le_of_ble_eq_true rfl) dX5_stringPower_2 (fun v_ w_ hq_ => ?_)
  rcases hq_ with ⟨rfl, rfl, hs_1⟩ | ⟨rfl, rfl, hs_1⟩
  · refine g_one ?_
    refine g_if_eqF (pc := 5) 25 dX5_stringPower_5 (by decide) (by omega) (by omega) ?_
    refine g_iload_n (pc := 8) dX5_stringPower_8 2 rfl ?_
    refine g_iconst (pc := 9) dX5_stringPower_9 ?_
    refine g_aload_n (pc := 10) dX5_stringPower_10 0 rfl ?_
    refine g_get (pc := 11) (ci := 4) inG_X5 rfl 3 (by decide) rfl fl_X5_63 (0) at_arr rfl dX5_stringPower_11 ?_
    refine g_iload_n (pc := 14) dX5_stringPower_14 1 rfl ?_
    refine g_aald (pc := 15) 3 4 at_strs rfl (by omega) (by decide) rfl dX5_stringPower_15 ?_
    refine g_callV (pc := 16) (As := []) (rest := [.int (zI 0), .int (zI c)]) k_X5_139_X4 (c_X4_end (σ := σ) hB hL s (by omega)) ⟨rfl, rfl, Nat.le_of_ble_eq_true rfl, Nat.le_of_ble_eq_true rfl⟩ (31 + s.toNat) 3 rfl rfl (at_str (s := s) (by omega)) rfl rfl (Nat.le_of_ble_eq_true rfl) dX5_stringPower_16 (fun v_ w_ hq_ => ?_)
    obtain ⟨rfl, rfl⟩ := hq_
    refine g_one ?_
    refine g_callS (pc := 19) (As := [.int (zI c), .int (zI 0), .int (zI (limit σ s))]) (rest := []) k_X5_74_X5 (c_X5_isWithin (σ := σ) c 0 (limit σ s) (by omega) (by omega) (by omega)) ⟨rfl, rfl, Nat.le_of_ble_eq_true rfl, Nat.le_of_ble_eq_true rfl⟩ rfl rfl (Nat.le_of_ble_eq_true rfl) dX5_stringPower_19 (fun v_ w_ hq_ => ?_)
    rcases hq_ with ⟨rfl, rfl, hw_2⟩ | ⟨rfl, rfl, hw_2⟩
    · refine g_one ?_
      refine g_if_neT (pc := 22) 29 dX5_stringPower_22 (by decide) (by omega) (by omega) ?_
      refine g_aload_n (pc := 29) dX5_stringPower_29 0 rfl ?_
      refine g_get (pc := 30) (ci := 4) inG_X5 rfl 3 (by decide) rfl fl_X5_63 (0) at_arr rfl dX5_stringPower_30 ?_
      refine g_iload_n (pc := 33) dX5_stringPower_33 1 rfl ?_
      refine g_aald (pc := 34) 3 4 at_strs rfl (by omega) (by decide) rfl dX5_stringPower_34 ?_
      refine g_iload_n (pc := 35) dX5_stringPower_35 2 rfl ?_
      refine g_callU (pc := 36) (As := [.int (zI c)]) (rest := []) k_X5_144_X4 (c_X0_productAt_str (σ := σ) hB hL s (by omega) c (by omega)) ⟨rfl, rfl, Nat.le_of_ble_eq_true rfl, Nat.le_of_ble_eq_true rfl⟩ (31 + s.toNat) 3 rfl rfl (at_str (s := s) (by omega)) rfl rfl (Nat.le_of_ble_eq_true rfl) dX5_stringPower_36 (fun v_ w_ hq_ => ?_)
      obtain ⟨rfl, rfl⟩ := hq_
      refine g_one ?_
      exact g_lret (pc := 39) dX5_stringPower_39 rfl (rdJ_of (by unfold a_stringPower; (repeat' split) <;> first | rfl | (exfalso; omega)))
    · refine g_one ?_
      refine g_if_neF (pc := 22) 29 dX5_stringPower_22 (by decide) (by omega) (by omega) ?_
      refine g_ldc2 (pc := 25) cl_X5_137 dX5_stringPower_25 ?_
      exact g_lret (pc := 28) dX5_stringPower_28 rfl (rdJ_of (by unfold a_stringPower; (repeat' split) <;> first | rfl | (exfalso; omega)))
  · refine g_one ?_
    refine g_if_eqT (pc := 5) 25 dX5_stringPower_5 (by decide) (by omega) (by omega) ?_
    refine g_ldc2 (pc := 25) cl_X5_137 dX5_stringPower_25 ?_
    exact g_lret (pc := 28) dX5_stringPower_28 rfl (rdJ_of (by unfold a_stringPower; (repeat' split) <;> first | rfl | (exfalso; omega)))
set_option maxRecDepth 100000 in
set_option maxHeartbeats 2000000 in
/-- PvArray.bypassedModules  -/
theorem c_X5_bypassedModules {D : va_G} {cy : Nat → ClassId} {l : Launch} {ad : Nat → Nat} {σ : Nat → Int → Int} {X : va_W} (hB : Bd σ) (hL : LC σ) (s : Int) (hs : -2147483648 ≤ s ∧ s ≤ 2147483647) (c : Int) (hc : -2147483648 ≤ c ∧ c ≤ 2147483647) : Con D cy l yX5_bypassedModules cX5_bypassedModules 3 (some .int) rm_X5_bypassedModules [.ref (ad 0), .int (zI s), .int (zI c)] (CW cy ad σ ++ X) (fun v w' => v = some (.int (a_bypassedModules σ s c)) ∧ w' = CW cy ad σ ++ X) := by
  refine Con.of (lv := [(0, .ref (ad 0)), (1, .int (zI s)), (2, .int (zI c))]) (by decide) (Nat.le_of_ble_eq_true rfl) rfl ?_
  have g1 := hB.sc
  have g2 := hB.mc
  have g3 := limit_b hB s
  refine g_aload_n (pc := 0) dX5_bypassedModules_0 0 rfl ?_
  refine g_iload_n (pc := 1) dX5_bypassedModules_1 1 rfl ?_
  refine g_callV (pc := 2) (As := [.int (zI s)]) (rest := []) k_X5_70_X5 (c_X5_isString (σ := σ) hB s (by omega)) ⟨rfl, rfl, Nat.le_of_ble_eq_true rfl, Nat.le_of_ble_eq_true rfl⟩ (0) 4 rfl rfl at_arr rfl rfl (Nat.le_of_ble_eq_true rfl) dX5_bypassedModules_2 (fun v_ w_ hq_ => ?_)
  rcases hq_ with ⟨rfl, rfl, hs_1⟩ | ⟨rfl, rfl, hs_1⟩
  · refine g_one ?_
    refine g_if_neT (pc := 5) 12 dX5_bypassedModules_5 (by decide) (by omega) (by omega) ?_
    refine g_iload_n (pc := 12) dX5_bypassedModules_12 2 rfl ?_
    refine g_iconst (pc := 13) dX5_bypassedModules_13 ?_
    refine g_aload_n (pc := 14) dX5_bypassedModules_14 0 rfl ?_
    refine g_get (pc := 15) (ci := 4) inG_X5 rfl 3 (by decide) rfl fl_X5_63 (0) at_arr rfl dX5_bypassedModules_15 ?_
    refine g_iload_n (pc := 18) dX5_bypassedModules_18 1 rfl ?_
    refine g_aald (pc := 19) 3 4 at_strs rfl (by omega) (by decide) rfl dX5_bypassedModules_19 ?_
    refine g_callV (pc := 20) (As := []) (rest := [.int (zI 0), .int (zI c)]) k_X5_139_X4 (c_X4_end (σ := σ) hB hL s (by omega)) ⟨rfl, rfl, Nat.le_of_ble_eq_true rfl, Nat.le_of_ble_eq_true rfl⟩ (31 + s.toNat) 3 rfl rfl (at_str (s := s) (by omega)) rfl rfl (Nat.le_of_ble_eq_true rfl) dX5_bypassedModules_20 (fun v_ w_ hq_ => ?_)
    obtain ⟨rfl, rfl⟩ := hq_
    refine g_one ?_
    refine g_callS (pc := 23) (As := [.int (zI c), .int (zI 0), .int (zI (limit σ s))]) (rest := []) k_X5_74_X5 (c_X5_isWithin (σ := σ) c 0 (limit σ s) (by omega) (by omega) (by omega)) ⟨rfl, rfl, Nat.le_of_ble_eq_true rfl, Nat.le_of_ble_eq_true rfl⟩ rfl rfl (Nat.le_of_ble_eq_true rfl) dX5_bypassedModules_23 (fun v_ w_ hq_ => ?_)
    rcases hq_ with ⟨rfl, rfl, hw_2⟩ | ⟨rfl, rfl, hw_2⟩
    · refine g_one ?_
      refine g_if_neT (pc := 26) 33 dX5_bypassedModules_26 (by decide) (by omega) (by omega) ?_
      refine g_aload_n (pc := 33) dX5_bypassedModules_33 0 rfl ?_
      refine g_get (pc := 34) (ci := 4) inG_X5 rfl 3 (by decide) rfl fl_X5_63 (0) at_arr rfl dX5_bypassedModules_34 ?_
      refine g_iload_n (pc := 37) dX5_bypassedModules_37 1 rfl ?_
      refine g_aald (pc := 38) 3 4 at_strs rfl (by omega) (by decide) rfl dX5_bypassedModules_38 ?_
      refine g_iload_n (pc := 39) dX5_bypassedModules_39 2 rfl ?_
      refine g_callN (pc := 40) (As := [.int (zI c)]) (rest := []) k_X5_148_X4 (c_X4_bypassedAt (σ := σ) hB hL s (by omega) c (by omega)) ⟨rfl, rfl, Nat.le_of_ble_eq_true rfl, Nat.le_of_ble_eq_true rfl⟩ (31 + s.toNat) 3 rfl rfl (at_str (s := s) (by omega)) rfl rfl (Nat.le_of_ble_eq_true rfl) dX5_bypassedModules_40 (fun v_ w_ hq_ => ?_)
      obtain ⟨rfl, rfl⟩ := hq_
      refine g_one ?_
      exact g_iret (pc := 43) dX5_bypassedModules_43 rfl (⟨by unfold a_bypassedModules; (repeat' split) <;> first | rfl | (exfalso; omega), rfl⟩)
    · refine g_one ?_
      refine g_if_neF (pc := 26) 33 dX5_bypassedModules_26 (by decide) (by omega) (by omega) ?_
      refine g_sipush (pc := 29) dX5_bypassedModules_29 (by omega) ?_
      exact g_iret (pc := 32) dX5_bypassedModules_32 rfl (⟨by unfold a_bypassedModules; (repeat' split) <;> first | rfl | (exfalso; omega), rfl⟩)
  · refine g_one ?_
    refine g_if_neF (pc := 5) 12 dX5_bypassedModules_5 (by decide) (by omega) (by omega) ?_
    refine g_sipush (pc := 8) dX5_bypassedModules_8 (by omega) ?_
    exact g_iret (pc := 11) dX5_bypassedModules_11 rfl (⟨by unfold a_bypassedModules; (repeat' split) <;> first | rfl | (exfalso; omega), rfl⟩)
set_option maxRecDepth 100000 in
set_option maxHeartbeats 2000000 in
/-- PvArray.bestCurrent  -/
theorem c_X5_bestCurrent {D : va_G} {cy : Nat → ClassId} {l : Launch} {ad : Nat → Nat} {σ : Nat → Int → Int} {X : va_W} (hB : Bd σ) (hL : LC σ) (s : Int) (hs : -2147483648 ≤ s ∧ s ≤ 2147483647) : Con D cy l yX5_bestCurrent cX5_bestCurrent 2 (some .int) rm_X5_bestCurrent [.ref (ad 0), .int (zI s)] (CW cy ad σ ++ X) (rdI (a_bestCurrent σ s) (CW cy ad σ ++ X)) := by
  refine Con.of (lv := [(0, .ref (ad 0)), (1, .int (zI s))]) (by decide) (Nat.le_of_ble_eq_true rfl) rfl ?_
  have g1 := hB.sc
  have g2 := hB.mc
  refine g_aload_n (pc := 0) dX5_bestCurrent_0 0 rfl ?_
  refine g_iload_n (pc := 1) dX5_bestCurrent_1 1 rfl ?_
  refine g_callV (pc := 2) (As := [.int (zI s)]) (rest := []) k_X5_70_X5 (c_X5_isString (σ := σ) hB s (by omega)) ⟨rfl, rfl, Nat.le_of_ble_eq_true rfl, Nat.le_of_ble_eq_true rfl⟩ (0) 4 rfl rfl at_arr rfl rfl (Nat.le_of_ble_eq_true rfl) dX5_bestCurrent_2 (fun v_ w_ hq_ => ?_)
  rcases hq_ with ⟨rfl, rfl, hs_1⟩ | ⟨rfl, rfl, hs_1⟩
  · refine g_one ?_
    refine g_if_eqF (pc := 5) 20 dX5_bestCurrent_5 (by decide) (by omega) (by omega) ?_
    refine g_aload_n (pc := 8) dX5_bestCurrent_8 0 rfl ?_
    refine g_get (pc := 9) (ci := 4) inG_X5 rfl 3 (by decide) rfl fl_X5_63 (0) at_arr rfl dX5_bestCurrent_9 ?_
    refine g_iload_n (pc := 12) dX5_bestCurrent_12 1 rfl ?_
    refine g_aald (pc := 13) 3 4 at_strs rfl (by omega) (by decide) rfl dX5_bestCurrent_13 ?_
    refine g_callU (pc := 14) (As := []) (rest := []) k_X5_155_X4 (c_X0_bestPoint_str (σ := σ) hB hL s (by omega)) ⟨rfl, rfl, Nat.le_of_ble_eq_true rfl, Nat.le_of_ble_eq_true rfl⟩ (31 + s.toNat) 3 rfl rfl (at_str (s := s) (by omega)) rfl rfl (Nat.le_of_ble_eq_true rfl) dX5_bestCurrent_14 (fun v_ w_ hq_ => ?_)
    obtain ⟨rfl, rfl⟩ := hq_
    refine g_one ?_
    refine g_goto (pc := 17) 23 dX5_bestCurrent_17 (by decide) ?_
    exact g_iret (pc := 23) dX5_bestCurrent_23 rfl (rdI_of (by unfold a_bestCurrent; (repeat' split) <;> first | rfl | (exfalso; omega)))
  · refine g_one ?_
    refine g_if_eqT (pc := 5) 20 dX5_bestCurrent_5 (by decide) (by omega) (by omega) ?_
    refine g_sipush (pc := 20) dX5_bestCurrent_20 (by omega) ?_
    exact g_iret (pc := 23) dX5_bestCurrent_23 rfl (rdI_of (by unfold a_bestCurrent; (repeat' split) <;> first | rfl | (exfalso; omega)))
set_option maxRecDepth 100000 in
set_option maxHeartbeats 2000000 in
/-- PvArray.bestPower  -/
theorem c_X5_bestPower {D : va_G} {cy : Nat → ClassId} {l : Launch} {ad : Nat → Nat} {σ : Nat → Int → Int} {X : va_W} (hB : Bd σ) (hL : LC σ) (s : Int) (hs : -2147483648 ≤ s ∧ s ≤ 2147483647) : Con D cy l yX5_bestPower cX5_bestPower 2 (some .long) rm_X5_bestPower [.ref (ad 0), .int (zI s)] (CW cy ad σ ++ X) (rdJ (a_bestPower σ s) (CW cy ad σ ++ X)) := by
  refine Con.of (lv := [(0, .ref (ad 0)), (1, .int (zI s))]) (by decide) (Nat.le_of_ble_eq_true rfl) rfl ?_
  have g1 := hB.sc
  have g2 := hB.mc
  refine g_aload_n (pc := 0) dX5_bestPower_0 0 rfl ?_
  refine g_iload_n (pc := 1) dX5_bestPower_1 1 rfl ?_
  refine g_callV (pc := 2) (As := [.int (zI s)]) (rest := []) k_X5_70_X5 (c_X5_isString (σ := σ) hB s (by omega)) ⟨rfl, rfl, Nat.le_of_ble_eq_true rfl, Nat.le_of_ble_eq_true rfl⟩ (0) 4 rfl rfl at_arr rfl rfl (Nat.le_of_ble_eq_true rfl) dX5_bestPower_2 (fun v_ w_ hq_ => ?_)
  rcases hq_ with ⟨rfl, rfl, hs_1⟩ | ⟨rfl, rfl, hs_1⟩
  · refine g_one ?_
    refine g_if_eqF (pc := 5) 20 dX5_bestPower_5 (by decide) (by omega) (by omega) ?_
    refine g_aload_n (pc := 8) dX5_bestPower_8 0 rfl ?_
    refine g_get (pc := 9) (ci := 4) inG_X5 rfl 3 (by decide) rfl fl_X5_63 (0) at_arr rfl dX5_bestPower_9 ?_
    refine g_iload_n (pc := 12) dX5_bestPower_12 1 rfl ?_
    refine g_aald (pc := 13) 3 4 at_strs rfl (by omega) (by decide) rfl dX5_bestPower_13 ?_
    refine g_callU (pc := 14) (As := []) (rest := []) k_X5_158_X4 (c_X0_greatestProduct_str (σ := σ) hB hL s (by omega)) ⟨rfl, rfl, Nat.le_of_ble_eq_true rfl, Nat.le_of_ble_eq_true rfl⟩ (31 + s.toNat) 3 rfl rfl (at_str (s := s) (by omega)) rfl rfl (Nat.le_of_ble_eq_true rfl) dX5_bestPower_14 (fun v_ w_ hq_ => ?_)
    obtain ⟨rfl, rfl⟩ := hq_
    refine g_one ?_
    refine g_goto (pc := 17) 23 dX5_bestPower_17 (by decide) ?_
    exact g_lret (pc := 23) dX5_bestPower_23 rfl (rdJ_of (by unfold a_bestPower; (repeat' split) <;> first | rfl | (exfalso; omega)))
  · refine g_one ?_
    refine g_if_eqT (pc := 5) 20 dX5_bestPower_5 (by decide) (by omega) (by omega) ?_
    refine g_ldc2 (pc := 20) cl_X5_137 dX5_bestPower_20 ?_
    exact g_lret (pc := 23) dX5_bestPower_23 rfl (rdJ_of (by unfold a_bestPower; (repeat' split) <;> first | rfl | (exfalso; omega)))
set_option maxRecDepth 100000 in
set_option maxHeartbeats 2000000 in
/-- PvArray.scanAndClimb  -/
theorem c_X5_scanAndClimb {D : va_G} {cy : Nat → ClassId} {l : Launch} {ad : Nat → Nat} {σ : Nat → Int → Int} {X : va_W} (hB : Bd σ) (hL : LC σ) (s : Int) (hs : -2147483648 ≤ s ∧ s ≤ 2147483647) (v : Int) (hv : -2147483648 ≤ v ∧ v ≤ 2147483647) : Con D cy l yX5_scanAndClimb cX5_scanAndClimb 3 (some .int) rm_X5_scanAndClimb [.ref (ad 0), .int (zI s), .int (zI v)] (CW cy ad σ ++ X) (rdI (a_scan σ s v) (CW cy ad σ ++ X)) := by
  refine Con.of (lv := [(0, .ref (ad 0)), (1, .int (zI s)), (2, .int (zI v))]) (by decide) (Nat.le_of_ble_eq_true rfl) rfl ?_
  have g1 := hB.sc
  have g2 := hB.mc
  have g3 := limit_b hB s
  refine g_aload_n (pc := 0) dX5_scanAndClimb_0 0 rfl ?_
  refine g_iload_n (pc := 1) dX5_scanAndClimb_1 1 rfl ?_
  refine g_callV (pc := 2) (As := [.int (zI s)]) (rest := []) k_X5_70_X5 (c_X5_isString (σ := σ) hB s (by omega)) ⟨rfl, rfl, Nat.le_of_ble_eq_true rfl, Nat.le_of_ble_eq_true rfl⟩ (0) 4 rfl rfl at_arr rfl rfl (Nat.le_of_ble_eq_true rfl) dX5_scanAndClimb_2 (fun v_ w_ hq_ => ?_)
  rcases hq_ with ⟨rfl, rfl, hs_1⟩ | ⟨rfl, rfl, hs_1⟩
  · refine g_one ?_
    refine g_if_neT (pc := 5) 12 dX5_scanAndClimb_5 (by decide) (by omega) (by omega) ?_
    refine g_iload_n (pc := 12) dX5_scanAndClimb_12 2 rfl ?_
    refine g_iconst (pc := 13) dX5_scanAndClimb_13 ?_
    refine g_sipush (pc := 14) dX5_scanAndClimb_14 (by omega) ?_
    refine g_callS (pc := 17) (As := [.int (zI v), .int (zI 1), .int (zI 500)]) (rest := []) k_X5_74_X5 (c_X5_isWithin (σ := σ) v 1 500 (by omega) (by omega) (by omega)) ⟨rfl, rfl, Nat.le_of_ble_eq_true rfl, Nat.le_of_ble_eq_true rfl⟩ rfl rfl (Nat.le_of_ble_eq_true rfl) dX5_scanAndClimb_17 (fun v_ w_ hq_ => ?_)
    rcases hq_ with ⟨rfl, rfl, hw_2⟩ | ⟨rfl, rfl, hw_2⟩
    · refine g_one ?_
      refine g_if_neT (pc := 20) 27 dX5_scanAndClimb_20 (by decide) (by omega) (by omega) ?_
      refine g_aload_n (pc := 27) dX5_scanAndClimb_27 0 rfl ?_
      refine g_get (pc := 28) (ci := 4) inG_X5 rfl 3 (by decide) rfl fl_X5_63 (0) at_arr rfl dX5_scanAndClimb_28 ?_
      refine g_iload_n (pc := 31) dX5_scanAndClimb_31 1 rfl ?_
      refine g_aald (pc := 32) 3 4 at_strs rfl (by omega) (by decide) rfl dX5_scanAndClimb_32 ?_
      refine g_aload_n (pc := 33) dX5_scanAndClimb_33 0 rfl ?_
      refine g_get (pc := 34) (ci := 4) inG_X5 rfl 3 (by decide) rfl fl_X5_63 (0) at_arr rfl dX5_scanAndClimb_34 ?_
      refine g_iload_n (pc := 37) dX5_scanAndClimb_37 1 rfl ?_
      refine g_aald (pc := 38) 3 4 at_strs rfl (by omega) (by decide) rfl dX5_scanAndClimb_38 ?_
      refine g_iload_n (pc := 39) dX5_scanAndClimb_39 2 rfl ?_
      refine g_callN (pc := 40) (As := [.int (zI v)]) (rest := [.ref (ad (31 + s.toNat))]) k_X5_167_X4 (c_X4_bestOfScan (σ := σ) hB hL s (by omega) v (by omega)) ⟨rfl, rfl, Nat.le_of_ble_eq_true rfl, Nat.le_of_ble_eq_true rfl⟩ (31 + s.toNat) 3 rfl rfl (at_str (s := s) (by omega)) rfl rfl (Nat.le_of_ble_eq_true rfl) dX5_scanAndClimb_40 (fun v_ w_ hq_ => ?_)
      obtain ⟨rfl, rfl⟩ := hq_
      refine g_one ?_
      refine g_callN (pc := 43) (As := [.int (zI (scan (spow σ s) (limit σ s) v))]) (rest := []) k_X5_170_X4 (c_X4_climbFrom (σ := σ) hB hL s (by omega) (scan (spow σ s) (limit σ s) v) (by have := scan_b (spow σ s) (N := limit σ s) (v := v) (by omega) (by omega); omega)) ⟨rfl, rfl, Nat.le_of_ble_eq_true rfl, Nat.le_of_ble_eq_true rfl⟩ (31 + s.toNat) 3 rfl rfl (at_str (s := s) (by omega)) rfl rfl (Nat.le_of_ble_eq_true rfl) dX5_scanAndClimb_43 (fun v_ w_ hq_ => ?_)
      obtain ⟨rfl, rfl⟩ := hq_
      refine g_one ?_
      exact g_iret (pc := 46) dX5_scanAndClimb_46 rfl (rdI_of (by unfold a_scan; (repeat' split) <;> first | rfl | (exfalso; omega)))
    · refine g_one ?_
      refine g_if_neF (pc := 20) 27 dX5_scanAndClimb_20 (by decide) (by omega) (by omega) ?_
      refine g_sipush (pc := 23) dX5_scanAndClimb_23 (by omega) ?_
      exact g_iret (pc := 26) dX5_scanAndClimb_26 rfl (rdI_of (by unfold a_scan; (repeat' split) <;> first | rfl | (exfalso; omega)))
  · refine g_one ?_
    refine g_if_neF (pc := 5) 12 dX5_scanAndClimb_5 (by decide) (by omega) (by omega) ?_
    refine g_sipush (pc := 8) dX5_scanAndClimb_8 (by omega) ?_
    exact g_iret (pc := 11) dX5_scanAndClimb_11 rfl (rdI_of (by unfold a_scan; (repeat' split) <;> first | rfl | (exfalso; omega)))
set_option maxRecDepth 100000 in
set_option maxHeartbeats 2000000 in
/-- PvArray.arrayCurrent  -/
theorem c_X5_arrayCurrent {D : va_G} {cy : Nat → ClassId} {l : Launch} {ad : Nat → Nat} {σ : Nat → Int → Int} {X : va_W} (hB : Bd σ) (hL : LC σ) (v : Int) (hv : -2147483648 ≤ v ∧ v ≤ 2147483647) : Con D cy l yX5_arrayCurrent cX5_arrayCurrent 2 (some .int) rm_X5_arrayCurrent [.ref (ad 0), .int (zI v)] (CW cy ad σ ++ X) (rdI (a_arrayCurrent σ v) (CW cy ad σ ++ X)) := by
  refine Con.of (lv := [(0, .ref (ad 0)), (1, .int (zI v))]) (by decide) (Nat.le_of_ble_eq_true rfl) rfl ?_
  have g1 := hB.sc
  have g2 := hB.mc
  refine g_iload_n (pc := 0) dX5_arrayCurrent_0 1 rfl ?_
  refine g_iconst (pc := 1) dX5_arrayCurrent_1 ?_
  refine g_sipush (pc := 2) dX5_arrayCurrent_2 (by omega) ?_
  refine g_callS (pc := 5) (As := [.int (zI v), .int (zI 0), .int (zI 7200)]) (rest := []) k_X5_74_X5 (c_X5_isWithin (σ := σ) v 0 7200 (by omega) (by omega) (by omega)) ⟨rfl, rfl, Nat.le_of_ble_eq_true rfl, Nat.le_of_ble_eq_true rfl⟩ rfl rfl (Nat.le_of_ble_eq_true rfl) dX5_arrayCurrent_5 (fun v_ w_ hq_ => ?_)
  rcases hq_ with ⟨rfl, rfl, hw_1⟩ | ⟨rfl, rfl, hw_1⟩
  · refine g_one ?_
    refine g_if_eqF (pc := 8) 22 dX5_arrayCurrent_8 (by decide) (by omega) (by omega) ?_
    refine g_aload_n (pc := 11) dX5_arrayCurrent_11 0 rfl ?_
    refine g_get (pc := 12) (ci := 4) inG_X5 rfl 4 (by decide) rfl fl_X5_51 (0) at_arr rfl dX5_arrayCurrent_12 ?_
    refine g_iload_n (pc := 15) dX5_arrayCurrent_15 1 rfl ?_
    refine g_callV (pc := 16) (As := [.int (zI v)]) (rest := []) k_X5_173_X2 (c_X2_valueAt (σ := σ) hB hL v (by omega)) ⟨rfl, rfl, Nat.le_of_ble_eq_true rfl, Nat.le_of_ble_eq_true rfl⟩ (4) 1 rfl rfl at_par rfl rfl (Nat.le_of_ble_eq_true rfl) dX5_arrayCurrent_16 (fun v_ w_ hq_ => ?_)
    obtain ⟨rfl, rfl⟩ := hq_
    refine g_one ?_
    refine g_goto (pc := 19) 25 dX5_arrayCurrent_19 (by decide) ?_
    exact g_iret (pc := 25) dX5_arrayCurrent_25 rfl (rdI_of (by unfold a_arrayCurrent; (repeat' split) <;> first | rfl | (exfalso; omega)))
  · refine g_one ?_
    refine g_if_eqT (pc := 8) 22 dX5_arrayCurrent_8 (by decide) (by omega) (by omega) ?_
    refine g_sipush (pc := 22) dX5_arrayCurrent_22 (by omega) ?_
    exact g_iret (pc := 25) dX5_arrayCurrent_25 rfl (rdI_of (by unfold a_arrayCurrent; (repeat' split) <;> first | rfl | (exfalso; omega)))
set_option maxRecDepth 100000 in
set_option maxHeartbeats 2000000 in
/-- PvArray.bestArrayVoltage  -/
theorem c_X5_bestArrayVoltage {D : va_G} {cy : Nat → ClassId} {l : Launch} {ad : Nat → Nat} {σ : Nat → Int → Int} {X : va_W} (hB : Bd σ) (hL : LC σ) : Con D cy l yX5_bestArrayVoltage cX5_bestArrayVoltage 1 (some .int) rm_X5_bestArrayVoltage [.ref (ad 0)] (CW cy ad σ ++ X) (rdI (bestV σ) (CW cy ad σ ++ X)) := by
  refine Con.of (lv := [(0, .ref (ad 0))]) (by decide) (Nat.le_of_ble_eq_true rfl) rfl ?_
  refine g_aload_n (pc := 0) dX5_bestArrayVoltage_0 0 rfl ?_
  refine g_get (pc := 1) (ci := 4) inG_X5 rfl 4 (by decide) rfl fl_X5_51 (0) at_arr rfl dX5_bestArrayVoltage_1 ?_
  refine g_callU (pc := 4) (As := []) (rest := []) k_X5_174_X2 (c_X0_bestPoint_par (σ := σ) hB hL) ⟨rfl, rfl, Nat.le_of_ble_eq_true rfl, Nat.le_of_ble_eq_true rfl⟩ (4) 1 rfl rfl at_par rfl rfl (Nat.le_of_ble_eq_true rfl) dX5_bestArrayVoltage_4 (fun v_ w_ hq_ => ?_)
  obtain ⟨rfl, rfl⟩ := hq_
  refine g_one ?_
  exact g_iret (pc := 7) dX5_bestArrayVoltage_7 rfl (rdI_of rfl)
