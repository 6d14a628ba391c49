theorem setR_put (σ : Nat → Int → Int) (f : Nat) (r : Int → Int) (i v : Int) : up (setR σ f r) f i v = setR σ f (zup r i v) := by
  funext g
  by_cases h : g = f
  · subst h; rw [up_r, setR_s, setR_s]
  · rw [up_o _ _ _ h, setR_o _ _ h, setR_o _ _ h]
theorem setR_id (σ : Nat → Int → Int) (f : Nat) : setR σ f (σ f) = σ := by
  funext g
  by_cases h : g = f
  · subst h; rw [setR_s]
  · rw [setR_o _ _ h]
set_option maxRecDepth 100000 in
set_option maxHeartbeats 2000000 in
/-- PvArray.sortByLightCurrent, the loop at 12  -/
theorem lp_X5_sortI {D : va_G} {cy : Nat → ClassId} {l : Launch} {ad : Nat → Nat} {σ : Nat → Int → Int} {X : va_W} (hB : Bd σ) (hL : LC σ) (h12 : ∀ j, 0 ≤ σ 12 j ∧ σ 12 j ≤ 23) (m : Int) (hm : 0 ≤ m ∧ m < σ 0 1) (F1 : Int → Int) (kk : GO D cy l rm_X5_sortByLightCurrent cX5_sortByLightCurrent 3 yX5_sortByLightCurrent.cls none (CW cy ad σ ++ X) (wv (CW cy ad (setR σ 12 (srtR (photo σ) (σ 0 1).toNat (σ 12))) ++ X)) (CW cy ad (setR σ 12 F1) ++ X) 2 [(0, .ref (ad 0)), (1, .int (zI (m + 1)))] []) : ∀ (n : Nat) (k : Int) (F : Int → Int), 0 ≤ k → k ≤ m → (∀ j, 0 ≤ F j ∧ F j ≤ 23) → insR (photo σ) m k.toNat F = F1 → k.toNat < n → GO D cy l rm_X5_sortByLightCurrent cX5_sortByLightCurrent 3 yX5_sortByLightCurrent.cls none (CW cy ad σ ++ X) (wv (CW cy ad (setR σ 12 (srtR (photo σ) (σ 0 1).toNat (σ 12))) ++ X)) (CW cy ad (setR σ 12 F) ++ X) 12 [(0, .ref (ad 0)), (1, .int (zI m)), (2, .int (zI k))] [] := by
  intro n
  induction n with
  | zero =>
    intro k F hk hk2 hF ht hn
    exact absurd hn (Nat.not_lt_zero _)
  | succ n ih =>
    intro k F hk hk2 hF ht hn
    have g1 := hB.sc
    have g2 := hB.mc
    refine g_iload_n (pc := 12) dX5_sortByLightCurrent_12 2 rfl ?_
    refine g_if_le (pc := 13) 64 dX5_sortByLightCurrent_13 (by decide) (by omega) (fun h_1 => ?_) (fun h_1 => ?_)
    · refine g_aload_n (pc := 64) dX5_sortByLightCurrent_64 0 rfl ?_
      refine g_get (pc := 65) (ci := 4) inG_X5 rfl 9 (by decide) rfl fl_X5_29 (0) at_arr rfl dX5_sortByLightCurrent_65 ?_
      refine g_iload_n (pc := 68) dX5_sortByLightCurrent_68 2 rfl ?_
      refine g_iload_n (pc := 69) dX5_sortByLightCurrent_69 1 rfl ?_
      refine g_iast (pc := 70) 6 at_srt (by omega) (by decide) st_12 dX5_sortByLightCurrent_70 ?_
      refine g_iinc (pc := 71) (lv' := [(1, .int (zI (m + 1))), (0, .ref (ad 0)), (2, .int (zI k))]) dX5_sortByLightCurrent_71 (by decide) 1 rfl rfl ?_
      refine g_goto (pc := 74) 2 dX5_sortByLightCurrent_74 (by decide) ?_
      refine g_sub (lv' := [(0, .ref (ad 0)), (1, .int (zI (m + 1)))]) [1, 0] rfl ?_
      refine g_world (w' := CW cy ad (setR σ 12 F1) ++ X) (by rw [setR_put, ← ht]; first | rw [insR_0 (photo σ) m F (k := k) (by omega)] | rw [insR_n (ph := photo σ) (m := m) (F := F) (k := k) (by omega) (by omega)]) ?_
      exact kk
    · have g3 := hF (k - 1)
      have g4 := photo_b hB (F (k - 1))
      have g5 := photo_b hB m
      refine g_aload_n (pc := 16) dX5_sortByLightCurrent_16 0 rfl ?_
      refine g_get (pc := 17) (ci := 4) inG_X5 rfl 1 (by decide) rfl fl_X5_59 (0) at_arr rfl dX5_sortByLightCurrent_17 ?_
      refine g_aload_n (pc := 20) dX5_sortByLightCurrent_20 0 rfl ?_
      refine g_get (pc := 21) (ci := 4) inG_X5 rfl 9 (by decide) rfl fl_X5_29 (0) at_arr rfl dX5_sortByLightCurrent_21 ?_
      refine g_iload_n (pc := 24) dX5_sortByLightCurrent_24 2 rfl ?_
      refine g_iconst (pc := 25) dX5_sortByLightCurrent_25 ?_
      refine g_isub (pc := 26) dX5_sortByLightCurrent_26 ?_
      refine g_iald (pc := 27) 6 at_srt (by omega) (by decide) dX5_sortByLightCurrent_27 ?_
      refine g_topI (show (setR σ 12 F) 12 (k - 1) = F (k - 1) from rfl) ?_
      refine g_aald (pc := 28) 2 3 at_mods rfl (by omega) (by decide) rfl dX5_sortByLightCurrent_28 ?_
      refine g_getN (pc := 29) (ci := 2) inG_X3 rfl 4 (by decide) rfl fl_X5_126 (7 + (F (k - 1)).toNat) (at_mod (i := (F (k - 1))) (by omega)) rfl dX5_sortByLightCurrent_29 ?_
      refine g_topI (show (setR σ 12 F) 8 (F (k - 1)) = photo σ (F (k - 1)) from hL _) ?_
      refine g_aload_n (pc := 32) dX5_sortByLightCurrent_32 0 rfl ?_
      refine g_get (pc := 33) (ci := 4) inG_X5 rfl 1 (by decide) rfl fl_X5_59 (0) at_arr rfl dX5_sortByLightCurrent_33 ?_
      refine g_iload_n (pc := 36) dX5_sortByLightCurrent_36 1 rfl ?_
      refine g_aald (pc := 37) 2 3 at_mods rfl (by omega) (by decide) rfl dX5_sortByLightCurrent_37 ?_
      refine g_getN (pc := 38) (ci := 2) inG_X3 rfl 4 (by decide) rfl fl_X5_126 (7 + m.toNat) (at_mod (i := m) (by omega)) rfl dX5_sortByLightCurrent_38 ?_
      refine g_topI (show (setR σ 12 F) 8 m = photo σ m from hL _) ?_
      refine g_icmp_ge (pc := 41) 64 dX5_sortByLightCurrent_41 (by decide) (by omega) (by omega) (fun h_2 => ?_) (fun h_2 => ?_)
      · refine g_aload_n (pc := 64) dX5_sortByLightCurrent_64 0 rfl ?_
        refine g_get (pc := 65) (ci := 4) inG_X5 rfl 9 (by decide) rfl fl_X5_29 (0) at_arr rfl dX5_sortByLightCurrent_65 ?_
        refine g_iload_n (pc := 68) dX5_sortByLightCurrent_68 2 rfl ?_
        refine g_iload_n (pc := 69) dX5_sortByLightCurrent_69 1 rfl ?_
        refine g_iast (pc := 70) 6 at_srt (by omega) (by decide) st_12 dX5_sortByLightCurrent_70 ?_
        refine g_iinc (pc := 71) (lv' := [(1, .int (zI (m + 1))), (0, .ref (ad 0)), (2, .int (zI k))]) dX5_sortByLightCurrent_71 (by decide) 1 rfl rfl ?_
        refine g_goto (pc := 74) 2 dX5_sortByLightCurrent_74 (by decide) ?_
        refine g_sub (lv' := [(0, .ref (ad 0)), (1, .int (zI (m + 1)))]) [1, 0] rfl ?_
        refine g_world (w' := CW cy ad (setR σ 12 F1) ++ X) (by rw [setR_put, ← ht]; first | rw [insR_0 (photo σ) m F (k := k) (by omega)] | rw [insR_n (ph := photo σ) (m := m) (F := F) (k := k) (by omega) (by omega)]) ?_
        exact kk
      · refine g_aload_n (pc := 44) dX5_sortByLightCurrent_44 0 rfl ?_
        refine g_get (pc := 45) (ci := 4) inG_X5 rfl 9 (by decide) rfl fl_X5_29 (0) at_arr rfl dX5_sortByLightCurrent_45 ?_
        refine g_iload_n (pc := 48) dX5_sortByLightCurrent_48 2 rfl ?_
        refine g_aload_n (pc := 49) dX5_sortByLightCurrent_49 0 rfl ?_
        refine g_get (pc := 50) (ci := 4) inG_X5 rfl 9 (by decide) rfl fl_X5_29 (0) at_arr rfl dX5_sortByLightCurrent_50 ?_
        refine g_iload_n (pc := 53) dX5_sortByLightCurrent_53 2 rfl ?_
        refine g_iconst (pc := 54) dX5_sortByLightCurrent_54 ?_
        refine g_isub (pc := 55) dX5_sortByLightCurrent_55 ?_
        refine g_iald (pc := 56) 6 at_srt (by omega) (by decide) dX5_sortByLightCurrent_56 ?_
        refine g_topI (show (setR σ 12 F) 12 (k - 1) = F (k - 1) from rfl) ?_
        refine g_iast (pc := 57) 6 at_srt (by omega) (by decide) st_12 dX5_sortByLightCurrent_57 ?_
        refine g_iinc (pc := 58) (lv' := [(2, .int (zI (k + (-1)))), (0, .ref (ad 0)), (1, .int (zI m))]) dX5_sortByLightCurrent_58 (by decide) 2 rfl rfl ?_
        refine g_goto (pc := 61) 12 dX5_sortByLightCurrent_61 (by decide) ?_
        refine g_sub (lv' := [(0, .ref (ad 0)), (1, .int (zI m)), (2, .int (zI (k + (-1))))]) [1, 2, 0] rfl ?_
        refine g_world (w' := CW cy ad (setR σ 12 (zup F k (F (k - 1)))) ++ X) (by rw [setR_put]) ?_
        refine g_lv (lv' := [(0, .ref (ad 0)), (1, .int (zI m)), (2, .int (zI (k - 1)))]) (by rw [show k + (-1) = k - 1 by omega]) ?_
        exact ih (k - 1) (zup F k (F (k - 1))) (by omega) (by omega) (zup_b hF (hF _)) (by rw [← ht, insR_y (ph := photo σ) (m := m) (F := F) (k := k) (by omega) (by omega)]) (by omega)
set_option maxRecDepth 100000 in
set_option maxHeartbeats 2000000 in
/-- PvArray.sortByLightCurrent, the loop at 2  -/
theorem lp_X5_sortO {D : va_G} {cy : Nat → ClassId} {l : Launch} {ad : Nat → Nat} {σ : Nat → Int → Int} {X : va_W} (hB : Bd σ) (hL : LC σ) (h12 : ∀ j, 0 ≤ σ 12 j ∧ σ 12 j ≤ 23) : ∀ (n : Nat) (m : Int), 0 ≤ m → m ≤ σ 0 1 → (σ 0 1 - m).toNat < n → GO D cy l rm_X5_sortByLightCurrent cX5_sortByLightCurrent 3 yX5_sortByLightCurrent.cls none (CW cy ad σ ++ X) (wv (CW cy ad (setR σ 12 (srtR (photo σ) (σ 0 1).toNat (σ 12))) ++ X)) (CW cy ad (setR σ 12 (srtR (photo σ) m.toNat (σ 12))) ++ X) 2 [(0, .ref (ad 0)), (1, .int (zI m))] [] := by
  intro n
  induction n with
  | zero =>
    intro m hm hm2 hn
    exact absurd hn (Nat.not_lt_zero _)
  | succ n ih =>
    intro m hm hm2 hn
    have g1 := hB.sc
    have g2 := hB.mc
    refine g_iload_n (pc := 2) dX5_sortByLightCurrent_2 1 rfl ?_
    refine g_aload_n (pc := 3) dX5_sortByLightCurrent_3 0 rfl ?_
    refine g_get (pc := 4) (ci := 4) inG_X5 rfl 2 (by decide) rfl fl_X5_9 (0) at_arr rfl dX5_sortByLightCurrent_4 ?_
    refine g_topI (show (setR σ 12 (srtR (photo σ) m.toNat (σ 12))) 0 1 = σ 0 1 from rfl) ?_
    refine g_icmp_ge (pc := 7) 77 dX5_sortByLightCurrent_7 (by decide) (by omega) (by omega) (fun h_1 => ?_) (fun h_1 => ?_)
    · exact g_vret (pc := 77) dX5_sortByLightCurrent_77 rfl (wv_of (by rw [show m = σ 0 1 by omega]))
    · refine g_iload_n (pc := 10) dX5_sortByLightCurrent_10 1 rfl ?_
      refine g_istore_n (pc := 11) (lv' := [(2, .int (zI m)), (0, .ref (ad 0)), (1, .int (zI m))]) dX5_sortByLightCurrent_11 (by decide) rfl ?_
      refine g_sub (lv' := [(0, .ref (ad 0)), (1, .int (zI m)), (2, .int (zI m))]) [1, 2, 0] rfl ?_
      exact lp_X5_sortI hB hL h12 m (by omega) (srtR (photo σ) (m + 1).toNat (σ 12)) (ih (m + 1) (by omega) (by omega) (by omega)) (m.toNat + 1) m _ (by omega) (by omega) (srtR_b _ (by omega) h12) (by rw [srtR_s _ _ hm]) (by omega)
set_option maxRecDepth 100000 in
set_option maxHeartbeats 2000000 in
/-- PvArray.sortByLightCurrent  -/
theorem c_X5_sortByLightCurrent {D : va_G} {cy : Nat → ClassId} {l : Launch} {ad : Nat → Nat} {σ : Nat → Int → Int} {X : va_W} (hB : Bd σ) (hL : LC σ) (h12 : ∀ j, 0 ≤ σ 12 j ∧ σ 12 j ≤ 23) : Con D cy l yX5_sortByLightCurrent cX5_sortByLightCurrent 3 none rm_X5_sortByLightCurrent [.ref (ad 0)] (CW cy ad σ ++ X) (wv (CW cy ad (setR σ 12 (srtR (photo σ) (σ 0 1).toNat (σ 12))) ++ X)) := by
  refine Con.of (lv := [(0, .ref (ad 0))]) (by decide) (Nat.le_of_ble_eq_true rfl) rfl ?_
  have g1 := hB.sc
  have g2 := hB.mc
  refine g_iconst (pc := 0) dX5_sortByLightCurrent_0 ?_
  refine g_istore_n (pc := 1) (lv' := [(1, .int (zI 0)), (0, .ref (ad 0))]) dX5_sortByLightCurrent_1 (by decide) rfl ?_
  refine g_sub (lv' := [(0, .ref (ad 0)), (1, .int (zI 0))]) [1, 0] rfl ?_
  refine g_world (w' := CW cy ad (setR σ 12 (srtR (photo σ) (0 : Int).toNat (σ 12))) ++ X) (by rw [show srtR (photo σ) (0 : Int).toNat (σ 12) = σ 12 from rfl, setR_id]) ?_
  exact lp_X5_sortO hB hL h12 ((σ 0 1).toNat + 1) 0 (by omega) (by omega) (by omega)
abbrev srtF (σ : Nat → Int → Int) : Int → Int := srtR (photo σ) (σ 0 1).toNat (σ 12)
def RG (σ : Nat → Int → Int) (nx : Int) (r9 r10 : Int → Int) : Prop := (∀ k, 0 ≤ k → k < nx → r9 (srtF σ k) = sof σ k ∧ r10 (srtF σ k) = k - off σ (sof σ k)) ∧ (∀ i, (∀ k, 0 ≤ k → k < nx → srtF σ k ≠ i) → r9 i = σ 9 i ∧ r10 i = σ 10 i)
theorem RG_0 (σ : Nat → Int → Int) : RG σ 0 (σ 9) (σ 10) := ⟨fun k h1 h2 => absurd h1 (by omega), fun i _ => ⟨rfl, rfl⟩⟩
theorem RG_at {σ : Nat → Int → Int} {nx : Int} {r9 r10 : Int → Int} (h : RG σ nx r9 r10) (h0 : 0 ≤ nx) (h1 : nx < σ 0 1) : r9 (srtF σ nx) = σ 9 (srtF σ nx) := (h.2 _ (fun k q1 q2 e => by
    have := srt_inj (n := (σ 0 1).toNat) (a := k) (b := nx) (by omega) (by omega) e
    omega)).1
theorem RG_s {σ : Nat → Int → Int} {s p : Int} {r9 r10 : Int → Int} (h : RG σ (off σ s + p) r9 r10) (h0 : 0 ≤ off σ s + p) (h1 : off σ s + p < σ 0 1) (hs : sof σ (off σ s + p) = s) : RG σ (off σ s + p + 1) (zup r9 (srtF σ (off σ s + p)) s) (zup r10 (srtF σ (off σ s + p)) p) := by
  refine ⟨fun k q1 q2 => ?_, fun i q => ?_⟩
  · by_cases e : k = off σ s + p
    · subst e
      rw [zup_s, zup_s, hs]
      omega
    · have hne : srtF σ k ≠ srtF σ (off σ s + p) := fun q => e (srt_inj (n := (σ 0 1).toNat) (by omega) (by omega) q)
      rw [zup_n _ _ hne, zup_n _ _ hne]
      exact h.1 k q1 (by omega)
  · have hne : i ≠ srtF σ (off σ s + p) := fun e => q _ h0 (by omega) e.symm
    rw [zup_n _ _ hne, zup_n _ _ hne]
    exact h.2 i (fun k q1 q2 => q k q1 (by omega))
set_option maxRecDepth 100000 in
set_option maxHeartbeats 2000000 in
/-- PvArray.regroup, the loop at 24  -/
theorem lp_X5_regI {D : va_G} {cy : Nat → ClassId} {l : Launch} {ad : Nat → Nat} {σ : Nat → Int → Int} {X : va_W} (hB : Bd σ) (hL : LC σ) (h12 : ∀ j, 0 ≤ σ 12 j ∧ σ 12 j ≤ 23) (hO : off σ (σ 0 2) = σ 0 1) (h9b : ∀ i, 0 ≤ σ 9 i ∧ σ 9 i ≤ 5) (s : Int) (hs : 0 ≤ s ∧ s < σ 0 2) (kk : ∀ r9 r10, RG σ (off σ (s + 1)) r9 r10 → GO D cy l rm_X5_regroup cX5_regroup 6 yX5_regroup.cls (some .int) (CW cy ad σ ++ X) (fun v w' => ∃ r9 r10, v = some (.int (zI (sumP (mvN σ (srtF σ)) (σ 0 1).toNat))) ∧ w' = CW cy ad (rgS σ (srtF σ) (σ 0 2) 0 r9 r10) ++ X ∧ RG σ (σ 0 1) r9 r10) (CW cy ad (rgS σ (srtF σ) (s + 1) 0 r9 r10) ++ X) 10 [(0, .ref (ad 0)), (1, .int (zI (sumP (mvN σ (srtF σ)) (off σ (s + 1)).toNat))), (2, .int (zI (off σ (s + 1)))), (3, .int (zI (s + 1)))] []) : ∀ (n : Nat) (p : Int) (r9 r10 : Int → Int), 0 ≤ p → p ≤ σ 6 s → RG σ (off σ s + p) r9 r10 → (σ 6 s - p).toNat < n → GO D cy l rm_X5_regroup cX5_regroup 6 yX5_regroup.cls (some .int) (CW cy ad σ ++ X) (fun v w' => ∃ r9 r10, v = some (.int (zI (sumP (mvN σ (srtF σ)) (σ 0 1).toNat))) ∧ w' = CW cy ad (rgS σ (srtF σ) (σ 0 2) 0 r9 r10) ++ X ∧ RG σ (σ 0 1) r9 r10) (CW cy ad (rgS σ (srtF σ) s p r9 r10) ++ X) 24 [(0, .ref (ad 0)), (1, .int (zI (sumP (mvN σ (srtF σ)) (off σ s + p).toNat))), (2, .int (zI (off σ s + p))), (3, .int (zI s)), (4, .int (zI p))] [] := by
  intro n
  induction n with
  | zero =>
    intro p r9 r10 hp hp2 hr hn
    exact absurd hn (Nat.not_lt_zero _)
  | succ n ih =>
    intro p r9 r10 hp hp2 hr hn
    have g1 := hB.sc
    have g2 := hB.mc
    have g3 := hB.b6 s
    have g4 := off_0 hB s
    have g5 := off_le hB (a := s + 1) (b := σ 0 2) (by omega)
    have g6 := off_s σ hs.1
    have g7 := srtR_b (ph := photo σ) (σ 0 1).toNat (B := 23) (by omega) h12
    refine g_iload (pc := 24) dX5_regroup_24 4 rfl ?_
    refine g_aload_n (pc := 26) dX5_regroup_26 0 rfl ?_
    refine g_get (pc := 27) (ci := 4) inG_X5 rfl 3 (by decide) rfl fl_X5_63 (0) at_arr rfl dX5_regroup_27 ?_
    refine g_iload_n (pc := 30) dX5_regroup_30 3 rfl ?_
    refine g_aald (pc := 31) 3 4 at_strs rfl (by omega) (by decide) rfl dX5_regroup_31 ?_
    refine g_getN (pc := 32) (ci := 3) inG_X4 rfl 2 (by decide) rfl fl_X5_122 (31 + s.toNat) (at_str (s := s) (by omega)) rfl dX5_regroup_32 ?_
    refine g_topI (show (rgS σ (srtF σ) s p r9 r10) 6 s = σ 6 s from rfl) ?_
    refine g_icmp_ge (pc := 35) 89 dX5_regroup_35 (by decide) (by omega) (by omega) (fun h_1 => ?_) (fun h_1 => ?_)
    · refine g_iinc (pc := 89) (lv' := [(3, .int (zI (s + 1))), (0, .ref (ad 0)), (1, .int (zI (sumP (mvN σ (srtF σ)) (off σ s + p).toNat))), (2, .int (zI (off σ s + p))), (4, .int (zI p))]) dX5_regroup_89 (by decide) 3 rfl rfl ?_
      refine g_goto (pc := 92) 10 dX5_regroup_92 (by decide) ?_
      refine g_sub (lv' := [(0, .ref (ad 0)), (1, .int (zI (sumP (mvN σ (srtF σ)) (off σ s + p).toNat))), (2, .int (zI (off σ s + p))), (3, .int (zI (s + 1)))]) [1, 2, 3, 0] rfl ?_
      refine g_world (w' := CW cy ad (rgS σ (srtF σ) (s + 1) 0 r9 r10) ++ X) (by rw [← rgS_n, show p = σ 6 s by omega]) ?_
      refine g_lv (lv' := [(0, .ref (ad 0)), (1, .int (zI (sumP (mvN σ (srtF σ)) (off σ (s + 1)).toNat))), (2, .int (zI (off σ (s + 1)))), (3, .int (zI (s + 1)))]) (by rw [off_s _ hs.1, show p = σ 6 s by omega]) ?_
      exact kk r9 r10 (by rw [off_s _ hs.1, show σ 6 s = p by omega]; exact hr)
    · refine g_iload_n (pc := 38) dX5_regroup_38 2 rfl ?_
      refine g_aload_n (pc := 39) dX5_regroup_39 0 rfl ?_
      refine g_get (pc := 40) (ci := 4) inG_X5 rfl 2 (by decide) rfl fl_X5_9 (0) at_arr rfl dX5_regroup_40 ?_
      refine g_topI (show (rgS σ (srtF σ) s p r9 r10) 0 1 = σ 0 1 from rfl) ?_
      refine g_icmp_ge (pc := 43) 89 dX5_regroup_43 (by decide) (by omega) (by omega) (fun h_2 => ?_) (fun h_2 => ?_)
      · exfalso; omega
      · have h3 : 0 ≤ srtF σ (off σ s + p) ∧ srtF σ (off σ s + p) ≤ 23 := g7 (off σ s + p)
        have h4 := sof_eq hB (s := s) (k := off σ s + p) (by omega) (by omega) (by omega)
        have h6 := h9b (srtF σ (off σ s + p))
        refine g_aload_n (pc := 46) dX5_regroup_46 0 rfl ?_
        refine g_get (pc := 47) (ci := 4) inG_X5 rfl 9 (by decide) rfl fl_X5_29 (0) at_arr rfl dX5_regroup_47 ?_
        refine g_iload_n (pc := 50) dX5_regroup_50 2 rfl ?_
        refine g_iald (pc := 51) 6 at_srt (by omega) (by decide) dX5_regroup_51 ?_
        refine g_topI (show (rgS σ (srtF σ) s p r9 r10) 12 (off σ s + p) = srtF σ (off σ s + p) from rfl) ?_
        refine g_istore (pc := 52) (lv' := [(5, .int (zI (srtF σ (off σ s + p)))), (0, .ref (ad 0)), (1, .int (zI (sumP (mvN σ (srtF σ)) (off σ s + p).toNat))), (2, .int (zI (off σ s + p))), (3, .int (zI s)), (4, .int (zI p))]) dX5_regroup_52 (by decide) rfl ?_
        refine g_iinc (pc := 54) (lv' := [(2, .int (zI ((off σ s + p) + 1))), (5, .int (zI (srtF σ (off σ s + p)))), (0, .ref (ad 0)), (1, .int (zI (sumP (mvN σ (srtF σ)) (off σ s + p).toNat))), (3, .int (zI s)), (4, .int (zI p))]) dX5_regroup_54 (by decide) 3 rfl rfl ?_
        refine g_aload_n (pc := 57) dX5_regroup_57 2 rfl ?_
        refine g_get (pc := 58) (ci := 4) inG_X5 rfl 1 (by decide) rfl fl_X5_59 (0) at_arr rfl dX5_regroup_58 ?_
        refine g_iload (pc := 61) dX5_regroup_61 1 rfl ?_
        refine g_aald (pc := 63) 2 3 at_mods rfl (by omega) (by decide) rfl dX5_regroup_63 ?_
        refine g_getN (pc := 64) (ci := 2) inG_X3 rfl 7 (by decide) rfl fl_X5_112 (7 + (srtF σ (off σ s + p)).toNat) (at_mod (i := (srtF σ (off σ s + p))) (by omega)) rfl dX5_regroup_64 ?_
        refine g_topI (show (rgS σ (srtF σ) s p r9 r10) 9 (srtF σ (off σ s + p)) = σ 9 (srtF σ (off σ s + p)) from RG_at hr (by omega) (by omega)) ?_
        refine g_iload_n (pc := 67) dX5_regroup_67 4 rfl ?_
        refine g_icmp_eq (pc := 68) 74 dX5_regroup_68 (by decide) (by omega) (by omega) (fun h_3 => ?_) (fun h_3 => ?_)
        · refine g_aload_n (pc := 74) dX5_regroup_74 2 rfl ?_
          refine g_iload (pc := 75) dX5_regroup_75 1 rfl ?_
          refine g_iload_n (pc := 77) dX5_regroup_77 4 rfl ?_
          refine g_iload (pc := 78) dX5_regroup_78 5 rfl ?_
          refine g_callV (pc := 80) (As := [.int (zI (srtF σ (off σ s + p))), .int (zI s), .int (zI p)]) (rest := []) k_X5_181_X5 (c_X5_place (σ := (rgS σ (srtF σ) s p r9 r10)) (srtF σ (off σ s + p)) (by omega) s (by omega) p (by omega)) ⟨rfl, rfl, Nat.le_of_ble_eq_true rfl, Nat.le_of_ble_eq_true rfl⟩ (0) 4 rfl rfl at_arr rfl rfl (Nat.le_of_ble_eq_true rfl) dX5_regroup_80 (fun v_ w_ hq_ => ?_)
          obtain ⟨rfl, rfl⟩ := hq_
          refine g_none ?_
          refine g_iinc (pc := 83) (lv' := [(4, .int (zI (p + 1))), (2, .int (zI ((off σ s + p) + 1))), (5, .int (zI (srtF σ (off σ s + p)))), (0, .ref (ad 0)), (1, .int (zI (sumP (mvN σ (srtF σ)) (off σ s + p).toNat))), (3, .int (zI s))]) dX5_regroup_83 (by decide) 5 rfl rfl ?_
          refine g_goto (pc := 86) 24 dX5_regroup_86 (by decide) ?_
          refine g_sub (lv' := [(0, .ref (ad 0)), (1, .int (zI (sumP (mvN σ (srtF σ)) (off σ s + p).toNat))), (2, .int (zI ((off σ s + p) + 1))), (3, .int (zI s)), (4, .int (zI (p + 1)))]) [3, 4, 1, 5, 0] rfl ?_
          refine g_world (w' := CW cy ad (rgS σ (srtF σ) s (p + 1) (zup r9 (srtF σ (off σ s + p)) s) (zup r10 (srtF σ (off σ s + p)) p)) ++ X) (by rw [← rgS_s _ _ _ hs.1 (by omega)]) ?_
          refine g_lv (lv' := [(0, .ref (ad 0)), (1, .int (zI (sumP (mvN σ (srtF σ)) (off σ s + (p + 1)).toNat))), (2, .int (zI (off σ s + (p + 1)))), (3, .int (zI s)), (4, .int (zI (p + 1)))]) (by rw [← Int.add_assoc, sumP_s _ (by omega), show mvN σ (srtF σ) (off σ s + p) = 0 by unfold mvN; rw [h4]; exact if_pos (by omega)]; rw [Int.add_zero]) ?_
          exact ih (p + 1) _ _ (by omega) (by omega) (by rw [← Int.add_assoc]; exact RG_s hr (by omega) (by omega) h4) (by omega)
        · refine g_iinc (pc := 71) (lv' := [(1, .int (zI ((sumP (mvN σ (srtF σ)) (off σ s + p).toNat) + 1))), (2, .int (zI ((off σ s + p) + 1))), (5, .int (zI (srtF σ (off σ s + p)))), (0, .ref (ad 0)), (3, .int (zI s)), (4, .int (zI p))]) dX5_regroup_71 (by decide) 3 rfl rfl ?_
          refine g_aload_n (pc := 74) dX5_regroup_74 3 rfl ?_
          refine g_iload (pc := 75) dX5_regroup_75 2 rfl ?_
          refine g_iload_n (pc := 77) dX5_regroup_77 4 rfl ?_
          refine g_iload (pc := 78) dX5_regroup_78 5 rfl ?_
          refine g_callV (pc := 80) (As := [.int (zI (srtF σ (off σ s + p))), .int (zI s), .int (zI p)]) (rest := []) k_X5_181_X5 (c_X5_place (σ := (rgS σ (srtF σ) s p r9 r10)) (srtF σ (off σ s + p)) (by omega) s (by omega) p (by omega)) ⟨rfl, rfl, Nat.le_of_ble_eq_true rfl, Nat.le_of_ble_eq_true rfl⟩ (0) 4 rfl rfl at_arr rfl rfl (Nat.le_of_ble_eq_true rfl) dX5_regroup_80 (fun v_ w_ hq_ => ?_)
          obtain ⟨rfl, rfl⟩ := hq_
          refine g_none ?_
          refine g_iinc (pc := 83) (lv' := [(4, .int (zI (p + 1))), (1, .int (zI ((sumP (mvN σ (srtF σ)) (off σ s + p).toNat) + 1))), (2, .int (zI ((off σ s + p) + 1))), (5, .int (zI (srtF σ (off σ s + p)))), (0, .ref (ad 0)), (3, .int (zI s))]) dX5_regroup_83 (by decide) 5 rfl rfl ?_
          refine g_goto (pc := 86) 24 dX5_regroup_86 (by decide) ?_
          refine g_sub (lv' := [(0, .ref (ad 0)), (1, .int (zI ((sumP (mvN σ (srtF σ)) (off σ s + p).toNat) + 1))), (2, .int (zI ((off σ s + p) + 1))), (3, .int (zI s)), (4, .int (zI (p + 1)))]) [4, 1, 2, 5, 0] rfl ?_
          refine g_world (w' := CW cy ad (rgS σ (srtF σ) s (p + 1) (zup r9 (srtF σ (off σ s + p)) s) (zup r10 (srtF σ (off σ s + p)) p)) ++ X) (by rw [← rgS_s _ _ _ hs.1 (by omega)]) ?_
          refine g_lv (lv' := [(0, .ref (ad 0)), (1, .int (zI (sumP (mvN σ (srtF σ)) (off σ s + (p + 1)).toNat))), (2, .int (zI (off σ s + (p + 1)))), (3, .int (zI s)), (4, .int (zI (p + 1)))]) (by rw [← Int.add_assoc, sumP_s _ (by omega), show mvN σ (srtF σ) (off σ s + p) = 1 by unfold mvN; rw [h4]; exact if_neg (by omega)]) ?_
          exact ih (p + 1) _ _ (by omega) (by omega) (by rw [← Int.add_assoc]; exact RG_s hr (by omega) (by omega) h4) (by omega)
set_option maxRecDepth 100000 in
set_option maxHeartbeats 2000000 in
/-- PvArray.regroup, the loop at 10  -/
theorem lp_X5_regO {D : va_G} {cy : Nat → ClassId} {l : Launch} {ad : Nat → Nat} {σ : Nat → Int → Int} {X : va_W} (hB : Bd σ) (hL : LC σ) (h12 : ∀ j, 0 ≤ σ 12 j ∧ σ 12 j ≤ 23) (hO : off σ (σ 0 2) = σ 0 1) (h9b : ∀ i, 0 ≤ σ 9 i ∧ σ 9 i ≤ 5) : ∀ (n : Nat) (s : Int) (r9 r10 : Int → Int), 0 ≤ s → s ≤ σ 0 2 → RG σ (off σ s) r9 r10 → (σ 0 2 - s).toNat < n → GO D cy l rm_X5_regroup cX5_regroup 6 yX5_regroup.cls (some .int) (CW cy ad σ ++ X) (fun v w' => ∃ r9 r10, v = some (.int (zI (sumP (mvN σ (srtF σ)) (σ 0 1).toNat))) ∧ w' = CW cy ad (rgS σ (srtF σ) (σ 0 2) 0 r9 r10) ++ X ∧ RG σ (σ 0 1) r9 r10) (CW cy ad (rgS σ (srtF σ) s 0 r9 r10) ++ X) 10 [(0, .ref (ad 0)), (1, .int (zI (sumP (mvN σ (srtF σ)) (off σ s).toNat))), (2, .int (zI (off σ s))), (3, .int (zI s))] [] := by
  intro n
  induction n with
  | zero =>
    intro s r9 r10 hs hs2 hr hn
    exact absurd hn (Nat.not_lt_zero _)
  | succ n ih =>
    intro s r9 r10 hs hs2 hr hn
    have g1 := hB.sc
    have g2 := hB.mc
    refine g_iload_n (pc := 10) dX5_regroup_10 3 rfl ?_
    refine g_aload_n (pc := 11) dX5_regroup_11 0 rfl ?_
    refine g_get (pc := 12) (ci := 4) inG_X5 rfl 4 (by decide) rfl fl_X5_51 (0) at_arr rfl dX5_regroup_12 ?_
    refine g_getN (pc := 15) (ci := 1) inG_X2 rfl 1 (by decide) rfl fl_X5_67 (4) at_par rfl dX5_regroup_15 ?_
    refine g_topI (show (rgS σ (srtF σ) s 0 r9 r10) 0 2 = σ 0 2 from rfl) ?_
    refine g_icmp_ge (pc := 18) 95 dX5_regroup_18 (by decide) (by omega) (by omega) (fun h_1 => ?_) (fun h_1 => ?_)
    · refine g_iload_n (pc := 95) dX5_regroup_95 1 rfl ?_
      exact g_iret (pc := 96) dX5_regroup_96 rfl (⟨r9, r10, by rw [show s = σ 0 2 by omega, hO], by rw [show s = σ 0 2 by omega], by rw [← hO, ← show s = σ 0 2 by omega]; exact hr⟩)
    · refine g_iconst (pc := 21) dX5_regroup_21 ?_
      refine g_istore (pc := 22) (lv' := [(4, .int (zI 0)), (0, .ref (ad 0)), (1, .int (zI (sumP (mvN σ (srtF σ)) (off σ s).toNat))), (2, .int (zI (off σ s))), (3, .int (zI s))]) dX5_regroup_22 (by decide) rfl ?_
      refine g_sub (lv' := [(0, .ref (ad 0)), (1, .int (zI (sumP (mvN σ (srtF σ)) (off σ s).toNat))), (2, .int (zI (off σ s))), (3, .int (zI s)), (4, .int (zI 0))]) [1, 2, 3, 4, 0] rfl ?_
      refine g_lv (lv' := [(0, .ref (ad 0)), (1, .int (zI (sumP (mvN σ (srtF σ)) (off σ s + 0).toNat))), (2, .int (zI (off σ s + 0))), (3, .int (zI s)), (4, .int (zI 0))]) (by rw [Int.add_zero]) ?_
      exact lp_X5_regI hB hL h12 hO h9b s (by omega) (fun r9 r10 hr => ih (s + 1) r9 r10 (by omega) (by omega) hr (by omega)) ((σ 6 s).toNat + 1) 0 r9 r10 (by omega) (by have := hB.b6 s; omega) (by rw [Int.add_zero]; exact hr) (by omega)
set_option maxRecDepth 100000 in
set_option maxHeartbeats 2000000 in
/-- PvArray.regroup  -/
theorem c_X5_regroup {D : va_G} {cy : Nat → ClassId} {l : Launch} {ad : Nat → Nat} {σ : Nat → Int → Int} {X : va_W} (hB : Bd σ) (hL : LC σ) (h12 : ∀ j, 0 ≤ σ 12 j ∧ σ 12 j ≤ 23) (hO : off σ (σ 0 2) = σ 0 1) (h9b : ∀ i, 0 ≤ σ 9 i ∧ σ 9 i ≤ 5) : Con D cy l yX5_regroup cX5_regroup 6 (some .int) rm_X5_regroup [.ref (ad 0)] (CW cy ad σ ++ X) (fun v w' => ∃ r9 r10, v = some (.int (zI (sumP (mvN σ (srtF σ)) (σ 0 1).toNat))) ∧ w' = CW cy ad (rgS σ (srtF σ) (σ 0 2) 0 r9 r10) ++ X ∧ RG σ (σ 0 1) r9 r10) := by
  refine Con.of (lv := [(0, .ref (ad 0))]) (by decide) (Nat.le_of_ble_eq_true rfl) rfl ?_
  have g1 := hB.sc
  have g2 := hB.mc
  refine g_aload_n (pc := 0) dX5_regroup_0 0 rfl ?_
  refine g_callV (pc := 1) (As := []) (rest := []) k_X5_178_X5 (c_X5_sortByLightCurrent (σ := σ) hB hL h12) ⟨rfl, rfl, Nat.le_of_ble_eq_true rfl, Nat.le_of_ble_eq_true rfl⟩ (0) 4 rfl rfl at_arr rfl rfl (Nat.le_of_ble_eq_true rfl) dX5_regroup_1 (fun v_ w_ hq_ => ?_)
  obtain ⟨rfl, rfl⟩ := hq_
  refine g_none ?_
  refine g_iconst (pc := 4) dX5_regroup_4 ?_
  refine g_istore_n (pc := 5) (lv' := [(1, .int (zI 0)), (0, .ref (ad 0))]) dX5_regroup_5 (by decide) rfl ?_
  refine g_iconst (pc := 6) dX5_regroup_6 ?_
  refine g_istore_n (pc := 7) (lv' := [(2, .int (zI 0)), (1, .int (zI 0)), (0, .ref (ad 0))]) dX5_regroup_7 (by decide) rfl ?_
  refine g_iconst (pc := 8) dX5_regroup_8 ?_
  refine g_istore_n (pc := 9) (lv' := [(3, .int (zI 0)), (2, .int (zI 0)), (1, .int (zI 0)), (0, .ref (ad 0))]) dX5_regroup_9 (by decide) rfl ?_
  refine g_sub (lv' := [(0, .ref (ad 0)), (1, .int (zI 0)), (2, .int (zI 0)), (3, .int (zI 0))]) [3, 2, 1, 0] rfl ?_
  refine g_world (w' := CW cy ad (rgS σ (srtF σ) 0 0 (σ 9) (σ 10)) ++ X) (by rw [← rgS_0]) ?_
  refine g_lv (lv' := [(0, .ref (ad 0)), (1, .int (zI (sumP (mvN σ (srtF σ)) (off σ 0).toNat))), (2, .int (zI (off σ 0))), (3, .int (zI 0))]) rfl ?_
  exact lp_X5_regO hB hL h12 hO h9b ((σ 0 2).toNat + 1) 0 (σ 9) (σ 10) (by omega) (by omega) (RG_0 σ) (by omega)
