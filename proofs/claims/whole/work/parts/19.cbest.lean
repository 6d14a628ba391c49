set_option maxRecDepth 100000 in
set_option maxHeartbeats 2000000 in
/-- PvArray$PvString.end, the loop at 8  -/
theorem lp_X4_end {D : va_G} {cy : Nat → ClassId} {l : Launch} {ad : Nat → Nat} {σ : Nat → Int → Int} {X : va_W} (hB : Bd σ) (hL : LC σ) (s : Int) (hs : 0 ≤ s ∧ s < 6) : ∀ (n : Nat) (p : Int), 0 ≤ p → p ≤ σ 6 s → (σ 6 s - p).toNat < n → GO D cy l rm_X4_end cX4_end 5 yX4_end.cls (some .int) (CW cy ad σ ++ X) (rdI (limit σ s) (CW cy ad σ ++ X)) (CW cy ad σ ++ X) 8 [(0, .ref (ad (31 + s.toNat))), (1, .int (zI (mxP (fun p => photo σ (memb σ s p)) p.toNat))), (2, .int (zI (cpP (fun p => σ 5 (memb σ s p)) (fun p => photo σ (memb σ s p)) p.toNat))), (3, .int (zI p))] [] := by
  intro n
  induction n with
  | zero =>
    intro p hp hp2 hn
    exact absurd hn (Nat.not_lt_zero _)
  | succ n ih =>
    intro p hp hp2 hn
    have h1 := hB.b6 s
    have h2 := hB.b7 (12 * s + p)
    have h3 := mxP_b (F := (fun p => photo σ (memb σ s p))) (b := 1200) (by omega) (fun p => (photo_b hB _).2) p.toNat
    have h4 := cpP_b (B := (fun p => σ 5 (memb σ s p))) (F := (fun p => photo σ (memb σ s p))) (fun p => (photo_b hB _).1) p.toNat
    have h5 := photo_b hB (σ 7 (12 * s + p))
    have h6 := hB.b5 (σ 7 (12 * s + p))
    refine g_iload_n (pc := 8) dX4_end_8 3 rfl ?_
    refine g_aload_n (pc := 9) dX4_end_9 0 rfl ?_
    refine g_get (pc := 10) (ci := 3) inG_X4 rfl 2 (by decide) rfl fl_X4_15 (31 + s.toNat) (at_str (s := s) (by omega)) rfl dX4_end_10 ?_
    refine g_icmp_ge (pc := 13) 63 dX4_end_13 (by decide) (by omega) (by omega) (fun h_1 => ?_) (fun h_1 => ?_)
    · refine g_iload_n (pc := 63) dX4_end_63 1 rfl ?_
      refine g_iload_n (pc := 64) dX4_end_64 2 rfl ?_
      refine g_min (pc := 65) ma_min_X4_42 ma_min_s ma_i ma_min_c (Nat.le_of_ble_eq_true rfl) (Nat.le_of_ble_eq_true rfl) (by omega) (by omega) dX4_end_65 ?_
      exact g_iret (pc := 68) dX4_end_68 rfl (rdI_of (by unfold limit; rw [show p = σ 6 s by omega]))
    · refine g_aload_n (pc := 16) dX4_end_16 0 rfl ?_
      refine g_get (pc := 17) (ci := 3) inG_X4 rfl 0 (by decide) rfl fl_X4_19 (31 + s.toNat) (at_str (s := s) (by omega)) rfl dX4_end_17 ?_
      refine g_aload_n (pc := 20) dX4_end_20 0 rfl ?_
      refine g_get (pc := 21) (ci := 3) inG_X4 rfl 1 (by decide) rfl fl_X4_9 (31 + s.toNat) (at_str (s := s) (by omega)) rfl dX4_end_21 ?_
      refine g_iload_n (pc := 24) dX4_end_24 3 rfl ?_
      refine g_mem (pc := 25) (by omega) (by omega) dX4_end_25 ?_
      refine g_aald (pc := 26) 2 3 at_mods rfl (by omega) (by decide) rfl dX4_end_26 ?_
      refine g_astore (pc := 27) (lv' := [(4, .ref (ad (7 + (σ 7 (12 * s + p)).toNat))), (0, .ref (ad (31 + s.toNat))), (1, .int (zI (mxP (fun p => photo σ (memb σ s p)) p.toNat))), (2, .int (zI (cpP (fun p => σ 5 (memb σ s p)) (fun p => photo σ (memb σ s p)) p.toNat))), (3, .int (zI p))]) dX4_end_27 (by decide) rfl ?_
      refine g_iload_n (pc := 29) dX4_end_29 2 rfl ?_
      refine g_aload (pc := 30) dX4_end_30 0 rfl ?_
      refine g_getN (pc := 32) (ci := 2) inG_X3 rfl 4 (by decide) rfl fl_X4_29 (7 + (σ 7 (12 * s + p)).toNat) (at_mod (i := (σ 7 (12 * s + p))) (by omega)) rfl dX4_end_32 ?_
      refine g_topI (hL _) ?_
      refine g_max (pc := 35) ma_max_X4_32 ma_max_s ma_i ma_max_c (Nat.le_of_ble_eq_true rfl) (Nat.le_of_ble_eq_true rfl) (by omega) (by omega) dX4_end_35 ?_
      refine g_istore_n (pc := 38) (lv' := [(1, .int (zI (max (mxP (fun p => photo σ (memb σ s p)) p.toNat) (photo σ (σ 7 (12 * s + p)))))), (4, .ref (ad (7 + (σ 7 (12 * s + p)).toNat))), (0, .ref (ad (31 + s.toNat))), (2, .int (zI (cpP (fun p => σ 5 (memb σ s p)) (fun p => photo σ (memb σ s p)) p.toNat))), (3, .int (zI p))]) dX4_end_38 (by decide) rfl ?_
      refine g_aload (pc := 39) dX4_end_39 1 rfl ?_
      refine g_getN (pc := 41) (ci := 2) inG_X3 rfl 6 (by decide) rfl fl_X4_38 (7 + (σ 7 (12 * s + p)).toNat) (at_mod (i := (σ 7 (12 * s + p))) (by omega)) rfl dX4_end_41 ?_
      refine g_if_ne (pc := 44) 57 dX4_end_44 (by decide) (by omega) (fun h_2 => ?_) (fun h_2 => ?_)
      · refine g_iinc (pc := 57) (lv' := [(3, .int (zI (p + 1))), (1, .int (zI (max (mxP (fun p => photo σ (memb σ s p)) p.toNat) (photo σ (σ 7 (12 * s + p)))))), (4, .ref (ad (7 + (σ 7 (12 * s + p)).toNat))), (0, .ref (ad (31 + s.toNat))), (2, .int (zI (cpP (fun p => σ 5 (memb σ s p)) (fun p => photo σ (memb σ s p)) p.toNat)))]) dX4_end_57 (by decide) 4 rfl rfl ?_
        refine g_goto (pc := 60) 8 dX4_end_60 (by decide) ?_
        refine g_sub (lv' := [(0, .ref (ad (31 + s.toNat))), (1, .int (zI (max (mxP (fun p => photo σ (memb σ s p)) p.toNat) (photo σ (σ 7 (12 * s + p)))))), (2, .int (zI (cpP (fun p => σ 5 (memb σ s p)) (fun p => photo σ (memb σ s p)) p.toNat))), (3, .int (zI (p + 1)))]) [3, 1, 4, 0] rfl ?_
        refine g_lv (lv' := [(0, .ref (ad (31 + s.toNat))), (1, .int (zI (mxP (fun p => photo σ (memb σ s p)) (p + 1).toNat))), (2, .int (zI (cpP (fun p => σ 5 (memb σ s p)) (fun p => photo σ (memb σ s p)) (p + 1).toNat))), (3, .int (zI (p + 1)))]) (by rw [mxP_s _ hp, cpP_s _ _ hp, if_neg (show ¬ σ 5 (memb σ s p) = 0 by unfold memb; omega)]; rfl) ?_
        exact ih (p + 1) (by omega) (by omega) (by omega)
      · refine g_iload_n (pc := 47) dX4_end_47 3 rfl ?_
        refine g_aload (pc := 48) dX4_end_48 1 rfl ?_
        refine g_getN (pc := 50) (ci := 2) inG_X3 rfl 4 (by decide) rfl fl_X4_29 (7 + (σ 7 (12 * s + p)).toNat) (at_mod (i := (σ 7 (12 * s + p))) (by omega)) rfl dX4_end_50 ?_
        refine g_topI (hL _) ?_
        refine g_min (pc := 53) ma_min_X4_42 ma_min_s ma_i ma_min_c (Nat.le_of_ble_eq_true rfl) (Nat.le_of_ble_eq_true rfl) (by omega) (by omega) dX4_end_53 ?_
        refine g_istore_n (pc := 56) (lv' := [(2, .int (zI (min (cpP (fun p => σ 5 (memb σ s p)) (fun p => photo σ (memb σ s p)) p.toNat) (photo σ (σ 7 (12 * s + p)))))), (1, .int (zI (max (mxP (fun p => photo σ (memb σ s p)) p.toNat) (photo σ (σ 7 (12 * s + p)))))), (4, .ref (ad (7 + (σ 7 (12 * s + p)).toNat))), (0, .ref (ad (31 + s.toNat))), (3, .int (zI p))]) dX4_end_56 (by decide) rfl ?_
        refine g_iinc (pc := 57) (lv' := [(3, .int (zI (p + 1))), (2, .int (zI (min (cpP (fun p => σ 5 (memb σ s p)) (fun p => photo σ (memb σ s p)) p.toNat) (photo σ (σ 7 (12 * s + p)))))), (1, .int (zI (max (mxP (fun p => photo σ (memb σ s p)) p.toNat) (photo σ (σ 7 (12 * s + p)))))), (4, .ref (ad (7 + (σ 7 (12 * s + p)).toNat))), (0, .ref (ad (31 + s.toNat)))]) dX4_end_57 (by decide) 4 rfl rfl ?_
        refine g_goto (pc := 60) 8 dX4_end_60 (by decide) ?_
        refine g_sub (lv' := [(0, .ref (ad (31 + s.toNat))), (1, .int (zI (max (mxP (fun p => photo σ (memb σ s p)) p.toNat) (photo σ (σ 7 (12 * s + p)))))), (2, .int (zI (min (cpP (fun p => σ 5 (memb σ s p)) (fun p => photo σ (memb σ s p)) p.toNat) (photo σ (σ 7 (12 * s + p)))))), (3, .int (zI (p + 1)))]) [4, 2, 1, 0] rfl ?_
        refine g_lv (lv' := [(0, .ref (ad (31 + s.toNat))), (1, .int (zI (mxP (fun p => photo σ (memb σ s p)) (p + 1).toNat))), (2, .int (zI (cpP (fun p => σ 5 (memb σ s p)) (fun p => photo σ (memb σ s p)) (p + 1).toNat))), (3, .int (zI (p + 1)))]) (by rw [mxP_s _ hp, cpP_s _ _ hp, if_pos (show σ 5 (memb σ s p) = 0 by unfold memb; omega)]; rfl) ?_
        exact ih (p + 1) (by omega) (by omega) (by omega)
set_option maxRecDepth 100000 in
set_option maxHeartbeats 2000000 in
/-- PvArray$PvString.end  -/
theorem c_X4_end {D : va_G} {cy : Nat → ClassId} {l : Launch} {ad : Nat → Nat} {σ : Nat → Int → Int} {X : va_W} (hB : Bd σ) (hL : LC σ) (s : Int) (hs : 0 ≤ s ∧ s < 6) : Con D cy l yX4_end cX4_end 5 (some .int) rm_X4_end [.ref (ad (31 + s.toNat))] (CW cy ad σ ++ X) (rdI (limit σ s) (CW cy ad σ ++ X)) := by
  refine Con.of (lv := [(0, .ref (ad (31 + s.toNat)))]) (by decide) (Nat.le_of_ble_eq_true rfl) rfl ?_
  have h1 := hB.b6 s
  refine g_iconst (pc := 0) dX4_end_0 ?_
  refine g_istore_n (pc := 1) (lv' := [(1, .int (zI 0)), (0, .ref (ad (31 + s.toNat)))]) dX4_end_1 (by decide) rfl ?_
  refine g_sipush (pc := 2) dX4_end_2 (by omega) ?_
  refine g_istore_n (pc := 5) (lv' := [(2, .int (zI 1200)), (1, .int (zI 0)), (0, .ref (ad (31 + s.toNat)))]) dX4_end_5 (by decide) rfl ?_
  refine g_iconst (pc := 6) dX4_end_6 ?_
  refine g_istore_n (pc := 7) (lv' := [(3, .int (zI 0)), (2, .int (zI 1200)), (1, .int (zI 0)), (0, .ref (ad (31 + s.toNat)))]) dX4_end_7 (by decide) rfl ?_
  refine g_sub (lv' := [(0, .ref (ad (31 + s.toNat))), (1, .int (zI 0)), (2, .int (zI 1200)), (3, .int (zI 0))]) [3, 2, 1, 0] rfl ?_
  exact lp_X4_end hB hL s hs ((σ 6 s).toNat + 1) 0 (by omega) (by omega) (by omega)
set_option maxRecDepth 100000 in
set_option maxHeartbeats 2000000 in
/-- PvArray$Curve.productAt  -/
theorem c_X0_productAt_mod {D : va_G} {cy : Nat → ClassId} {l : Launch} {ad : Nat → Nat} {σ : Nat → Int → Int} {X : va_W} (hB : Bd σ) (hL : LC σ) (i : Int) (hi : 0 ≤ i ∧ i < 24) (c : Int) (hc : 0 ≤ c ∧ c ≤ 7200) : Con D cy l yX0_productAt cX0_productAt 2 (some .long) rm_X0_productAt [.ref (ad (7 + i.toNat)), .int (zI c)] (CW cy ad σ ++ X) (rdJ (mpow σ i c) (CW cy ad σ ++ X)) := by
  refine Con.of (lv := [(0, .ref (ad (7 + i.toNat))), (1, .int (zI c))]) (by decide) (Nat.le_of_ble_eq_true rfl) rfl ?_
  have h1 := volt_b hB i hc.1
  refine g_iload_n (pc := 0) dX0_productAt_0 1 rfl ?_
  refine g_i2l (pc := 1) dX0_productAt_1 (by omega) ?_
  refine g_aload_n (pc := 2) dX0_productAt_2 0 rfl ?_
  refine g_iload_n (pc := 3) dX0_productAt_3 1 rfl ?_
  refine g_callU (pc := 4) (As := [.int (zI c)]) (rest := [.long (zJ c)]) k_X0_9_X3 (c_X3_valueAt (σ := σ) hB hL i (by omega) c (by omega)) ⟨rfl, rfl, Nat.le_of_ble_eq_true rfl, Nat.le_of_ble_eq_true rfl⟩ (7 + i.toNat) 2 rfl rfl (at_mod (i := i) (by omega)) rfl rfl (Nat.le_of_ble_eq_true rfl) dX0_productAt_4 (fun v_ w_ hq_ => ?_)
  obtain ⟨rfl, rfl⟩ := hq_
  refine g_one ?_
  refine g_i2l (pc := 7) dX0_productAt_7 (by omega) ?_
  refine g_lmul (pc := 8) dX0_productAt_8 ?_
  exact g_lret (pc := 9) dX0_productAt_9 rfl (rdJ_of rfl)
set_option maxRecDepth 100000 in
set_option maxHeartbeats 2000000 in
/-- PvArray$Curve.productAt  -/
theorem c_X0_productAt_str {D : va_G} {cy : Nat → ClassId} {l : Launch} {ad : Nat → Nat} {σ : Nat → Int → Int} {X : va_W} (hB : Bd σ) (hL : LC σ) (s : Int) (hs : 0 ≤ s ∧ s < 6) (c : Int) (hc : 0 ≤ c ∧ c ≤ 7200) : Con D cy l yX0_productAt cX0_productAt 2 (some .long) rm_X0_productAt [.ref (ad (31 + s.toNat)), .int (zI c)] (CW cy ad σ ++ X) (rdJ (spow σ s c) (CW cy ad σ ++ X)) := by
  refine Con.of (lv := [(0, .ref (ad (31 + s.toNat))), (1, .int (zI c))]) (by decide) (Nat.le_of_ble_eq_true rfl) rfl ?_
  have h1 := svolt_b hB s hc.1
  refine g_iload_n (pc := 0) dX0_productAt_0 1 rfl ?_
  refine g_i2l (pc := 1) dX0_productAt_1 (by omega) ?_
  refine g_aload_n (pc := 2) dX0_productAt_2 0 rfl ?_
  refine g_iload_n (pc := 3) dX0_productAt_3 1 rfl ?_
  refine g_callU (pc := 4) (As := [.int (zI c)]) (rest := [.long (zJ c)]) k_X0_9_X4 (c_X4_valueAt (σ := σ) hB hL s (by omega) c (by omega)) ⟨rfl, rfl, Nat.le_of_ble_eq_true rfl, Nat.le_of_ble_eq_true rfl⟩ (31 + s.toNat) 3 rfl rfl (at_str (s := s) (by omega)) rfl rfl (Nat.le_of_ble_eq_true rfl) dX0_productAt_4 (fun v_ w_ hq_ => ?_)
  obtain ⟨rfl, rfl⟩ := hq_
  refine g_one ?_
  refine g_i2l (pc := 7) dX0_productAt_7 (by omega) ?_
  refine g_lmul (pc := 8) dX0_productAt_8 ?_
  exact g_lret (pc := 9) dX0_productAt_9 rfl (rdJ_of rfl)
set_option maxRecDepth 100000 in
set_option maxHeartbeats 2000000 in
/-- PvArray$Curve.bestPoint, the loop at 58  -/
theorem lp_X0_best_mod {D : va_G} {cy : Nat → ClassId} {l : Launch} {ad : Nat → Nat} {σ : Nat → Int → Int} {X : va_W} (hB : Bd σ) (hL : LC σ) (i : Int) (hi : 0 ≤ i ∧ i < 24) : ∀ (n : Nat) (tb be pt : Int), BP (volt σ i) (photo σ i) tb be pt → ((photo σ i) + 1 - pt).toNat < n → GO D cy l rm_X0_bestPoint cX0_bestPoint 8 yX0_bestPoint.cls (some .int) (CW cy ad σ ++ X) (rdI (mbest σ i) (CW cy ad σ ++ X)) (CW cy ad σ ++ X) 58 [(0, .ref (ad (7 + i.toNat))), (1, .int (zI (photo σ i))), (2, .int (zI ((photo σ i) / 32 + 1))), (3, .long (zJ tb)), (5, .int (zI be)), (6, .int (zI pt))] [] := by
  intro n
  induction n with
  | zero =>
    intro tb be pt hbp hn
    exact absurd hn (Nat.not_lt_zero _)
  | succ n ih =>
    intro tb be pt hbp hn
    have n1 := photo_b hB i
    obtain ⟨b1, b2, b3, b4, b5, b6, -⟩ := id hbp
    refine g_iload (pc := 58) dX0_bestPoint_58 5 rfl ?_
    refine g_iload_n (pc := 60) dX0_bestPoint_60 1 rfl ?_
    refine g_icmp_gt (pc := 61) 125 dX0_bestPoint_61 (by decide) (by omega) (by omega) (fun h_1 => ?_) (fun h_1 => ?_)
    · refine g_iload (pc := 125) dX0_bestPoint_125 4 rfl ?_
      exact g_iret (pc := 127) dX0_bestPoint_127 rfl (rdI_of (IsBest.eq (f := mpow σ i) (photo_b hB i).1 (hbp.out (by omega))))
    · refine g_aload_n (pc := 64) dX0_bestPoint_64 0 rfl ?_
      refine g_iload (pc := 65) dX0_bestPoint_65 5 rfl ?_
      refine g_callU (pc := 67) (As := [.int (zI pt)]) (rest := []) k_X0_9_X3 (c_X3_valueAt (σ := σ) hB hL i (by omega) pt (by omega)) ⟨rfl, rfl, Nat.le_of_ble_eq_true rfl, Nat.le_of_ble_eq_true rfl⟩ (7 + i.toNat) 2 rfl rfl (at_mod (i := i) (by omega)) rfl rfl (Nat.le_of_ble_eq_true rfl) dX0_bestPoint_67 (fun v_ w_ hq_ => ?_)
      obtain ⟨rfl, rfl⟩ := hq_
      refine g_one ?_
      have v1 := volt_b hB i (c := pt) (by omega)
      have v2 : -1728000 ≤ pt * volt σ i pt ∧ pt * volt σ i pt ≤ 51840000 := mpow_b hB i (c := pt) (by omega)
      refine g_istore (pc := 70) (lv' := [(7, .int (zI (volt σ i pt))), (0, .ref (ad (7 + i.toNat))), (1, .int (zI (photo σ i))), (2, .int (zI ((photo σ i) / 32 + 1))), (3, .long (zJ tb)), (5, .int (zI be)), (6, .int (zI pt))]) dX0_bestPoint_70 (by decide) rfl ?_
      refine g_iload (pc := 72) dX0_bestPoint_72 0 rfl ?_
      refine g_if_gt (pc := 74) 80 dX0_bestPoint_74 (by decide) (by omega) (fun h_2 => ?_) (fun h_2 => ?_)
      · refine g_iload (pc := 80) dX0_bestPoint_80 6 rfl ?_
        refine g_i2l (pc := 82) dX0_bestPoint_82 (by omega) ?_
        refine g_iload (pc := 83) dX0_bestPoint_83 0 rfl ?_
        refine g_i2l (pc := 85) dX0_bestPoint_85 (by omega) ?_
        refine g_lmul (pc := 86) dX0_bestPoint_86 ?_
        refine g_lload_n (pc := 87) dX0_bestPoint_87 4 rfl ?_
        refine g_lcmp_le (pc := 88) 104 dX0_bestPoint_88 dX0_bestPoint_89 (by decide) (by omega) (by omega) (fun h_3 => ?_) (fun h_3 => ?_)
        · have v3 : 0 ≤ tb ∧ tb ≤ 52000000 := by first | omega | (have := hbp.nn (by omega); omega)
          have v4 := div_b v3 (show 0 < volt σ i pt by omega)
          refine g_iload (pc := 104) dX0_bestPoint_104 6 rfl ?_
          refine g_i2l (pc := 106) dX0_bestPoint_106 (by omega) ?_
          refine g_lconst (pc := 107) (z := 1) dX0_bestPoint_107 rfl ?_
          refine g_ladd (pc := 108) dX0_bestPoint_108 ?_
          refine g_lload_n (pc := 109) dX0_bestPoint_109 4 rfl ?_
          refine g_iload (pc := 110) dX0_bestPoint_110 0 rfl ?_
          refine g_i2l (pc := 112) dX0_bestPoint_112 (by omega) ?_
          refine g_ldiv (pc := 113) dX0_bestPoint_113 (by omega) (by omega) ?_
          refine g_lconst (pc := 114) (z := 1) dX0_bestPoint_114 rfl ?_
          refine g_ladd (pc := 115) dX0_bestPoint_115 ?_
          refine g_maxl (pc := 116) ma_maxl_X0_28 ma_maxl_s ma_i ma_maxl_c (Nat.le_of_ble_eq_true rfl) (Nat.le_of_ble_eq_true rfl) (by omega) (by omega) dX0_bestPoint_116 ?_
          refine g_l2i (pc := 119) dX0_bestPoint_119 ?_
          refine g_istore (pc := 120) (lv' := [(6, .int (zI (max (pt + 1) ((tb / (volt σ i pt)) + 1)))), (7, .int (zI (volt σ i pt))), (0, .ref (ad (7 + i.toNat))), (1, .int (zI (photo σ i))), (2, .int (zI ((photo σ i) / 32 + 1))), (3, .long (zJ tb)), (5, .int (zI be))]) dX0_bestPoint_120 (by decide) rfl ?_
          refine g_goto (pc := 122) 58 dX0_bestPoint_122 (by decide) ?_
          refine g_sub (lv' := [(0, .ref (ad (7 + i.toNat))), (1, .int (zI (photo σ i))), (2, .int (zI ((photo σ i) / 32 + 1))), (3, .long (zJ tb)), (5, .int (zI be)), (6, .int (zI (max (pt + 1) ((tb / (volt σ i pt)) + 1))))]) [2, 3, 4, 5, 6, 0] rfl ?_
          exact ih tb be (max (pt + 1) ((tb / (volt σ i pt)) + 1)) (hbp.no (volt_Mono hB i _) (by omega) (by omega) (by omega) (by omega)) (by omega)
        · refine g_iload (pc := 92) dX0_bestPoint_92 6 rfl ?_
          refine g_i2l (pc := 94) dX0_bestPoint_94 (by omega) ?_
          refine g_iload (pc := 95) dX0_bestPoint_95 0 rfl ?_
          refine g_i2l (pc := 97) dX0_bestPoint_97 (by omega) ?_
          refine g_lmul (pc := 98) dX0_bestPoint_98 ?_
          refine g_lstore_n (pc := 99) (lv' := [(3, .long (zJ (pt * (volt σ i pt)))), (7, .int (zI (volt σ i pt))), (0, .ref (ad (7 + i.toNat))), (1, .int (zI (photo σ i))), (2, .int (zI ((photo σ i) / 32 + 1))), (5, .int (zI be)), (6, .int (zI pt))]) dX0_bestPoint_99 (by decide) rfl ?_
          refine g_iload (pc := 100) dX0_bestPoint_100 6 rfl ?_
          refine g_istore (pc := 102) (lv' := [(5, .int (zI pt)), (3, .long (zJ (pt * (volt σ i pt)))), (7, .int (zI (volt σ i pt))), (0, .ref (ad (7 + i.toNat))), (1, .int (zI (photo σ i))), (2, .int (zI ((photo σ i) / 32 + 1))), (6, .int (zI pt))]) dX0_bestPoint_102 (by decide) rfl ?_
          have v3 : 0 ≤ (pt * (volt σ i pt)) ∧ (pt * (volt σ i pt)) ≤ 52000000 := by first | omega | (have := hbp.nn (by omega); omega)
          have v4 := div_b v3 (show 0 < volt σ i pt by omega)
          refine g_iload (pc := 104) dX0_bestPoint_104 6 rfl ?_
          refine g_i2l (pc := 106) dX0_bestPoint_106 (by omega) ?_
          refine g_lconst (pc := 107) (z := 1) dX0_bestPoint_107 rfl ?_
          refine g_ladd (pc := 108) dX0_bestPoint_108 ?_
          refine g_lload_n (pc := 109) dX0_bestPoint_109 1 rfl ?_
          refine g_iload (pc := 110) dX0_bestPoint_110 2 rfl ?_
          refine g_i2l (pc := 112) dX0_bestPoint_112 (by omega) ?_
          refine g_ldiv (pc := 113) dX0_bestPoint_113 (by omega) (by omega) ?_
          refine g_lconst (pc := 114) (z := 1) dX0_bestPoint_114 rfl ?_
          refine g_ladd (pc := 115) dX0_bestPoint_115 ?_
          refine g_maxl (pc := 116) ma_maxl_X0_28 ma_maxl_s ma_i ma_maxl_c (Nat.le_of_ble_eq_true rfl) (Nat.le_of_ble_eq_true rfl) (by omega) (by omega) dX0_bestPoint_116 ?_
          refine g_l2i (pc := 119) dX0_bestPoint_119 ?_
          refine g_istore (pc := 120) (lv' := [(6, .int (zI (max (pt + 1) (((pt * (volt σ i pt)) / (volt σ i pt)) + 1)))), (5, .int (zI pt)), (3, .long (zJ (pt * (volt σ i pt)))), (7, .int (zI (volt σ i pt))), (0, .ref (ad (7 + i.toNat))), (1, .int (zI (photo σ i))), (2, .int (zI ((photo σ i) / 32 + 1)))]) dX0_bestPoint_120 (by decide) rfl ?_
          refine g_goto (pc := 122) 58 dX0_bestPoint_122 (by decide) ?_
          refine g_sub (lv' := [(0, .ref (ad (7 + i.toNat))), (1, .int (zI (photo σ i))), (2, .int (zI ((photo σ i) / 32 + 1))), (3, .long (zJ (pt * (volt σ i pt)))), (5, .int (zI pt)), (6, .int (zI (max (pt + 1) (((pt * (volt σ i pt)) / (volt σ i pt)) + 1))))]) [4, 5, 6, 2, 1, 0] rfl ?_
          exact ih (pt * (volt σ i pt)) pt (max (pt + 1) (((pt * (volt σ i pt)) / (volt σ i pt)) + 1)) (hbp.yes (volt_Mono hB i _) (by omega) (by omega) (by omega) (by omega) (by omega)) (by omega)
      · refine g_goto (pc := 77) 125 dX0_bestPoint_77 (by decide) ?_
        refine g_iload (pc := 125) dX0_bestPoint_125 5 rfl ?_
        exact g_iret (pc := 127) dX0_bestPoint_127 rfl (rdI_of (IsBest.eq (f := mpow σ i) (photo_b hB i).1 (hbp.out0 (volt_Mono hB i _) (by omega) (by omega))))
set_option maxRecDepth 100000 in
set_option maxHeartbeats 2000000 in
/-- PvArray$Curve.bestPoint, the loop at 19  -/
theorem lp_X0_coarse_mod {D : va_G} {cy : Nat → ClassId} {l : Launch} {ad : Nat → Nat} {σ : Nat → Int → Int} {X : va_W} (hB : Bd σ) (hL : LC σ) (i : Int) (hi : 0 ≤ i ∧ i < 24) : ∀ (n : Nat) (tb co : Int), CR (volt σ i) (photo σ i) tb → 0 ≤ co → co ≤ 20000 → ((photo σ i) + 1 - co).toNat < n → GO D cy l rm_X0_bestPoint cX0_bestPoint 8 yX0_bestPoint.cls (some .int) (CW cy ad σ ++ X) (rdI (mbest σ i) (CW cy ad σ ++ X)) (CW cy ad σ ++ X) 19 [(0, .ref (ad (7 + i.toNat))), (1, .int (zI (photo σ i))), (2, .int (zI ((photo σ i) / 32 + 1))), (3, .long (zJ tb)), (5, .int (zI co))] [] := by
  intro n
  induction n with
  | zero =>
    intro tb co hcr hco hco2 hn
    exact absurd hn (Nat.not_lt_zero _)
  | succ n ih =>
    intro tb co hcr hco hco2 hn
    have n1 := photo_b hB i
    obtain ⟨b1, b2, -⟩ := id hcr
    refine g_iload (pc := 19) dX0_bestPoint_19 4 rfl ?_
    refine g_iload_n (pc := 21) dX0_bestPoint_21 1 rfl ?_
    refine g_icmp_gt (pc := 22) 52 dX0_bestPoint_22 (by decide) (by omega) (by omega) (fun h_1 => ?_) (fun h_1 => ?_)
    · refine g_iconst (pc := 52) dX0_bestPoint_52 ?_
      refine g_istore (pc := 53) (lv' := [(5, .int (zI 0)), (0, .ref (ad (7 + i.toNat))), (1, .int (zI (photo σ i))), (2, .int (zI ((photo σ i) / 32 + 1))), (3, .long (zJ tb))]) dX0_bestPoint_53 (by decide) rfl ?_
      refine g_iconst (pc := 55) dX0_bestPoint_55 ?_
      refine g_istore (pc := 56) (lv' := [(6, .int (zI 0)), (5, .int (zI 0)), (0, .ref (ad (7 + i.toNat))), (1, .int (zI (photo σ i))), (2, .int (zI ((photo σ i) / 32 + 1))), (3, .long (zJ tb))]) dX0_bestPoint_56 (by decide) rfl ?_
      refine g_sub (lv' := [(0, .ref (ad (7 + i.toNat))), (1, .int (zI (photo σ i))), (2, .int (zI ((photo σ i) / 32 + 1))), (3, .long (zJ tb)), (5, .int (zI 0)), (6, .int (zI 0))]) [2, 3, 4, 5, 1, 0] rfl ?_
      exact lp_X0_best_mod hB hL i hi (((photo σ i) + 1).toNat + 1) tb 0 0 (BP.init n1.1 hcr) (by omega)
    · have v1 := volt_b hB i (c := co) (by omega)
      have v2 : -1728000 ≤ co * volt σ i co ∧ co * volt σ i co ≤ 51840000 := mpow_b hB i (c := co) (by omega)
      refine g_lload_n (pc := 25) dX0_bestPoint_25 3 rfl ?_
      refine g_iload (pc := 26) dX0_bestPoint_26 4 rfl ?_
      refine g_i2l (pc := 28) dX0_bestPoint_28 (by omega) ?_
      refine g_aload_n (pc := 29) dX0_bestPoint_29 0 rfl ?_
      refine g_iload (pc := 30) dX0_bestPoint_30 4 rfl ?_
      refine g_callU (pc := 32) (As := [.int (zI co)]) (rest := [.long (zJ co), .long (zJ tb)]) k_X0_9_X3 (c_X3_valueAt (σ := σ) hB hL i (by omega) co (by omega)) ⟨rfl, rfl, Nat.le_of_ble_eq_true rfl, Nat.le_of_ble_eq_true rfl⟩ (7 + i.toNat) 2 rfl rfl (at_mod (i := i) (by omega)) rfl rfl (Nat.le_of_ble_eq_true rfl) dX0_bestPoint_32 (fun v_ w_ hq_ => ?_)
      obtain ⟨rfl, rfl⟩ := hq_
      refine g_one ?_
      refine g_i2l (pc := 35) dX0_bestPoint_35 (by omega) ?_
      refine g_lmul (pc := 36) dX0_bestPoint_36 ?_
      refine g_lconst (pc := 37) (z := 1) dX0_bestPoint_37 rfl ?_
      refine g_lsub (pc := 38) dX0_bestPoint_38 ?_
      refine g_maxl (pc := 39) ma_maxl_X0_28 ma_maxl_s ma_i ma_maxl_c (Nat.le_of_ble_eq_true rfl) (Nat.le_of_ble_eq_true rfl) (by omega) (by omega) dX0_bestPoint_39 ?_
      refine g_lstore_n (pc := 42) (lv' := [(3, .long (zJ (max tb ((co * (volt σ i co)) - 1)))), (0, .ref (ad (7 + i.toNat))), (1, .int (zI (photo σ i))), (2, .int (zI ((photo σ i) / 32 + 1))), (5, .int (zI co))]) dX0_bestPoint_42 (by decide) rfl ?_
      refine g_iload (pc := 43) dX0_bestPoint_43 4 rfl ?_
      refine g_iload_n (pc := 45) dX0_bestPoint_45 3 rfl ?_
      refine g_iadd (pc := 46) dX0_bestPoint_46 ?_
      refine g_istore (pc := 47) (lv' := [(5, .int (zI (co + ((photo σ i) / 32 + 1)))), (3, .long (zJ (max tb ((co * (volt σ i co)) - 1)))), (0, .ref (ad (7 + i.toNat))), (1, .int (zI (photo σ i))), (2, .int (zI ((photo σ i) / 32 + 1)))]) dX0_bestPoint_47 (by decide) rfl ?_
      refine g_goto (pc := 49) 19 dX0_bestPoint_49 (by decide) ?_
      refine g_sub (lv' := [(0, .ref (ad (7 + i.toNat))), (1, .int (zI (photo σ i))), (2, .int (zI ((photo σ i) / 32 + 1))), (3, .long (zJ (max tb ((co * (volt σ i co)) - 1)))), (5, .int (zI (co + ((photo σ i) / 32 + 1))))]) [2, 3, 4, 1, 0] rfl ?_
      exact ih (max tb ((co * (volt σ i co)) - 1)) (co + ((photo σ i) / 32 + 1)) (hcr.step ⟨by omega, by omega⟩ (by omega)) (by omega) (by omega) (by omega)
set_option maxRecDepth 100000 in
set_option maxHeartbeats 2000000 in
/-- PvArray$Curve.bestPoint  -/
theorem c_X0_bestPoint_mod {D : va_G} {cy : Nat → ClassId} {l : Launch} {ad : Nat → Nat} {σ : Nat → Int → Int} {X : va_W} (hB : Bd σ) (hL : LC σ) (i : Int) (hi : 0 ≤ i ∧ i < 24) : Con D cy l yX0_bestPoint cX0_bestPoint 8 (some .int) rm_X0_bestPoint [.ref (ad (7 + i.toNat))] (CW cy ad σ ++ X) (rdI (mbest σ i) (CW cy ad σ ++ X)) := by
  refine Con.of (lv := [(0, .ref (ad (7 + i.toNat)))]) (by decide) (Nat.le_of_ble_eq_true rfl) rfl ?_
  have n1 := photo_b hB i
  refine g_aload_n (pc := 0) dX0_bestPoint_0 0 rfl ?_
  refine g_callU (pc := 1) (As := []) (rest := []) k_X0_23_X3 (c_X3_end (σ := σ) hL i (by omega)) ⟨rfl, rfl, Nat.le_of_ble_eq_true rfl, Nat.le_of_ble_eq_true rfl⟩ (7 + i.toNat) 2 rfl rfl (at_mod (i := i) (by omega)) rfl rfl (Nat.le_of_ble_eq_true rfl) dX0_bestPoint_1 (fun v_ w_ hq_ => ?_)
  obtain ⟨rfl, rfl⟩ := hq_
  refine g_one ?_
  refine g_istore_n (pc := 4) (lv' := [(1, .int (zI (photo σ i))), (0, .ref (ad (7 + i.toNat)))]) dX0_bestPoint_4 (by decide) rfl ?_
  refine g_iload_n (pc := 5) dX0_bestPoint_5 0 rfl ?_
  refine g_bipush (pc := 6) dX0_bestPoint_6 (by omega) ?_
  refine g_idiv (pc := 8) dX0_bestPoint_8 (by omega) (by omega) ?_
  refine g_iconst (pc := 9) dX0_bestPoint_9 ?_
  refine g_iadd (pc := 10) dX0_bestPoint_10 ?_
  refine g_istore_n (pc := 11) (lv' := [(2, .int (zI (((photo σ i) / 32) + 1))), (1, .int (zI (photo σ i))), (0, .ref (ad (7 + i.toNat)))]) dX0_bestPoint_11 (by decide) rfl ?_
  refine g_ldc2 (pc := 12) cl_X0_26 dX0_bestPoint_12 ?_
  refine g_lstore_n (pc := 15) (lv' := [(3, .long (zJ (-1))), (2, .int (zI (((photo σ i) / 32) + 1))), (1, .int (zI (photo σ i))), (0, .ref (ad (7 + i.toNat)))]) dX0_bestPoint_15 (by decide) rfl ?_
  refine g_iconst (pc := 16) dX0_bestPoint_16 ?_
  refine g_istore (pc := 17) (lv' := [(5, .int (zI 0)), (3, .long (zJ (-1))), (2, .int (zI (((photo σ i) / 32) + 1))), (1, .int (zI (photo σ i))), (0, .ref (ad (7 + i.toNat)))]) dX0_bestPoint_17 (by decide) rfl ?_
  refine g_sub (lv' := [(0, .ref (ad (7 + i.toNat))), (1, .int (zI (photo σ i))), (2, .int (zI (((photo σ i) / 32) + 1))), (3, .long (zJ (-1))), (5, .int (zI 0))]) [4, 3, 2, 1, 0] rfl ?_
  exact lp_X0_coarse_mod hB hL i hi (((photo σ i) + 1).toNat + 1) (-1) 0 (CR.zero n1.1) (by omega) (by omega) (by omega)
set_option maxRecDepth 100000 in
set_option maxHeartbeats 2000000 in
/-- PvArray$Curve.greatestProduct  -/
theorem c_X0_greatestProduct_mod {D : va_G} {cy : Nat → ClassId} {l : Launch} {ad : Nat → Nat} {σ : Nat → Int → Int} {X : va_W} (hB : Bd σ) (hL : LC σ) (i : Int) (hi : 0 ≤ i ∧ i < 24) : Con D cy l yX0_greatestProduct cX0_greatestProduct 1 (some .long) rm_X0_greatestProduct [.ref (ad (7 + i.toNat))] (CW cy ad σ ++ X) (rdJ (mpeak σ i) (CW cy ad σ ++ X)) := by
  refine Con.of (lv := [(0, .ref (ad (7 + i.toNat)))]) (by decide) (Nat.le_of_ble_eq_true rfl) rfl ?_
  have n1 := photo_b hB i
  have n2 : 0 ≤ mbest σ i ∧ mbest σ i ≤ photo σ i := bestTo_b _ n1.1
  refine g_aload_n (pc := 0) dX0_greatestProduct_0 0 rfl ?_
  refine g_aload_n (pc := 1) dX0_greatestProduct_1 0 rfl ?_
  refine g_callU (pc := 2) (As := []) (rest := [.ref (ad (7 + i.toNat))]) k_X0_15_X3 (c_X0_bestPoint_mod (σ := σ) hB hL i (by omega)) ⟨rfl, rfl, Nat.le_of_ble_eq_true rfl, Nat.le_of_ble_eq_true rfl⟩ (7 + i.toNat) 2 rfl rfl (at_mod (i := i) (by omega)) rfl rfl (Nat.le_of_ble_eq_true rfl) dX0_greatestProduct_2 (fun v_ w_ hq_ => ?_)
  obtain ⟨rfl, rfl⟩ := hq_
  refine g_one ?_
  refine g_callU (pc := 5) (As := [.int (zI (mbest σ i))]) (rest := []) k_X0_19_X3 (c_X0_productAt_mod (σ := σ) hB hL i (by omega) (mbest σ i) (by omega)) ⟨rfl, rfl, Nat.le_of_ble_eq_true rfl, Nat.le_of_ble_eq_true rfl⟩ (7 + i.toNat) 2 rfl rfl (at_mod (i := i) (by omega)) rfl rfl (Nat.le_of_ble_eq_true rfl) dX0_greatestProduct_5 (fun v_ w_ hq_ => ?_)
  obtain ⟨rfl, rfl⟩ := hq_
  refine g_one ?_
  exact g_lret (pc := 8) dX0_greatestProduct_8 rfl (rdJ_of rfl)
set_option maxRecDepth 100000 in
set_option maxHeartbeats 2000000 in
/-- PvArray$Curve.bestPoint, the loop at 58  -/
theorem lp_X0_best_str {D : va_G} {cy : Nat → ClassId} {l : Launch} {ad : Nat → Nat} {σ : Nat → Int → Int} {X : va_W} (hB : Bd σ) (hL : LC σ) (s : Int) (hs : 0 ≤ s ∧ s < 6) : ∀ (n : Nat) (tb be pt : Int), BP (svolt σ s) (limit σ s) tb be pt → ((limit σ s) + 1 - pt).toNat < n → GO D cy l rm_X0_bestPoint cX0_bestPoint 8 yX0_bestPoint.cls (some .int) (CW cy ad σ ++ X) (rdI (bestC σ s) (CW cy ad σ ++ X)) (CW cy ad σ ++ X) 58 [(0, .ref (ad (31 + s.toNat))), (1, .int (zI (limit σ s))), (2, .int (zI ((limit σ s) / 32 + 1))), (3, .long (zJ tb)), (5, .int (zI be)), (6, .int (zI pt))] [] := by
  intro n
  induction n with
  | zero =>
    intro tb be pt hbp hn
    exact absurd hn (Nat.not_lt_zero _)
  | succ n ih =>
    intro tb be pt hbp hn
    have n1 := limit_b hB s
    obtain ⟨b1, b2, b3, b4, b5, b6, -⟩ := id hbp
    refine g_iload (pc := 58) dX0_bestPoint_58 5 rfl ?_
    refine g_iload_n (pc := 60) dX0_bestPoint_60 1 rfl ?_
    refine g_icmp_gt (pc := 61) 125 dX0_bestPoint_61 (by decide) (by omega) (by omega) (fun h_1 => ?_) (fun h_1 => ?_)
    · refine g_iload (pc := 125) dX0_bestPoint_125 4 rfl ?_
      exact g_iret (pc := 127) dX0_bestPoint_127 rfl (rdI_of (IsBest.eq (f := spow σ s) (limit_b hB s).1 (hbp.out (by omega))))
    · refine g_aload_n (pc := 64) dX0_bestPoint_64 0 rfl ?_
      refine g_iload (pc := 65) dX0_bestPoint_65 5 rfl ?_
      refine g_callU (pc := 67) (As := [.int (zI pt)]) (rest := []) k_X0_9_X4 (c_X4_valueAt (σ := σ) hB hL s (by omega) pt (by omega)) ⟨rfl, rfl, Nat.le_of_ble_eq_true rfl, Nat.le_of_ble_eq_true rfl⟩ (31 + s.toNat) 3 rfl rfl (at_str (s := s) (by omega)) rfl rfl (Nat.le_of_ble_eq_true rfl) dX0_bestPoint_67 (fun v_ w_ hq_ => ?_)
      obtain ⟨rfl, rfl⟩ := hq_
      refine g_one ?_
      have v1 := svolt_b hB s (c := pt) (by omega)
      have v2 : -1728000 ≤ pt * svolt σ s pt ∧ pt * svolt σ s pt ≤ 51840000 := spow_b2 hB s (c := pt) (by omega)
      refine g_istore (pc := 70) (lv' := [(7, .int (zI (svolt σ s pt))), (0, .ref (ad (31 + s.toNat))), (1, .int (zI (limit σ s))), (2, .int (zI ((limit σ s) / 32 + 1))), (3, .long (zJ tb)), (5, .int (zI be)), (6, .int (zI pt))]) dX0_bestPoint_70 (by decide) rfl ?_
      refine g_iload (pc := 72) dX0_bestPoint_72 0 rfl ?_
      refine g_if_gt (pc := 74) 80 dX0_bestPoint_74 (by decide) (by omega) (fun h_2 => ?_) (fun h_2 => ?_)
      · refine g_iload (pc := 80) dX0_bestPoint_80 6 rfl ?_
        refine g_i2l (pc := 82) dX0_bestPoint_82 (by omega) ?_
        refine g_iload (pc := 83) dX0_bestPoint_83 0 rfl ?_
        refine g_i2l (pc := 85) dX0_bestPoint_85 (by omega) ?_
        refine g_lmul (pc := 86) dX0_bestPoint_86 ?_
        refine g_lload_n (pc := 87) dX0_bestPoint_87 4 rfl ?_
        refine g_lcmp_le (pc := 88) 104 dX0_bestPoint_88 dX0_bestPoint_89 (by decide) (by omega) (by omega) (fun h_3 => ?_) (fun h_3 => ?_)
        · have v3 : 0 ≤ tb ∧ tb ≤ 52000000 := by first | omega | (have := hbp.nn (by omega); omega)
          have v4 := div_b v3 (show 0 < svolt σ s pt by omega)
          refine g_iload (pc := 104) dX0_bestPoint_104 6 rfl ?_
          refine g_i2l (pc := 106) dX0_bestPoint_106 (by omega) ?_
          refine g_lconst (pc := 107) (z := 1) dX0_bestPoint_107 rfl ?_
          refine g_ladd (pc := 108) dX0_bestPoint_108 ?_
          refine g_lload_n (pc := 109) dX0_bestPoint_109 4 rfl ?_
          refine g_iload (pc := 110) dX0_bestPoint_110 0 rfl ?_
          refine g_i2l (pc := 112) dX0_bestPoint_112 (by omega) ?_
          refine g_ldiv (pc := 113) dX0_bestPoint_113 (by omega) (by omega) ?_
          refine g_lconst (pc := 114) (z := 1) dX0_bestPoint_114 rfl ?_
          refine g_ladd (pc := 115) dX0_bestPoint_115 ?_
          refine g_maxl (pc := 116) ma_maxl_X0_28 ma_maxl_s ma_i ma_maxl_c (Nat.le_of_ble_eq_true rfl) (Nat.le_of_ble_eq_true rfl) (by omega) (by omega) dX0_bestPoint_116 ?_
          refine g_l2i (pc := 119) dX0_bestPoint_119 ?_
          refine g_istore (pc := 120) (lv' := [(6, .int (zI (max (pt + 1) ((tb / (svolt σ s pt)) + 1)))), (7, .int (zI (svolt σ s pt))), (0, .ref (ad (31 + s.toNat))), (1, .int (zI (limit σ s))), (2, .int (zI ((limit σ s) / 32 + 1))), (3, .long (zJ tb)), (5, .int (zI be))]) dX0_bestPoint_120 (by decide) rfl ?_
          refine g_goto (pc := 122) 58 dX0_bestPoint_122 (by decide) ?_
          refine g_sub (lv' := [(0, .ref (ad (31 + s.toNat))), (1, .int (zI (limit σ s))), (2, .int (zI ((limit σ s) / 32 + 1))), (3, .long (zJ tb)), (5, .int (zI be)), (6, .int (zI (max (pt + 1) ((tb / (svolt σ s pt)) + 1))))]) [2, 3, 4, 5, 6, 0] rfl ?_
          exact ih tb be (max (pt + 1) ((tb / (svolt σ s pt)) + 1)) (hbp.no (svolt_Mono hB s _) (by omega) (by omega) (by omega) (by omega)) (by omega)
        · refine g_iload (pc := 92) dX0_bestPoint_92 6 rfl ?_
          refine g_i2l (pc := 94) dX0_bestPoint_94 (by omega) ?_
          refine g_iload (pc := 95) dX0_bestPoint_95 0 rfl ?_
          refine g_i2l (pc := 97) dX0_bestPoint_97 (by omega) ?_
          refine g_lmul (pc := 98) dX0_bestPoint_98 ?_
          refine g_lstore_n (pc := 99) (lv' := [(3, .long (zJ (pt * (svolt σ s pt)))), (7, .int (zI (svolt σ s pt))), (0, .ref (ad (31 + s.toNat))), (1, .int (zI (limit σ s))), (2, .int (zI ((limit σ s) / 32 + 1))), (5, .int (zI be)), (6, .int (zI pt))]) dX0_bestPoint_99 (by decide) rfl ?_
          refine g_iload (pc := 100) dX0_bestPoint_100 6 rfl ?_
          refine g_istore (pc := 102) (lv' := [(5, .int (zI pt)), (3, .long (zJ (pt * (svolt σ s pt)))), (7, .int (zI (svolt σ s pt))), (0, .ref (ad (31 + s.toNat))), (1, .int (zI (limit σ s))), (2, .int (zI ((limit σ s) / 32 + 1))), (6, .int (zI pt))]) dX0_bestPoint_102 (by decide) rfl ?_
          have v3 : 0 ≤ (pt * (svolt σ s pt)) ∧ (pt * (svolt σ s pt)) ≤ 52000000 := by first | omega | (have := hbp.nn (by omega); omega)
          have v4 := div_b v3 (show 0 < svolt σ s pt by omega)
          refine g_iload (pc := 104) dX0_bestPoint_104 6 rfl ?_
          refine g_i2l (pc := 106) dX0_bestPoint_106 (by omega) ?_
          refine g_lconst (pc := 107) (z := 1) dX0_bestPoint_107 rfl ?_
          refine g_ladd (pc := 108) dX0_bestPoint_108 ?_
          refine g_lload_n (pc := 109) dX0_bestPoint_109 1 rfl ?_
          refine g_iload (pc := 110) dX0_bestPoint_110 2 rfl ?_
          refine g_i2l (pc := 112) dX0_bestPoint_112 (by omega) ?_
          refine g_ldiv (pc := 113) dX0_bestPoint_113 (by omega) (by omega) ?_
          refine g_lconst (pc := 114) (z := 1) dX0_bestPoint_114 rfl ?_
          refine g_ladd (pc := 115) dX0_bestPoint_115 ?_
          refine g_maxl (pc := 116) ma_maxl_X0_28 ma_maxl_s ma_i ma_maxl_c (Nat.le_of_ble_eq_true rfl) (Nat.le_of_ble_eq_true rfl) (by omega) (by omega) dX0_bestPoint_116 ?_
          refine g_l2i (pc := 119) dX0_bestPoint_119 ?_
          refine g_istore (pc := 120) (lv' := [(6, .int (zI (max (pt + 1) (((pt * (svolt σ s pt)) / (svolt σ s pt)) + 1)))), (5, .int (zI pt)), (3, .long (zJ (pt * (svolt σ s pt)))), (7, .int (zI (svolt σ s pt))), (0, .ref (ad (31 + s.toNat))), (1, .int (zI (limit σ s))), (2, .int (zI ((limit σ s) / 32 + 1)))]) dX0_bestPoint_120 (by decide) rfl ?_
          refine g_goto (pc := 122) 58 dX0_bestPoint_122 (by decide) ?_
          refine g_sub (lv' := [(0, .ref (ad (31 + s.toNat))), (1, .int (zI (limit σ s))), (2, .int (zI ((limit σ s) / 32 + 1))), (3, .long (zJ (pt * (svolt σ s pt)))), (5, .int (zI pt)), (6, .int (zI (max (pt + 1) (((pt * (svolt σ s pt)) / (svolt σ s pt)) + 1))))]) [4, 5, 6, 2, 1, 0] rfl ?_
          exact ih (pt * (svolt σ s pt)) pt (max (pt + 1) (((pt * (svolt σ s pt)) / (svolt σ s pt)) + 1)) (hbp.yes (svolt_Mono hB s _) (by omega) (by omega) (by omega) (by omega) (by omega)) (by omega)
      · refine g_goto (pc := 77) 125 dX0_bestPoint_77 (by decide) ?_
        refine g_iload (pc := 125) dX0_bestPoint_125 5 rfl ?_
        exact g_iret (pc := 127) dX0_bestPoint_127 rfl (rdI_of (IsBest.eq (f := spow σ s) (limit_b hB s).1 (hbp.out0 (svolt_Mono hB s _) (by omega) (by omega))))
set_option maxRecDepth 100000 in
set_option maxHeartbeats 2000000 in
/-- PvArray$Curve.bestPoint, the loop at 19  -/
theorem lp_X0_coarse_str {D : va_G} {cy : Nat → ClassId} {l : Launch} {ad : Nat → Nat} {σ : Nat → Int → Int} {X : va_W} (hB : Bd σ) (hL : LC σ) (s : Int) (hs : 0 ≤ s ∧ s < 6) : ∀ (n : Nat) (tb co : Int), CR (svolt σ s) (limit σ s) tb → 0 ≤ co → co ≤ 20000 → ((limit σ s) + 1 - co).toNat < n → GO D cy l rm_X0_bestPoint cX0_bestPoint 8 yX0_bestPoint.cls (some .int) (CW cy ad σ ++ X) (rdI (bestC σ s) (CW cy ad σ ++ X)) (CW cy ad σ ++ X) 19 [(0, .ref (ad (31 + s.toNat))), (1, .int (zI (limit σ s))), (2, .int (zI ((limit σ s) / 32 + 1))), (3, .long (zJ tb)), (5, .int (zI co))] [] := by
  intro n
  induction n with
  | zero =>
    intro tb co hcr hco hco2 hn
    exact absurd hn (Nat.not_lt_zero _)
  | succ n ih =>
    intro tb co hcr hco hco2 hn
    have n1 := limit_b hB s
    obtain ⟨b1, b2, -⟩ := id hcr
    refine g_iload (pc := 19) dX0_bestPoint_19 4 rfl ?_
    refine g_iload_n (pc := 21) dX0_bestPoint_21 1 rfl ?_
    refine g_icmp_gt (pc := 22) 52 dX0_bestPoint_22 (by decide) (by omega) (by omega) (fun h_1 => ?_) (fun h_1 => ?_)
    · refine g_iconst (pc := 52) dX0_bestPoint_52 ?_
      refine g_istore (pc := 53) (lv' := [(5, .int (zI 0)), (0, .ref (ad (31 + s.toNat))), (1, .int (zI (limit σ s))), (2, .int (zI ((limit σ s) / 32 + 1))), (3, .long (zJ tb))]) dX0_bestPoint_53 (by decide) rfl ?_
      refine g_iconst (pc := 55) dX0_bestPoint_55 ?_
      refine g_istore (pc := 56) (lv' := [(6, .int (zI 0)), (5, .int (zI 0)), (0, .ref (ad (31 + s.toNat))), (1, .int (zI (limit σ s))), (2, .int (zI ((limit σ s) / 32 + 1))), (3, .long (zJ tb))]) dX0_bestPoint_56 (by decide) rfl ?_
      refine g_sub (lv' := [(0, .ref (ad (31 + s.toNat))), (1, .int (zI (limit σ s))), (2, .int (zI ((limit σ s) / 32 + 1))), (3, .long (zJ tb)), (5, .int (zI 0)), (6, .int (zI 0))]) [2, 3, 4, 5, 1, 0] rfl ?_
      exact lp_X0_best_str hB hL s hs (((limit σ s) + 1).toNat + 1) tb 0 0 (BP.init n1.1 hcr) (by omega)
    · have v1 := svolt_b hB s (c := co) (by omega)
      have v2 : -1728000 ≤ co * svolt σ s co ∧ co * svolt σ s co ≤ 51840000 := spow_b2 hB s (c := co) (by omega)
      refine g_lload_n (pc := 25) dX0_bestPoint_25 3 rfl ?_
      refine g_iload (pc := 26) dX0_bestPoint_26 4 rfl ?_
      refine g_i2l (pc := 28) dX0_bestPoint_28 (by omega) ?_
      refine g_aload_n (pc := 29) dX0_bestPoint_29 0 rfl ?_
      refine g_iload (pc := 30) dX0_bestPoint_30 4 rfl ?_
      refine g_callU (pc := 32) (As := [.int (zI co)]) (rest := [.long (zJ co), .long (zJ tb)]) k_X0_9_X4 (c_X4_valueAt (σ := σ) hB hL s (by omega) co (by omega)) ⟨rfl, rfl, Nat.le_of_ble_eq_true rfl, Nat.le_of_ble_eq_true rfl⟩ (31 + s.toNat) 3 rfl rfl (at_str (s := s) (by omega)) rfl rfl (Nat.le_of_ble_eq_true rfl) dX0_bestPoint_32 (fun v_ w_ hq_ => ?_)
      obtain ⟨rfl, rfl⟩ := hq_
      refine g_one ?_
      refine g_i2l (pc := 35) dX0_bestPoint_35 (by omega) ?_
      refine g_lmul (pc := 36) dX0_bestPoint_36 ?_
      refine g_lconst (pc := 37) (z := 1) dX0_bestPoint_37 rfl ?_
      refine g_lsub (pc := 38) dX0_bestPoint_38 ?_
      refine g_maxl (pc := 39) ma_maxl_X0_28 ma_maxl_s ma_i ma_maxl_c (Nat.le_of_ble_eq_true rfl) (Nat.le_of_ble_eq_true rfl) (by omega) (by omega) dX0_bestPoint_39 ?_
      refine g_lstore_n (pc := 42) (lv' := [(3, .long (zJ (max tb ((co * (svolt σ s co)) - 1)))), (0, .ref (ad (31 + s.toNat))), (1, .int (zI (limit σ s))), (2, .int (zI ((limit σ s) / 32 + 1))), (5, .int (zI co))]) dX0_bestPoint_42 (by decide) rfl ?_
      refine g_iload (pc := 43) dX0_bestPoint_43 4 rfl ?_
      refine g_iload_n (pc := 45) dX0_bestPoint_45 3 rfl ?_
      refine g_iadd (pc := 46) dX0_bestPoint_46 ?_
      refine g_istore (pc := 47) (lv' := [(5, .int (zI (co + ((limit σ s) / 32 + 1)))), (3, .long (zJ (max tb ((co * (svolt σ s co)) - 1)))), (0, .ref (ad (31 + s.toNat))), (1, .int (zI (limit σ s))), (2, .int (zI ((limit σ s) / 32 + 1)))]) dX0_bestPoint_47 (by decide) rfl ?_
      refine g_goto (pc := 49) 19 dX0_bestPoint_49 (by decide) ?_
      refine g_sub (lv' := [(0, .ref (ad (31 + s.toNat))), (1, .int (zI (limit σ s))), (2, .int (zI ((limit σ s) / 32 + 1))), (3, .long (zJ (max tb ((co * (svolt σ s co)) - 1)))), (5, .int (zI (co + ((limit σ s) / 32 + 1))))]) [2, 3, 4, 1, 0] rfl ?_
      exact ih (max tb ((co * (svolt σ s co)) - 1)) (co + ((limit σ s) / 32 + 1)) (hcr.step ⟨by omega, by omega⟩ (by omega)) (by omega) (by omega) (by omega)
set_option maxRecDepth 100000 in
set_option maxHeartbeats 2000000 in
/-- PvArray$Curve.bestPoint  -/
theorem c_X0_bestPoint_str {D : va_G} {cy : Nat → ClassId} {l : Launch} {ad : Nat → Nat} {σ : Nat → Int → Int} {X : va_W} (hB : Bd σ) (hL : LC σ) (s : Int) (hs : 0 ≤ s ∧ s < 6) : Con D cy l yX0_bestPoint cX0_bestPoint 8 (some .int) rm_X0_bestPoint [.ref (ad (31 + s.toNat))] (CW cy ad σ ++ X) (rdI (bestC σ s) (CW cy ad σ ++ X)) := by
  refine Con.of (lv := [(0, .ref (ad (31 + s.toNat)))]) (by decide) (Nat.le_of_ble_eq_true rfl) rfl ?_
  have n1 := limit_b hB s
  refine g_aload_n (pc := 0) dX0_bestPoint_0 0 rfl ?_
  refine g_callU (pc := 1) (As := []) (rest := []) k_X0_23_X4 (c_X4_end (σ := σ) hB hL s (by omega)) ⟨rfl, rfl, Nat.le_of_ble_eq_true rfl, Nat.le_of_ble_eq_true rfl⟩ (31 + s.toNat) 3 rfl rfl (at_str (s := s) (by omega)) rfl rfl (Nat.le_of_ble_eq_true rfl) dX0_bestPoint_1 (fun v_ w_ hq_ => ?_)
  obtain ⟨rfl, rfl⟩ := hq_
  refine g_one ?_
  refine g_istore_n (pc := 4) (lv' := [(1, .int (zI (limit σ s))), (0, .ref (ad (31 + s.toNat)))]) dX0_bestPoint_4 (by decide) rfl ?_
  refine g_iload_n (pc := 5) dX0_bestPoint_5 0 rfl ?_
  refine g_bipush (pc := 6) dX0_bestPoint_6 (by omega) ?_
  refine g_idiv (pc := 8) dX0_bestPoint_8 (by omega) (by omega) ?_
  refine g_iconst (pc := 9) dX0_bestPoint_9 ?_
  refine g_iadd (pc := 10) dX0_bestPoint_10 ?_
  refine g_istore_n (pc := 11) (lv' := [(2, .int (zI (((limit σ s) / 32) + 1))), (1, .int (zI (limit σ s))), (0, .ref (ad (31 + s.toNat)))]) dX0_bestPoint_11 (by decide) rfl ?_
  refine g_ldc2 (pc := 12) cl_X0_26 dX0_bestPoint_12 ?_
  refine g_lstore_n (pc := 15) (lv' := [(3, .long (zJ (-1))), (2, .int (zI (((limit σ s) / 32) + 1))), (1, .int (zI (limit σ s))), (0, .ref (ad (31 + s.toNat)))]) dX0_bestPoint_15 (by decide) rfl ?_
  refine g_iconst (pc := 16) dX0_bestPoint_16 ?_
  refine g_istore (pc := 17) (lv' := [(5, .int (zI 0)), (3, .long (zJ (-1))), (2, .int (zI (((limit σ s) / 32) + 1))), (1, .int (zI (limit σ s))), (0, .ref (ad (31 + s.toNat)))]) dX0_bestPoint_17 (by decide) rfl ?_
  refine g_sub (lv' := [(0, .ref (ad (31 + s.toNat))), (1, .int (zI (limit σ s))), (2, .int (zI (((limit σ s) / 32) + 1))), (3, .long (zJ (-1))), (5, .int (zI 0))]) [4, 3, 2, 1, 0] rfl ?_
  exact lp_X0_coarse_str hB hL s hs (((limit σ s) + 1).toNat + 1) (-1) 0 (CR.zero n1.1) (by omega) (by omega) (by omega)
set_option maxRecDepth 100000 in
set_option maxHeartbeats 2000000 in
/-- PvArray$Curve.greatestProduct  -/
theorem c_X0_greatestProduct_str {D : va_G} {cy : Nat → ClassId} {l : Launch} {ad : Nat → Nat} {σ : Nat → Int → Int} {X : va_W} (hB : Bd σ) (hL : LC σ) (s : Int) (hs : 0 ≤ s ∧ s < 6) : Con D cy l yX0_greatestProduct cX0_greatestProduct 1 (some .long) rm_X0_greatestProduct [.ref (ad (31 + s.toNat))] (CW cy ad σ ++ X) (rdJ (bestP σ s) (CW cy ad σ ++ X)) := by
  refine Con.of (lv := [(0, .ref (ad (31 + s.toNat)))]) (by decide) (Nat.le_of_ble_eq_true rfl) rfl ?_
  have n1 := limit_b hB s
  have n2 : 0 ≤ bestC σ s ∧ bestC σ s ≤ limit σ s := bestTo_b _ n1.1
  refine g_aload_n (pc := 0) dX0_greatestProduct_0 0 rfl ?_
  refine g_aload_n (pc := 1) dX0_greatestProduct_1 0 rfl ?_
  refine g_callU (pc := 2) (As := []) (rest := [.ref (ad (31 + s.toNat))]) k_X0_15_X4 (c_X0_bestPoint_str (σ := σ) hB hL s (by omega)) ⟨rfl, rfl, Nat.le_of_ble_eq_true rfl, Nat.le_of_ble_eq_true rfl⟩ (31 + s.toNat) 3 rfl rfl (at_str (s := s) (by omega)) rfl rfl (Nat.le_of_ble_eq_true rfl) dX0_greatestProduct_2 (fun v_ w_ hq_ => ?_)
  obtain ⟨rfl, rfl⟩ := hq_
  refine g_one ?_
  refine g_callU (pc := 5) (As := [.int (zI (bestC σ s))]) (rest := []) k_X0_19_X4 (c_X0_productAt_str (σ := σ) hB hL s (by omega) (bestC σ s) (by omega)) ⟨rfl, rfl, Nat.le_of_ble_eq_true rfl, Nat.le_of_ble_eq_true rfl⟩ (31 + s.toNat) 3 rfl rfl (at_str (s := s) (by omega)) rfl rfl (Nat.le_of_ble_eq_true rfl) dX0_greatestProduct_5 (fun v_ w_ hq_ => ?_)
  obtain ⟨rfl, rfl⟩ := hq_
  refine g_one ?_
  exact g_lret (pc := 8) dX0_greatestProduct_8 rfl (rdJ_of rfl)
