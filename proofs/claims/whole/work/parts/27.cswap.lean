theorem gn_ne {σ : Nat → Int → Int} (hP : Pos σ (σ 9) (σ 10)) (g lo hi : Int) {a b : Int} (ha : 0 ≤ a ∧ a < σ 0 1) (hb : 0 ≤ b ∧ b < σ 0 1) (h : ¬ σ 9 a = σ 9 b) : bestP (exc (fbS σ (σ 0 2) g lo hi) a b) (σ 9 a) + bestP (exc (fbS σ (σ 0 2) g lo hi) a b) (σ 9 b) - fbS σ (σ 0 2) g lo hi 11 (σ 9 a) - fbS σ (σ 0 2) g lo hi 11 (σ 9 b) = Gc σ a b := by
  rw [← gn_fb hP g lo hi ha hb]
  unfold gn
  exact (if_neg h).symm
theorem Gc_z {σ : Nat → Int → Int} {a b : Int} (h : σ 9 a = σ 9 b) : Gc σ a b = 0 := if_pos h
set_option maxRecDepth 100000 in
set_option maxHeartbeats 2000000 in
/-- PvArray.findBestSwap, the loop at 67  -/
theorem lp_X5_swapI {D : va_G} {cy : Nat → ClassId} {l : Launch} {ad : Nat → Nat} {σ : Nat → Int → Int} {X : va_W} (hB : Bd σ) (hL : LC σ) (hP : Pos σ (σ 9) (σ 10)) (a : Int) (ha : 0 ≤ a ∧ a < σ 0 1) (u : Int × Int × Int) (kk : GO D cy l rm_X5_findBestSwap cX5_findBestSwap 9 yX5_findBestSwap.cls none (CW cy ad σ ++ X) (wv (CW cy ad (fbS σ (σ 0 2) (swO (Gc σ) (σ 0 1) (σ 0 1).toNat 0 (0, -1005, -1005)).1 (swO (Gc σ) (σ 0 1) (σ 0 1).toNat 0 (0, -1005, -1005)).2.1 (swO (Gc σ) (σ 0 1) (σ 0 1).toNat 0 (0, -1005, -1005)).2.2) ++ X)) (CW cy ad (fbS σ (σ 0 2) u.1 u.2.1 u.2.2) ++ X) 55 [(0, .ref (ad 0)), (1, .int (zI (a + 1)))] []) : ∀ (n : Nat) (b g lo hi : Int), a < b → b ≤ σ 0 1 → 0 ≤ g → g ≤ 20000000 → swI (Gc σ) a (σ 0 1 - b).toNat b (g, lo, hi) = u → (σ 0 1 - b).toNat < n → GO D cy l rm_X5_findBestSwap cX5_findBestSwap 9 yX5_findBestSwap.cls none (CW cy ad σ ++ X) (wv (CW cy ad (fbS σ (σ 0 2) (swO (Gc σ) (σ 0 1) (σ 0 1).toNat 0 (0, -1005, -1005)).1 (swO (Gc σ) (σ 0 1) (σ 0 1).toNat 0 (0, -1005, -1005)).2.1 (swO (Gc σ) (σ 0 1) (σ 0 1).toNat 0 (0, -1005, -1005)).2.2) ++ X)) (CW cy ad (fbS σ (σ 0 2) g lo hi) ++ X) 67 [(0, .ref (ad 0)), (1, .int (zI a)), (2, .int (zI b))] [] := by
  intro n
  induction n with
  | zero =>
    intro b g lo hi hb hb2 hg hg2 ht hn
    exact absurd hn (Nat.not_lt_zero _)
  | succ n ih =>
    intro b g lo hi hb hb2 hg hg2 ht hn
    have g1 := hB.sc
    have g2 := hB.mc
    refine g_iload_n (pc := 67) dX5_findBestSwap_67 2 rfl ?_
    refine g_aload_n (pc := 68) dX5_findBestSwap_68 0 rfl ?_
    refine g_get (pc := 69) (ci := 4) inG_X5 rfl 2 (by decide) rfl fl_X5_9 (0) at_arr rfl dX5_findBestSwap_69 ?_
    refine g_topI (fbS_0 _ _ _ _ _ (by omega)) ?_
    refine g_icmp_ge (pc := 72) 190 dX5_findBestSwap_72 (by decide) (by omega) (by omega) (fun h_1 => ?_) (fun h_1 => ?_)
    · refine g_iinc (pc := 190) (lv' := [(1, .int (zI (a + 1))), (0, .ref (ad 0)), (2, .int (zI b))]) dX5_findBestSwap_190 (by decide) 1 rfl rfl ?_
      refine g_goto (pc := 193) 55 dX5_findBestSwap_193 (by decide) ?_
      refine g_sub (lv' := [(0, .ref (ad 0)), (1, .int (zI (a + 1)))]) [1, 0] rfl ?_
      refine g_world (w' := CW cy ad (fbS σ (σ 0 2) u.1 u.2.1 u.2.2) ++ X) (by rw [← ht, show (σ 0 1 - b).toNat = 0 by omega]; rfl) ?_
      exact kk
    · have g3 := Gc_b hB (a := a) (b := b) (by omega) (by omega)
      have g4 := hP.1 a (by omega) (by omega)
      have g5 := hP.1 b (by omega) (by omega)
      have hPS : Pos (fbS σ (σ 0 2) g lo hi) ((fbS σ (σ 0 2) g lo hi) 9) ((fbS σ (σ 0 2) g lo hi) 10) := Pos_fbS hP _ _ _ _
      have haS : 0 ≤ a ∧ a < (fbS σ (σ 0 2) g lo hi) 0 1 := by rw [fbS_0 _ _ _ _ _ (by omega)]; omega
      have hbS : 0 ≤ b ∧ b < (fbS σ (σ 0 2) g lo hi) 0 1 := by rw [fbS_0 _ _ _ _ _ (by omega)]; omega
      have hBx := (Bd_fbS hB (σ 0 2) g lo hi).exc haS hbS
      have hLx := (LC_fbS hL (σ 0 2) g lo hi).exc a b
      have hPx := Pos_exc (Bd_fbS hB (σ 0 2) g lo hi) hPS haS hbS
      refine g_aload_n (pc := 75) dX5_findBestSwap_75 0 rfl ?_
      refine g_get (pc := 76) (ci := 4) inG_X5 rfl 1 (by decide) rfl fl_X5_59 (0) at_arr rfl dX5_findBestSwap_76 ?_
      refine g_iload_n (pc := 79) dX5_findBestSwap_79 1 rfl ?_
      refine g_aald (pc := 80) 2 3 at_mods rfl (by omega) (by decide) rfl dX5_findBestSwap_80 ?_
      refine g_getN (pc := 81) (ci := 2) inG_X3 rfl 7 (by decide) rfl fl_X5_112 (7 + a.toNat) (at_mod (i := a) (by omega)) rfl dX5_findBestSwap_81 ?_
      refine g_topI (show (fbS σ (σ 0 2) g lo hi) 9 a = σ 9 a from rfl) ?_
      refine g_istore_n (pc := 84) (lv' := [(3, .int (zI (σ 9 a))), (0, .ref (ad 0)), (1, .int (zI a)), (2, .int (zI b))]) dX5_findBestSwap_84 (by decide) rfl ?_
      refine g_aload_n (pc := 85) dX5_findBestSwap_85 1 rfl ?_
      refine g_get (pc := 86) (ci := 4) inG_X5 rfl 1 (by decide) rfl fl_X5_59 (0) at_arr rfl dX5_findBestSwap_86 ?_
      refine g_iload_n (pc := 89) dX5_findBestSwap_89 3 rfl ?_
      refine g_aald (pc := 90) 2 3 at_mods rfl (by omega) (by decide) rfl dX5_findBestSwap_90 ?_
      refine g_getN (pc := 91) (ci := 2) inG_X3 rfl 7 (by decide) rfl fl_X5_112 (7 + b.toNat) (at_mod (i := b) (by omega)) rfl dX5_findBestSwap_91 ?_
      refine g_topI (show (fbS σ (σ 0 2) g lo hi) 9 b = σ 9 b from rfl) ?_
      refine g_istore (pc := 94) (lv' := [(4, .int (zI (σ 9 b))), (3, .int (zI (σ 9 a))), (0, .ref (ad 0)), (1, .int (zI a)), (2, .int (zI b))]) dX5_findBestSwap_94 (by decide) rfl ?_
      refine g_iload_n (pc := 96) dX5_findBestSwap_96 1 rfl ?_
      refine g_iload (pc := 97) dX5_findBestSwap_97 0 rfl ?_
      refine g_icmp_ne (pc := 99) 105 dX5_findBestSwap_99 (by decide) (by omega) (by omega) (fun h_2 => ?_) (fun h_2 => ?_)
      · refine g_aload_n (pc := 105) dX5_findBestSwap_105 2 rfl ?_
        refine g_iload_n (pc := 106) dX5_findBestSwap_106 3 rfl ?_
        refine g_iload_n (pc := 107) dX5_findBestSwap_107 4 rfl ?_
        refine g_callV (pc := 108) (As := [.int (zI a), .int (zI b)]) (rest := []) k_X5_118_X5 (c_X5_exchange (σ := (fbS σ (σ 0 2) g lo hi)) (Bd_fbS hB _ _ _ _) hPS a haS b hbS) ⟨rfl, rfl, Nat.le_of_ble_eq_true rfl, Nat.le_of_ble_eq_true rfl⟩ (0) 4 rfl rfl at_arr rfl rfl (Nat.le_of_ble_eq_true rfl) dX5_findBestSwap_108 (fun v_ w_ hq_ => ?_)
        obtain ⟨rfl, rfl⟩ := hq_
        refine g_none ?_
        refine g_aload_n (pc := 111) dX5_findBestSwap_111 2 rfl ?_
        refine g_get (pc := 112) (ci := 4) inG_X5 rfl 3 (by decide) rfl fl_X5_63 (0) at_arr rfl dX5_findBestSwap_112 ?_
        refine g_iload_n (pc := 115) dX5_findBestSwap_115 1 rfl ?_
        refine g_aald (pc := 116) 3 4 at_strs rfl (by omega) (by decide) rfl dX5_findBestSwap_116 ?_
        refine g_callU (pc := 117) (As := []) (rest := []) k_X5_158_X4 (c_X0_greatestProduct_str (σ := (exc (fbS σ (σ 0 2) g lo hi) a b)) hBx hLx (σ 9 a) (by omega)) ⟨rfl, rfl, Nat.le_of_ble_eq_true rfl, Nat.le_of_ble_eq_true rfl⟩ (31 + (σ 9 a).toNat) 3 rfl rfl (at_str (s := (σ 9 a)) (by omega)) rfl rfl (Nat.le_of_ble_eq_true rfl) dX5_findBestSwap_117 (fun v_ w_ hq_ => ?_)
        obtain ⟨rfl, rfl⟩ := hq_
        refine g_one ?_
        refine g_aload_n (pc := 120) dX5_findBestSwap_120 2 rfl ?_
        refine g_get (pc := 121) (ci := 4) inG_X5 rfl 3 (by decide) rfl fl_X5_63 (0) at_arr rfl dX5_findBestSwap_121 ?_
        refine g_iload (pc := 124) dX5_findBestSwap_124 0 rfl ?_
        refine g_aald (pc := 126) 3 4 at_strs rfl (by omega) (by decide) rfl dX5_findBestSwap_126 ?_
        refine g_callU (pc := 127) (As := []) (rest := [.long (zJ (bestP (exc (fbS σ (σ 0 2) g lo hi) a b) (σ 9 a)))]) k_X5_158_X4 (c_X0_greatestProduct_str (σ := (exc (fbS σ (σ 0 2) g lo hi) a b)) hBx hLx (σ 9 b) (by omega)) ⟨rfl, rfl, Nat.le_of_ble_eq_true rfl, Nat.le_of_ble_eq_true rfl⟩ (31 + (σ 9 b).toNat) 3 rfl rfl (at_str (s := (σ 9 b)) (by omega)) rfl rfl (Nat.le_of_ble_eq_true rfl) dX5_findBestSwap_127 (fun v_ w_ hq_ => ?_)
        obtain ⟨rfl, rfl⟩ := hq_
        refine g_one ?_
        refine g_ladd (pc := 130) dX5_findBestSwap_130 ?_
        refine g_lstore (pc := 131) (lv' := [(5, .long (zJ ((bestP (exc (fbS σ (σ 0 2) g lo hi) a b) (σ 9 a)) + (bestP (exc (fbS σ (σ 0 2) g lo hi) a b) (σ 9 b))))), (4, .int (zI (σ 9 b))), (3, .int (zI (σ 9 a))), (0, .ref (ad 0)), (1, .int (zI a)), (2, .int (zI b))]) dX5_findBestSwap_131 (by decide) rfl ?_
        refine g_aload_n (pc := 133) dX5_findBestSwap_133 3 rfl ?_
        refine g_iload_n (pc := 134) dX5_findBestSwap_134 4 rfl ?_
        refine g_iload_n (pc := 135) dX5_findBestSwap_135 5 rfl ?_
        refine g_callV (pc := 136) (As := [.int (zI a), .int (zI b)]) (rest := []) k_X5_118_X5 (c_X5_exchange (σ := (exc (fbS σ (σ 0 2) g lo hi) a b)) hBx hPx a haS b hbS) ⟨rfl, rfl, Nat.le_of_ble_eq_true rfl, Nat.le_of_ble_eq_true rfl⟩ (0) 4 rfl rfl at_arr rfl rfl (Nat.le_of_ble_eq_true rfl) dX5_findBestSwap_136 (fun v_ w_ hq_ => ?_)
        obtain ⟨rfl, rfl⟩ := hq_
        refine g_none ?_
        refine g_world (w' := CW cy ad (fbS σ (σ 0 2) g lo hi) ++ X) (by rw [exc_exc hPS haS hbS]) ?_
        refine g_lload (pc := 139) dX5_findBestSwap_139 0 rfl ?_
        refine g_aload_n (pc := 141) dX5_findBestSwap_141 3 rfl ?_
        refine g_get (pc := 142) (ci := 4) inG_X5 rfl 5 (by decide) rfl fl_X5_15 (0) at_arr rfl dX5_findBestSwap_142 ?_
        refine g_iload_n (pc := 145) dX5_findBestSwap_145 2 rfl ?_
        refine g_lald (pc := 146) 5 at_pb (by omega) (by decide) dX5_findBestSwap_146 ?_
        refine g_lsub (pc := 147) dX5_findBestSwap_147 ?_
        refine g_aload_n (pc := 148) dX5_findBestSwap_148 3 rfl ?_
        refine g_get (pc := 149) (ci := 4) inG_X5 rfl 5 (by decide) rfl fl_X5_15 (0) at_arr rfl dX5_findBestSwap_149 ?_
        refine g_iload (pc := 152) dX5_findBestSwap_152 1 rfl ?_
        refine g_lald (pc := 154) 5 at_pb (by omega) (by decide) dX5_findBestSwap_154 ?_
        refine g_lsub (pc := 155) dX5_findBestSwap_155 ?_
        refine g_topJ (gn_ne hP g lo hi (a := a) (b := b) (by omega) (by omega) (by omega)) ?_
        refine g_lstore (pc := 156) (lv' := [(7, .long (zJ (Gc σ a b))), (5, .long (zJ ((bestP (exc (fbS σ (σ 0 2) g lo hi) a b) (σ 9 a)) + (bestP (exc (fbS σ (σ 0 2) g lo hi) a b) (σ 9 b))))), (4, .int (zI (σ 9 b))), (3, .int (zI (σ 9 a))), (0, .ref (ad 0)), (1, .int (zI a)), (2, .int (zI b))]) dX5_findBestSwap_156 (by decide) rfl ?_
        refine g_lload (pc := 158) dX5_findBestSwap_158 0 rfl ?_
        refine g_aload_n (pc := 160) dX5_findBestSwap_160 4 rfl ?_
        refine g_get (pc := 161) (ci := 4) inG_X5 rfl 6 (by decide) rfl fl_X5_19 (0) at_arr rfl dX5_findBestSwap_161 ?_
        refine g_topJ (show (fbS σ (σ 0 2) g lo hi) 0 5 = g from rfl) ?_
        refine g_lcmp_le (pc := 164) 184 dX5_findBestSwap_164 dX5_findBestSwap_165 (by decide) (by omega) (by omega) (fun h_3 => ?_) (fun h_3 => ?_)
        · refine g_iinc (pc := 184) (lv' := [(2, .int (zI (b + 1))), (7, .long (zJ (Gc σ a b))), (5, .long (zJ ((bestP (exc (fbS σ (σ 0 2) g lo hi) a b) (σ 9 a)) + (bestP (exc (fbS σ (σ 0 2) g lo hi) a b) (σ 9 b))))), (4, .int (zI (σ 9 b))), (3, .int (zI (σ 9 a))), (0, .ref (ad 0)), (1, .int (zI a))]) dX5_findBestSwap_184 (by decide) 6 rfl rfl ?_
          refine g_goto (pc := 187) 67 dX5_findBestSwap_187 (by decide) ?_
          refine g_sub (lv' := [(0, .ref (ad 0)), (1, .int (zI a)), (2, .int (zI (b + 1)))]) [5, 6, 0] rfl ?_
          exact ih (b + 1) g lo hi (by omega) (by omega) (by omega) (by omega) (by rw [← ht, swI_s (Gc σ) a (b := b) (mc := σ 0 1) (by omega), swStep_f _ _ _ (t := (g, lo, hi)) (show ¬ g < Gc σ a b by omega)]) (by omega)
        · refine g_aload_n (pc := 168) dX5_findBestSwap_168 4 rfl ?_
          refine g_lload (pc := 169) dX5_findBestSwap_169 0 rfl ?_
          refine g_put (pc := 171) (ci := 4) inG_X5 tyX5 tyX5_ok nmX5 rfl 6 (by decide) rfl rfl fl_X5_19 (0) at_arr rfl rfl (Nat.le_of_ble_eq_true rfl) st_0_5 dX5_findBestSwap_171 ?_
          refine g_aload_n (pc := 174) dX5_findBestSwap_174 4 rfl ?_
          refine g_iload_n (pc := 175) dX5_findBestSwap_175 5 rfl ?_
          refine g_put (pc := 176) (ci := 4) inG_X5 tyX5 tyX5_ok nmX5 rfl 7 (by decide) rfl rfl fl_X5_23 (0) at_arr rfl rfl (Nat.le_of_ble_eq_true rfl) st_0_6 dX5_findBestSwap_176 ?_
          refine g_aload_n (pc := 179) dX5_findBestSwap_179 4 rfl ?_
          refine g_iload_n (pc := 180) dX5_findBestSwap_180 6 rfl ?_
          refine g_put (pc := 181) (ci := 4) inG_X5 tyX5 tyX5_ok nmX5 rfl 8 (by decide) rfl rfl fl_X5_26 (0) at_arr rfl rfl (Nat.le_of_ble_eq_true rfl) st_0_7 dX5_findBestSwap_181 ?_
          refine g_iinc (pc := 184) (lv' := [(2, .int (zI (b + 1))), (7, .long (zJ (Gc σ a b))), (5, .long (zJ ((bestP (exc (fbS σ (σ 0 2) g lo hi) a b) (σ 9 a)) + (bestP (exc (fbS σ (σ 0 2) g lo hi) a b) (σ 9 b))))), (4, .int (zI (σ 9 b))), (3, .int (zI (σ 9 a))), (0, .ref (ad 0)), (1, .int (zI a))]) dX5_findBestSwap_184 (by decide) 6 rfl rfl ?_
          refine g_goto (pc := 187) 67 dX5_findBestSwap_187 (by decide) ?_
          refine g_sub (lv' := [(0, .ref (ad 0)), (1, .int (zI a)), (2, .int (zI (b + 1)))]) [5, 6, 0] rfl ?_
          refine g_world (w' := CW cy ad (fbS σ (σ 0 2) (Gc σ a b) a b) ++ X) (by rw [fbS_put]) ?_
          exact ih (b + 1) (Gc σ a b) a b (by omega) (by omega) (by omega) (by omega) (by rw [← ht, swI_s (Gc σ) a (b := b) (mc := σ 0 1) (by omega), swStep_t _ _ _ (t := (g, lo, hi)) (show g < Gc σ a b by omega)]) (by omega)
      · have g6 := Gc_z (σ := σ) (a := a) (b := b) (by omega)
        refine g_goto (pc := 102) 184 dX5_findBestSwap_102 (by decide) ?_
        refine g_iinc (pc := 184) (lv' := [(2, .int (zI (b + 1))), (4, .int (zI (σ 9 b))), (3, .int (zI (σ 9 a))), (0, .ref (ad 0)), (1, .int (zI a))]) dX5_findBestSwap_184 (by decide) 4 rfl rfl ?_
        refine g_goto (pc := 187) 67 dX5_findBestSwap_187 (by decide) ?_
        refine g_sub (lv' := [(0, .ref (ad 0)), (1, .int (zI a)), (2, .int (zI (b + 1)))]) [3, 4, 0] rfl ?_
        exact ih (b + 1) g lo hi (by omega) (by omega) (by omega) (by omega) (by rw [← ht, swI_s (Gc σ) a (b := b) (mc := σ 0 1) (by omega), swStep_f _ _ _ (t := (g, lo, hi)) (show ¬ g < Gc σ a b by omega)]) (by omega)
theorem swI_b (G : Int → Int → Int) (a : Int) (B : Int) : ∀ (n : Nat) (b : Int) (t : Int × Int × Int), (∀ c, b ≤ c → c < b + n → G a c ≤ B) → 0 ≤ t.1 ∧ t.1 ≤ B → 0 ≤ (swI G a n b t).1 ∧ (swI G a n b t).1 ≤ B
  | 0, b, t, _, h => h
  | n + 1, b, t, hG, h => by
    rw [swI]
    refine swI_b G a B n (b + 1) _ (fun c q1 q2 => hG c (by omega) (by omega)) ?_
    have := hG b (by omega) (by omega)
    unfold swStep
    split
    · exact ⟨by show 0 ≤ G a b; omega, this⟩
    · exact h
set_option maxRecDepth 100000 in
set_option maxHeartbeats 2000000 in
/-- PvArray.findBestSwap, the loop at 55  -/
theorem lp_X5_swapO {D : va_G} {cy : Nat → ClassId} {l : Launch} {ad : Nat → Nat} {σ : Nat → Int → Int} {X : va_W} (hB : Bd σ) (hL : LC σ) (hP : Pos σ (σ 9) (σ 10)) : ∀ (n : Nat) (a : Int) (t : Int × Int × Int), 0 ≤ a → a ≤ σ 0 1 → (0 ≤ t.1 ∧ t.1 ≤ 20000000) → swO (Gc σ) (σ 0 1) (σ 0 1 - a).toNat a t = (swO (Gc σ) (σ 0 1) (σ 0 1).toNat 0 (0, -1005, -1005)) → (σ 0 1 - a).toNat < n → GO D cy l rm_X5_findBestSwap cX5_findBestSwap 9 yX5_findBestSwap.cls none (CW cy ad σ ++ X) (wv (CW cy ad (fbS σ (σ 0 2) (swO (Gc σ) (σ 0 1) (σ 0 1).toNat 0 (0, -1005, -1005)).1 (swO (Gc σ) (σ 0 1) (σ 0 1).toNat 0 (0, -1005, -1005)).2.1 (swO (Gc σ) (σ 0 1) (σ 0 1).toNat 0 (0, -1005, -1005)).2.2) ++ X)) (CW cy ad (fbS σ (σ 0 2) t.1 t.2.1 t.2.2) ++ X) 55 [(0, .ref (ad 0)), (1, .int (zI a))] [] := by
  intro n
  induction n with
  | zero =>
    intro a t ha ha2 hg ht hn
    exact absurd hn (Nat.not_lt_zero _)
  | succ n ih =>
    intro a t ha ha2 hg ht hn
    have g1 := hB.sc
    have g2 := hB.mc
    refine g_iload_n (pc := 55) dX5_findBestSwap_55 1 rfl ?_
    refine g_aload_n (pc := 56) dX5_findBestSwap_56 0 rfl ?_
    refine g_get (pc := 57) (ci := 4) inG_X5 rfl 2 (by decide) rfl fl_X5_9 (0) at_arr rfl dX5_findBestSwap_57 ?_
    refine g_topI (fbS_0 _ _ _ _ _ (by omega)) ?_
    refine g_icmp_ge (pc := 60) 196 dX5_findBestSwap_60 (by decide) (by omega) (by omega) (fun h_1 => ?_) (fun h_1 => ?_)
    · exact g_vret (pc := 196) dX5_findBestSwap_196 rfl (wv_of (by rw [← ht, show (σ 0 1 - a).toNat = 0 by omega]; rfl))
    · refine g_iload_n (pc := 63) dX5_findBestSwap_63 1 rfl ?_
      refine g_iconst (pc := 64) dX5_findBestSwap_64 ?_
      refine g_iadd (pc := 65) dX5_findBestSwap_65 ?_
      refine g_istore_n (pc := 66) (lv' := [(2, .int (zI (a + 1))), (0, .ref (ad 0)), (1, .int (zI a))]) dX5_findBestSwap_66 (by decide) rfl ?_
      refine g_sub (lv' := [(0, .ref (ad 0)), (1, .int (zI a)), (2, .int (zI (a + 1)))]) [1, 2, 0] rfl ?_
      exact lp_X5_swapI hB hL hP a (by omega) (swI (Gc σ) a (σ 0 1 - (a + 1)).toNat (a + 1) t) (ih (a + 1) _ (by omega) (by omega) (swI_b _ _ _ _ _ _ (fun c q1 q2 => (Gc_b hB (by omega) (by omega)).2) hg) (by rw [← ht, swO_s (Gc σ) (a := a) (mc := σ 0 1) (by omega)]) (by omega)) ((σ 0 1).toNat + 1) (a + 1) t.1 t.2.1 t.2.2 (by omega) (by omega) (by omega) (by omega) rfl (by omega)
set_option maxRecDepth 100000 in
set_option maxHeartbeats 2000000 in
/-- PvArray.findBestSwap, the loop at 21  -/
theorem lp_X5_swapP {D : va_G} {cy : Nat → ClassId} {l : Launch} {ad : Nat → Nat} {σ : Nat → Int → Int} {X : va_W} (hB : Bd σ) (hL : LC σ) (hP : Pos σ (σ 9) (σ 10)) : ∀ (n : Nat) (k : Int), 0 ≤ k → k ≤ σ 0 2 → (σ 0 2 - k).toNat < n → GO D cy l rm_X5_findBestSwap cX5_findBestSwap 9 yX5_findBestSwap.cls none (CW cy ad σ ++ X) (wv (CW cy ad (fbS σ (σ 0 2) (swO (Gc σ) (σ 0 1) (σ 0 1).toNat 0 (0, -1005, -1005)).1 (swO (Gc σ) (σ 0 1) (σ 0 1).toNat 0 (0, -1005, -1005)).2.1 (swO (Gc σ) (σ 0 1) (σ 0 1).toNat 0 (0, -1005, -1005)).2.2) ++ X)) (CW cy ad (fbS σ k 0 (-1005) (-1005)) ++ X) 21 [(0, .ref (ad 0)), (1, .int (zI k))] [] := by
  intro n
  induction n with
  | zero =>
    intro k hk hk2 hn
    exact absurd hn (Nat.not_lt_zero _)
  | succ n ih =>
    intro k hk hk2 hn
    have g1 := hB.sc
    have g2 := hB.mc
    refine g_iload_n (pc := 21) dX5_findBestSwap_21 1 rfl ?_
    refine g_aload_n (pc := 22) dX5_findBestSwap_22 0 rfl ?_
    refine g_get (pc := 23) (ci := 4) inG_X5 rfl 4 (by decide) rfl fl_X5_51 (0) at_arr rfl dX5_findBestSwap_23 ?_
    refine g_getN (pc := 26) (ci := 1) inG_X2 rfl 1 (by decide) rfl fl_X5_67 (4) at_par rfl dX5_findBestSwap_26 ?_
    refine g_topI (fbS_0 _ _ _ _ _ (by omega)) ?_
    refine g_icmp_ge (pc := 29) 53 dX5_findBestSwap_29 (by decide) (by omega) (by omega) (fun h_1 => ?_) (fun h_1 => ?_)
    · refine g_iconst (pc := 53) dX5_findBestSwap_53 ?_
      refine g_istore_n (pc := 54) (lv' := [(1, .int (zI 0)), (0, .ref (ad 0))]) dX5_findBestSwap_54 (by decide) rfl ?_
      refine g_sub (lv' := [(0, .ref (ad 0)), (1, .int (zI 0))]) [1, 0] rfl ?_
      refine g_world (w' := CW cy ad (fbS σ (σ 0 2) ((0, -1005, -1005) : Int × Int × Int).1 ((0, -1005, -1005) : Int × Int × Int).2.1 ((0, -1005, -1005) : Int × Int × Int).2.2) ++ X) (by rw [show k = σ 0 2 by omega]) ?_
      exact lp_X5_swapO hB hL hP ((σ 0 1).toNat + 1) 0 (0, -1005, -1005) (by omega) (by omega) ⟨by decide, by decide⟩ (by rw [show σ 0 1 - 0 = σ 0 1 by omega]) (by omega)
    · refine g_aload_n (pc := 32) dX5_findBestSwap_32 0 rfl ?_
      refine g_get (pc := 33) (ci := 4) inG_X5 rfl 5 (by decide) rfl fl_X5_15 (0) at_arr rfl dX5_findBestSwap_33 ?_
      refine g_iload_n (pc := 36) dX5_findBestSwap_36 1 rfl ?_
      refine g_aload_n (pc := 37) dX5_findBestSwap_37 0 rfl ?_
      refine g_get (pc := 38) (ci := 4) inG_X5 rfl 3 (by decide) rfl fl_X5_63 (0) at_arr rfl dX5_findBestSwap_38 ?_
      refine g_iload_n (pc := 41) dX5_findBestSwap_41 1 rfl ?_
      refine g_aald (pc := 42) 3 4 at_strs rfl (by omega) (by decide) rfl dX5_findBestSwap_42 ?_
      refine g_callU (pc := 43) (As := []) (rest := [.int (zI k), .ref (ad 5)]) k_X5_158_X4 (c_X0_greatestProduct_str (σ := (fbS σ k 0 (-1005) (-1005))) (Bd_fbS hB _ _ _ _) (LC_fbS hL _ _ _ _) k (by omega)) ⟨rfl, rfl, Nat.le_of_ble_eq_true rfl, Nat.le_of_ble_eq_true rfl⟩ (31 + k.toNat) 3 rfl rfl (at_str (s := k) (by omega)) rfl rfl (Nat.le_of_ble_eq_true rfl) dX5_findBestSwap_43 (fun v_ w_ hq_ => ?_)
      obtain ⟨rfl, rfl⟩ := hq_
      refine g_one ?_
      refine g_topJ (Sm_bestP (fbS_Sm _ _ _ _ _) _) ?_
      refine g_last (pc := 46) 5 at_pb (by omega) (by decide) st_11 dX5_findBestSwap_46 ?_
      refine g_iinc (pc := 47) (lv' := [(1, .int (zI (k + 1))), (0, .ref (ad 0))]) dX5_findBestSwap_47 (by decide) 1 rfl rfl ?_
      refine g_goto (pc := 50) 21 dX5_findBestSwap_50 (by decide) ?_
      refine g_sub (lv' := [(0, .ref (ad 0)), (1, .int (zI (k + 1)))]) [1, 0] rfl ?_
      refine g_world (w' := CW cy ad (fbS σ (k + 1) 0 (-1005) (-1005)) ++ X) (by rw [fbS_pb _ hk]) ?_
      exact ih (k + 1) (by omega) (by omega) (by omega)
set_option maxRecDepth 100000 in
set_option maxHeartbeats 2000000 in
/-- PvArray.findBestSwap  -/
theorem c_X5_findBestSwap {D : va_G} {cy : Nat → ClassId} {l : Launch} {ad : Nat → Nat} {σ : Nat → Int → Int} {X : va_W} (hB : Bd σ) (hL : LC σ) (hP : Pos σ (σ 9) (σ 10)) : Con D cy l yX5_findBestSwap cX5_findBestSwap 9 none rm_X5_findBestSwap [.ref (ad 0)] (CW cy ad σ ++ X) (wv (CW cy ad (fbS σ (σ 0 2) (swO (Gc σ) (σ 0 1) (σ 0 1).toNat 0 (0, -1005, -1005)).1 (swO (Gc σ) (σ 0 1) (σ 0 1).toNat 0 (0, -1005, -1005)).2.1 (swO (Gc σ) (σ 0 1) (σ 0 1).toNat 0 (0, -1005, -1005)).2.2) ++ X)) := by
  refine Con.of (lv := [(0, .ref (ad 0))]) (by decide) (Nat.le_of_ble_eq_true rfl) rfl ?_
  have g1 := hB.sc
  have g2 := hB.mc
  refine g_aload_n (pc := 0) dX5_findBestSwap_0 0 rfl ?_
  refine g_lconst (pc := 1) (z := 0) dX5_findBestSwap_1 rfl ?_
  refine g_put (pc := 2) (ci := 4) inG_X5 tyX5 tyX5_ok nmX5 rfl 6 (by decide) rfl rfl fl_X5_19 (0) at_arr rfl rfl (Nat.le_of_ble_eq_true rfl) st_0_5 dX5_findBestSwap_2 ?_
  refine g_aload_n (pc := 5) dX5_findBestSwap_5 0 rfl ?_
  refine g_sipush (pc := 6) dX5_findBestSwap_6 (by omega) ?_
  refine g_put (pc := 9) (ci := 4) inG_X5 tyX5 tyX5_ok nmX5 rfl 7 (by decide) rfl rfl fl_X5_23 (0) at_arr rfl rfl (Nat.le_of_ble_eq_true rfl) st_0_6 dX5_findBestSwap_9 ?_
  refine g_aload_n (pc := 12) dX5_findBestSwap_12 0 rfl ?_
  refine g_sipush (pc := 13) dX5_findBestSwap_13 (by omega) ?_
  refine g_put (pc := 16) (ci := 4) inG_X5 tyX5 tyX5_ok nmX5 rfl 8 (by decide) rfl rfl fl_X5_26 (0) at_arr rfl rfl (Nat.le_of_ble_eq_true rfl) st_0_7 dX5_findBestSwap_16 ?_
  refine g_iconst (pc := 19) dX5_findBestSwap_19 ?_
  refine g_istore_n (pc := 20) (lv' := [(1, .int (zI 0)), (0, .ref (ad 0))]) dX5_findBestSwap_20 (by decide) rfl ?_
  refine g_sub (lv' := [(0, .ref (ad 0)), (1, .int (zI 0))]) [1, 0] rfl ?_
  refine g_world (w' := CW cy ad (fbS σ 0 0 (-1005) (-1005)) ++ X) (by rw [fbS_1]) ?_
  exact lp_X5_swapP hB hL hP ((σ 0 2).toNat + 1) 0 (by omega) (by omega) (by omega)
def swT (σ : Nat → Int → Int) : Int × Int × Int := swO (Gc σ) (σ 0 1) (σ 0 1).toNat 0 (0, -1005, -1005)
def n_swap (σ : Nat → Int → Int) : Nat → Int → Int := fbS σ (σ 0 2) (swT σ).1 (swT σ).2.1 (swT σ).2.2
set_option maxRecDepth 100000 in
set_option maxHeartbeats 2000000 in
/-- PvArray.bestSwapGain  -/
theorem c_X5_bestSwapGain {D : va_G} {cy : Nat → ClassId} {l : Launch} {ad : Nat → Nat} {σ : Nat → Int → Int} {X : va_W} (hB : Bd σ) (hL : LC σ) (hP : Pos σ (σ 9) (σ 10)) : Con D cy l yX5_bestSwapGain cX5_bestSwapGain 1 (some .long) rm_X5_bestSwapGain [.ref (ad 0)] (CW cy ad σ ++ X) (rdJ (swT σ).1 (CW cy ad (n_swap σ) ++ X)) := by
  refine Con.of (lv := [(0, .ref (ad 0))]) (by decide) (Nat.le_of_ble_eq_true rfl) rfl ?_
  refine g_aload_n (pc := 0) dX5_bestSwapGain_0 0 rfl ?_
  refine g_callV (pc := 1) (As := []) (rest := []) k_X5_175_X5 (c_X5_findBestSwap (σ := σ) hB hL hP) ⟨rfl, rfl, Nat.le_of_ble_eq_true rfl, Nat.le_of_ble_eq_true rfl⟩ (0) 4 rfl rfl at_arr rfl rfl (Nat.le_of_ble_eq_true rfl) dX5_bestSwapGain_1 (fun v_ w_ hq_ => ?_)
  obtain ⟨rfl, rfl⟩ := hq_
  refine g_none ?_
  refine g_aload_n (pc := 4) dX5_bestSwapGain_4 0 rfl ?_
  refine g_get (pc := 5) (ci := 4) inG_X5 rfl 6 (by decide) rfl fl_X5_19 (0) at_arr rfl dX5_bestSwapGain_5 ?_
  exact g_lret (pc := 8) dX5_bestSwapGain_8 rfl (⟨rfl, rfl⟩)
set_option maxRecDepth 100000 in
set_option maxHeartbeats 2000000 in
/-- PvArray.bestSwapLower  -/
theorem c_X5_bestSwapLower {D : va_G} {cy : Nat → ClassId} {l : Launch} {ad : Nat → Nat} {σ : Nat → Int → Int} {X : va_W} (hB : Bd σ) (hL : LC σ) (hP : Pos σ (σ 9) (σ 10)) : Con D cy l yX5_bestSwapLower cX5_bestSwapLower 1 (some .int) rm_X5_bestSwapLower [.ref (ad 0)] (CW cy ad σ ++ X) (rdI (swT σ).2.1 (CW cy ad (n_swap σ) ++ X)) := by
  refine Con.of (lv := [(0, .ref (ad 0))]) (by decide) (Nat.le_of_ble_eq_true rfl) rfl ?_
  refine g_aload_n (pc := 0) dX5_bestSwapLower_0 0 rfl ?_
  refine g_callV (pc := 1) (As := []) (rest := []) k_X5_175_X5 (c_X5_findBestSwap (σ := σ) hB hL hP) ⟨rfl, rfl, Nat.le_of_ble_eq_true rfl, Nat.le_of_ble_eq_true rfl⟩ (0) 4 rfl rfl at_arr rfl rfl (Nat.le_of_ble_eq_true rfl) dX5_bestSwapLower_1 (fun v_ w_ hq_ => ?_)
  obtain ⟨rfl, rfl⟩ := hq_
  refine g_none ?_
  refine g_aload_n (pc := 4) dX5_bestSwapLower_4 0 rfl ?_
  refine g_get (pc := 5) (ci := 4) inG_X5 rfl 7 (by decide) rfl fl_X5_23 (0) at_arr rfl dX5_bestSwapLower_5 ?_
  exact g_iret (pc := 8) dX5_bestSwapLower_8 rfl (⟨rfl, rfl⟩)
set_option maxRecDepth 100000 in
set_option maxHeartbeats 2000000 in
/-- PvArray.bestSwapHigher  -/
theorem c_X5_bestSwapHigher {D : va_G} {cy : Nat → ClassId} {l : Launch} {ad : Nat → Nat} {σ : Nat → Int → Int} {X : va_W} (hB : Bd σ) (hL : LC σ) (hP : Pos σ (σ 9) (σ 10)) : Con D cy l yX5_bestSwapHigher cX5_bestSwapHigher 1 (some .int) rm_X5_bestSwapHigher [.ref (ad 0)] (CW cy ad σ ++ X) (rdI (swT σ).2.2 (CW cy ad (n_swap σ) ++ X)) := by
  refine Con.of (lv := [(0, .ref (ad 0))]) (by decide) (Nat.le_of_ble_eq_true rfl) rfl ?_
  refine g_aload_n (pc := 0) dX5_bestSwapHigher_0 0 rfl ?_
  refine g_callV (pc := 1) (As := []) (rest := []) k_X5_175_X5 (c_X5_findBestSwap (σ := σ) hB hL hP) ⟨rfl, rfl, Nat.le_of_ble_eq_true rfl, Nat.le_of_ble_eq_true rfl⟩ (0) 4 rfl rfl at_arr rfl rfl (Nat.le_of_ble_eq_true rfl) dX5_bestSwapHigher_1 (fun v_ w_ hq_ => ?_)
  obtain ⟨rfl, rfl⟩ := hq_
  refine g_none ?_
  refine g_aload_n (pc := 4) dX5_bestSwapHigher_4 0 rfl ?_
  refine g_get (pc := 5) (ci := 4) inG_X5 rfl 8 (by decide) rfl fl_X5_26 (0) at_arr rfl dX5_bestSwapHigher_5 ?_
  exact g_iret (pc := 8) dX5_bestSwapHigher_8 rfl (⟨rfl, rfl⟩)
