/-- the reference's state during its search for the best exchange -/
def FB (τ : Nat → Int → Int) (g lo hi : Int) (ρ : Nat → Int → Int) : Prop := Sx τ ρ ∧ (∀ s, 0 ≤ s → s < τ 0 2 → ρ 10 s = bestP τ s) ∧ ρ 0 5 = g ∧ ρ 0 6 = lo ∧ ρ 0 7 = hi
def s4 (ρ : Nat → Int → Int) (st po : Int → Int) (a b : Int) : Nat → Int → Int := xcM (loS (loS (xcM ρ st po a b) (st a)) (st b)) (xst st a b) (xst po a b) a b
theorem s4_0 (ρ : Nat → Int → Int) (st po : Int → Int) (a b : Int) {k : Int} (h : k ≠ 3) : s4 ρ st po a b 0 k = ρ 0 k := by
  unfold s4
  rw [xcM_o _ _ _ _ _ (by decide)]
  unfold loS
  rw [loP_0 _ _ _ h, loP_0 _ _ _ h, xcM_o _ _ _ _ _ (by decide)]
theorem s4_o (ρ : Nat → Int → Int) (st po : Int → Int) (a b : Int) {f : Nat} (h0 : f ≠ 0) (h7 : f ≠ 7) (h8 : f ≠ 8) : s4 ρ st po a b f = ρ f := by
  unfold s4
  rw [xcM_o _ _ _ _ _ h7]
  unfold loS
  rw [loP_o _ _ _ h0 h8, loP_o _ _ _ h0 h8, xcM_o _ _ _ _ _ h7]
theorem s4_7 {ρ : Nat → Int → Int} {st po : Int → Int} (hP : Pos ρ st po) {a b : Int} (ha : 0 ≤ a ∧ a < ρ 0 1) (hb : 0 ≤ b ∧ b < ρ 0 1) : s4 ρ st po a b 7 = ρ 7 := by
  show zup (zup (xcM ρ st po a b 7) (12 * xst st a b a + xst po a b a) b) (12 * xst st a b b + xst po a b b) a = ρ 7
  rw [xst_a, xst_b, xst_a, xst_b]
  exact xcM_xcM hP ha hb
theorem FB_next {τ ρ : Nat → Int → Int} {st po : Int → Int} {g lo hi : Int} (h : FB τ g lo hi ρ) (hP : Pos τ st po) {a b : Int} (ha : 0 ≤ a ∧ a < τ 0 1) (hb : 0 ≤ b ∧ b < τ 0 1) (x y z : Int) : FB τ z x y (up (up (up (s4 ρ st po a b) 0 6 x) 0 7 y) 0 5 z) := by
  obtain ⟨hx, h10, h5, h6, h7⟩ := h
  have hPr := hx.Pos hP
  have e7 := s4_7 hPr (a := a) (b := b) (by rw [hx.2.1]; exact ha) (by rw [hx.2.1]; exact hb)
  have e0 : ∀ k : Int, k < 3 → up (up (up (s4 ρ st po a b) 0 6 x) 0 7 y) 0 5 z 0 k = ρ 0 k := by
    intro k hk
    rw [up_r, zup_n _ _ (by omega), up_r, zup_n _ _ (by omega), up_r, zup_n _ _ (by omega)]
    exact s4_0 _ _ _ _ _ (by omega)
  have eo : ∀ f : Nat, f ≠ 0 → f ≠ 7 → f ≠ 8 → up (up (up (s4 ρ st po a b) 0 6 x) 0 7 y) 0 5 z f = ρ f := by
    intro f q0 q7 q8
    rw [up_o _ _ _ q0, up_o _ _ _ q0, up_o _ _ _ q0]
    exact s4_o _ _ _ _ _ q0 q7 q8
  refine ⟨hx.tr ⟨e0 0 (by omega), e0 1 (by omega), e0 2 (by omega), eo 1 (by decide) (by decide) (by decide), eo 2 (by decide) (by decide) (by decide), eo 3 (by decide) (by decide) (by decide), eo 4 (by decide) (by decide) (by decide), eo 5 (by decide) (by decide) (by decide), eo 6 (by decide) (by decide) (by decide), e7, eo 11 (by decide) (by decide) (by decide)⟩, fun s q1 q2 => ?_, ?_, ?_, ?_⟩
  · rw [eo 10 (by decide) (by decide) (by decide)]
    exact h10 s q1 q2
  · rw [up_r, zup_s]
  · rw [up_r, zup_n _ _ (by omega), up_r, zup_n _ _ (by omega), up_r, zup_s]
  · rw [up_r, zup_n _ _ (by omega), up_r, zup_s]
theorem xc_Sm {τ ρ : Nat → Int → Int} (h : Sx τ ρ) (st po : Int → Int) (a b : Int) : Sm (xcM ρ st po a b) (xcM τ st po a b) := by
  obtain ⟨h1, h2, h3, h4, h5, h6, h7, h8, h9, h10, h11⟩ := h
  refine ⟨h1, h4, h5, h6, h7, h8, h9, ?_⟩
  show zup (zup (ρ 7) (12 * st a + po a) b) (12 * st b + po b) a = zup (zup (τ 7) (12 * st a + po a) b) (12 * st b + po b) a
  rw [h10]
theorem FB_0 (τ : Nat → Int → Int) : Sx τ (up (up (up τ 0 5 0) 0 6 (-1005)) 0 7 (-1005)) ∧ up (up (up τ 0 5 0) 0 6 (-1005)) 0 7 (-1005) 0 5 = 0 ∧ up (up (up τ 0 5 0) 0 6 (-1005)) 0 7 (-1005) 0 6 = -1005 ∧ up (up (up τ 0 5 0) 0 6 (-1005)) 0 7 (-1005) 0 7 = -1005 := ⟨⟨rfl, rfl, rfl, rfl, rfl, rfl, rfl, rfl, rfl, rfl, rfl⟩, rfl, rfl, rfl⟩
theorem FB_pb {τ ρ : Nat → Int → Int} {k : Int} (hx : Sx τ ρ) (hk : 0 ≤ k) (h10 : ∀ s, 0 ≤ s → s < k → ρ 10 s = bestP τ s) : Sx τ (up (loS ρ k) 10 k (bestP τ k)) ∧ (∀ s, 0 ≤ s → s < k + 1 → up (loS ρ k) 10 k (bestP τ k) 10 s = bestP τ s) ∧ (∀ j : Int, 4 < j → up (loS ρ k) 10 k (bestP τ k) 0 j = ρ 0 j) := by
  refine ⟨(hx.tr (show Sx ρ (loS ρ k) from loP_Sx ρ k _)).tr ⟨rfl, rfl, rfl, rfl, rfl, rfl, rfl, rfl, rfl, rfl, rfl⟩, fun s q1 q2 => ?_, fun j hj => ?_⟩
  · rw [up_r]
    by_cases e : s = k
    · subst e; rw [zup_s]
    · rw [zup_n _ _ e]
      exact h10 s q1 (by omega)
  · rw [up_o _ _ _ (by decide)]
    exact loP_0 _ _ _ (by omega)
def swM (τ : Nat → Int → Int) (st po : Int → Int) : Int × Int × Int := swO (Gm τ st po) (τ 0 1) (τ 0 1).toNat 0 (0, -1005, -1005)
set_option maxRecDepth 100000 in
set_option maxHeartbeats 2000000 in
/-- PvArrayModel.findBestSwap, the loop at 60  -/
theorem lp_X6_swapI {D : va_G} {cy : Nat → ClassId} {l : Launch} {bd : Nat → Nat} {τ : Nat → Int → Int} {X : va_W} {st po : Int → Int} (hB : Bd τ) (hP : Pos τ st po) (a : Int) (ha : 0 ≤ a ∧ a < τ 0 1) (u : Int × Int × Int) (kk : ∀ ρ, FB τ u.1 u.2.1 u.2.2 ρ → GO D cy l rm_X6_findBestSwap cX6_findBestSwap 7 yX6_findBestSwap.cls none (MW cy bd τ ++ X) (fun v w' => v = none ∧ ∃ ρ, w' = MW cy bd ρ ++ X ∧ FB τ (swM τ st po).1 (swM τ st po).2.1 (swM τ st po).2.2 ρ) (MW cy bd (ρ) ++ X) 48 [(0, .ref (bd 0)), (1, .int (zI (a + 1)))] []) : ∀ (n : Nat) (b g lo hi : Int) (ρ : Nat → Int → Int), a < b → b ≤ τ 0 1 → 0 ≤ g → g ≤ 20000000 → swI (Gm τ st po) a (τ 0 1 - b).toNat b (g, lo, hi) = u → FB τ g lo hi ρ → (τ 0 1 - b).toNat < n → GO D cy l rm_X6_findBestSwap cX6_findBestSwap 7 yX6_findBestSwap.cls none (MW cy bd τ ++ X) (fun v w' => v = none ∧ ∃ ρ, w' = MW cy bd ρ ++ X ∧ FB τ (swM τ st po).1 (swM τ st po).2.1 (swM τ st po).2.2 ρ) (MW cy bd (ρ) ++ X) 60 [(0, .ref (bd 0)), (1, .int (zI a)), (2, .int (zI b))] [] := by
  intro n
  induction n with
  | zero =>
    intro b g lo hi ρ hb hb2 hg hg2 ht hf hn
    exact absurd hn (Nat.not_lt_zero _)
  | succ n ih =>
    intro b g lo hi ρ hb hb2 hg hg2 ht hf hn
    have g1 := hB.sc
    have g2 := hB.mc
    have hx := hf.1
    have g3 := hP.1 a ha.1 ha.2
    have g5 := hB.b6 (st a)
    refine g_iload_n (pc := 60) dX6_findBestSwap_60 2 rfl ?_
    refine g_aload_n (pc := 61) dX6_findBestSwap_61 0 rfl ?_
    refine g_get (pc := 62) (ci := 5) inG_X6 rfl 1 (by decide) rfl fl_X6_52 (0) am_obj rfl dX6_findBestSwap_62 ?_
    refine g_topI hx.2.1 ?_
    refine g_icmp_ge (pc := 65) 207 dX6_findBestSwap_65 (by decide) (by omega) (by omega) (fun h_1 => ?_) (fun h_1 => ?_)
    · refine g_iinc (pc := 207) (lv' := [(1, .int (zI (a + 1))), (0, .ref (bd 0)), (2, .int (zI b))]) dX6_findBestSwap_207 (by decide) 1 rfl rfl ?_
      refine g_goto (pc := 210) 48 dX6_findBestSwap_210 (by decide) ?_
      refine g_sub (lv' := [(0, .ref (bd 0)), (1, .int (zI (a + 1)))]) [1, 0] rfl ?_
      exact kk ρ (by rw [← ht, show (τ 0 1 - b).toNat = 0 by omega]; exact hf)
    · have g4 := hP.1 b (by omega) (by omega)
      have g6 := hB.b6 (st b)
      refine g_aload_n (pc := 68) dX6_findBestSwap_68 0 rfl ?_
      refine g_iload_n (pc := 69) dX6_findBestSwap_69 1 rfl ?_
      refine g_callV (pc := 70) (As := [.int (zI a)]) (rest := []) k_X6_73_X6 (c_X6_placeOf (τ := ρ) (hx.Bd hB) (hx.Pos hP) a (by rw [hx.2.1]; omega)) ⟨rfl, rfl, Nat.le_of_ble_eq_true rfl, Nat.le_of_ble_eq_true rfl⟩ (0) 5 rfl rfl am_obj rfl rfl (Nat.le_of_ble_eq_true rfl) dX6_findBestSwap_70 (fun v_ w_ hq_ => ?_)
      obtain ⟨rfl, rfl⟩ := hq_
      refine g_one ?_
      refine g_bipush (pc := 73) dX6_findBestSwap_73 (by omega) ?_
      refine g_idiv (pc := 75) dX6_findBestSwap_75 (by omega) (by omega) ?_
      refine g_topI (show (12 * st a + po a) / 12 = st a by omega) ?_
      refine g_istore_n (pc := 76) (lv' := [(3, .int (zI (st a))), (0, .ref (bd 0)), (1, .int (zI a)), (2, .int (zI b))]) dX6_findBestSwap_76 (by decide) rfl ?_
      refine g_aload_n (pc := 77) dX6_findBestSwap_77 1 rfl ?_
      refine g_iload_n (pc := 78) dX6_findBestSwap_78 3 rfl ?_
      refine g_callV (pc := 79) (As := [.int (zI b)]) (rest := []) k_X6_73_X6 (c_X6_placeOf (τ := ρ) (hx.Bd hB) (hx.Pos hP) b (by rw [hx.2.1]; omega)) ⟨rfl, rfl, Nat.le_of_ble_eq_true rfl, Nat.le_of_ble_eq_true rfl⟩ (0) 5 rfl rfl am_obj rfl rfl (Nat.le_of_ble_eq_true rfl) dX6_findBestSwap_79 (fun v_ w_ hq_ => ?_)
      obtain ⟨rfl, rfl⟩ := hq_
      refine g_one ?_
      refine g_bipush (pc := 82) dX6_findBestSwap_82 (by omega) ?_
      refine g_idiv (pc := 84) dX6_findBestSwap_84 (by omega) (by omega) ?_
      refine g_topI (show (12 * st b + po b) / 12 = st b by omega) ?_
      refine g_istore (pc := 85) (lv' := [(4, .int (zI (st b))), (3, .int (zI (st a))), (0, .ref (bd 0)), (1, .int (zI a)), (2, .int (zI b))]) dX6_findBestSwap_85 (by decide) rfl ?_
      refine g_iload_n (pc := 87) dX6_findBestSwap_87 1 rfl ?_
      refine g_iload (pc := 88) dX6_findBestSwap_88 0 rfl ?_
      refine g_icmp_eq (pc := 90) 201 dX6_findBestSwap_90 (by decide) (by omega) (by omega) (fun h_2 => ?_) (fun h_2 => ?_)
      · refine g_iinc (pc := 201) (lv' := [(2, .int (zI (b + 1))), (4, .int (zI (st b))), (3, .int (zI (st a))), (0, .ref (bd 0)), (1, .int (zI a))]) dX6_findBestSwap_201 (by decide) 4 rfl rfl ?_
        refine g_goto (pc := 204) 60 dX6_findBestSwap_204 (by decide) ?_
        refine g_sub (lv' := [(0, .ref (bd 0)), (1, .int (zI a)), (2, .int (zI (b + 1)))]) [3, 4, 0] rfl ?_
        exact ih (b + 1) g lo hi ρ (by omega) (by omega) (by omega) (by omega) (by rw [← ht, swI_s (Gm τ st po) a (b := b) (mc := τ 0 1) (by omega), swStep_f _ _ _ (t := (g, lo, hi)) (show ¬ g < Gm τ st po a b by unfold Gm; rw [if_pos (by omega)]; omega)]) hf (by omega)
      · have hPx := Pos_xc (hx.Bd hB) (hx.Pos hP) (a := a) (b := b) (by rw [hx.2.1]; omega) (by rw [hx.2.1]; omega)
        have hB1 := Bd_xc (hx.Bd hB) st po (a := a) (b := b) (by rw [hx.2.1]; omega) (by rw [hx.2.1]; omega)
        have hB2 : Bd (loS (xcM ρ st po a b) (st a)) := (loP_Sx _ _ _).Bd hB1
        have hB3 : Bd (loS (loS (xcM ρ st po a b) (st a)) (st b)) := (loP_Sx _ _ _).Bd hB2
        have hP3 : Pos (loS (loS (xcM ρ st po a b) (st a)) (st b)) (xst st a b) (xst po a b) := (loP_Sx _ _ _).Pos ((loP_Sx _ _ _).Pos hPx)
        have g7 := Gm_b hB st po (a := a) (b := b) (by omega) (by omega)
        have e1 : bestP (xcM ρ st po a b) (st a) = bestP (xcM τ st po a b) (st a) := Sm_bestP (xc_Sm hx st po a b) _
        have e2 : bestP (loS (xcM ρ st po a b) (st a)) (st b) = bestP (xcM τ st po a b) (st b) := (Sm_bestP (loP_Sx _ _ _).Sm _).trans (Sm_bestP (xc_Sm hx st po a b) _)
        have e3 : (loS (loS (xcM ρ st po a b) (st a)) (st b)) 10 (st a) = bestP τ (st a) := hf.2.1 _ (by omega) (by omega)
        have e4 : (loS (loS (xcM ρ st po a b) (st a)) (st b)) 10 (st b) = bestP τ (st b) := hf.2.1 _ (by omega) (by omega)
        refine g_aload_n (pc := 93) dX6_findBestSwap_93 2 rfl ?_
        refine g_iload_n (pc := 94) dX6_findBestSwap_94 3 rfl ?_
        refine g_iload_n (pc := 95) dX6_findBestSwap_95 4 rfl ?_
        refine g_callV (pc := 96) (As := [.int (zI a), .int (zI b)]) (rest := []) k_X6_81_X6 (c_X6_exchange (τ := ρ) (hx.Bd hB) (hx.Pos hP) a (by rw [hx.2.1]; omega) b (by rw [hx.2.1]; omega)) ⟨rfl, rfl, Nat.le_of_ble_eq_true rfl, Nat.le_of_ble_eq_true rfl⟩ (0) 5 rfl rfl am_obj rfl rfl (Nat.le_of_ble_eq_true rfl) dX6_findBestSwap_96 (fun v_ w_ hq_ => ?_)
        obtain ⟨rfl, rfl⟩ := hq_
        refine g_none ?_
        refine g_aload_n (pc := 99) dX6_findBestSwap_99 2 rfl ?_
        refine g_iload_n (pc := 100) dX6_findBestSwap_100 1 rfl ?_
        refine g_callV (pc := 101) (As := [.int (zI (st a))]) (rest := []) k_X6_122_X6 (c_X6_bestPowerOf (τ := (xcM ρ st po a b)) hB1 (st a) (by omega)) ⟨rfl, rfl, Nat.le_of_ble_eq_true rfl, Nat.le_of_ble_eq_true rfl⟩ (0) 5 rfl rfl am_obj rfl rfl (Nat.le_of_ble_eq_true rfl) dX6_findBestSwap_101 (fun v_ w_ hq_ => ?_)
        obtain ⟨rfl, rfl⟩ := hq_
        refine g_one ?_
        refine g_aload_n (pc := 104) dX6_findBestSwap_104 2 rfl ?_
        refine g_iload (pc := 105) dX6_findBestSwap_105 0 rfl ?_
        refine g_callV (pc := 107) (As := [.int (zI (st b))]) (rest := [.long (zJ (bestP (xcM ρ st po a b) (st a)))]) k_X6_122_X6 (c_X6_bestPowerOf (τ := (loS (xcM ρ st po a b) (st a))) hB2 (st b) (by omega)) ⟨rfl, rfl, Nat.le_of_ble_eq_true rfl, Nat.le_of_ble_eq_true rfl⟩ (0) 5 rfl rfl am_obj rfl rfl (Nat.le_of_ble_eq_true rfl) dX6_findBestSwap_107 (fun v_ w_ hq_ => ?_)
        obtain ⟨rfl, rfl⟩ := hq_
        refine g_one ?_
        refine g_ladd (pc := 110) dX6_findBestSwap_110 ?_
        refine g_aload_n (pc := 111) dX6_findBestSwap_111 2 rfl ?_
        refine g_get (pc := 112) (ci := 5) inG_X6 rfl 16 (by decide) rfl fl_X6_39 (0) am_obj rfl dX6_findBestSwap_112 ?_
        refine g_iload_n (pc := 115) dX6_findBestSwap_115 1 rfl ?_
        refine g_lald (pc := 116) 10 am_10 (by omega) (by decide) dX6_findBestSwap_116 ?_
        refine g_lsub (pc := 117) dX6_findBestSwap_117 ?_
        refine g_aload_n (pc := 118) dX6_findBestSwap_118 2 rfl ?_
        refine g_get (pc := 119) (ci := 5) inG_X6 rfl 16 (by decide) rfl fl_X6_39 (0) am_obj rfl dX6_findBestSwap_119 ?_
        refine g_iload (pc := 122) dX6_findBestSwap_122 0 rfl ?_
        refine g_lald (pc := 124) 10 am_10 (by omega) (by decide) dX6_findBestSwap_124 ?_
        refine g_lsub (pc := 125) dX6_findBestSwap_125 ?_
        refine g_topJ (show (((bestP (xcM ρ st po a b) (st a)) + (bestP (loS (xcM ρ st po a b) (st a)) (st b))) - ((loS (loS (xcM ρ st po a b) (st a)) (st b)) 10 (st a))) - ((loS (loS (xcM ρ st po a b) (st a)) (st b)) 10 (st b)) = Gm τ st po a b by unfold Gm; rw [if_neg (by omega), e1, e2, e3, e4]) ?_
        refine g_lstore (pc := 126) (lv' := [(5, .long (zJ (Gm τ st po a b))), (4, .int (zI (st b))), (3, .int (zI (st a))), (0, .ref (bd 0)), (1, .int (zI a)), (2, .int (zI b))]) dX6_findBestSwap_126 (by decide) rfl ?_
        refine g_aload_n (pc := 128) dX6_findBestSwap_128 3 rfl ?_
        refine g_iload_n (pc := 129) dX6_findBestSwap_129 4 rfl ?_
        refine g_iload_n (pc := 130) dX6_findBestSwap_130 5 rfl ?_
        refine g_callV (pc := 131) (As := [.int (zI a), .int (zI b)]) (rest := []) k_X6_81_X6 (c_X6_exchange (τ := (loS (loS (xcM ρ st po a b) (st a)) (st b))) hB3 hP3 a (show 0 ≤ a ∧ a < (loS (loS (xcM ρ st po a b) (st a)) (st b)) 0 1 by rw [show (loS (loS (xcM ρ st po a b) (st a)) (st b)) 0 1 = ρ 0 1 from rfl, hx.2.1]; omega) b (show 0 ≤ b ∧ b < (loS (loS (xcM ρ st po a b) (st a)) (st b)) 0 1 by rw [show (loS (loS (xcM ρ st po a b) (st a)) (st b)) 0 1 = ρ 0 1 from rfl, hx.2.1]; omega)) ⟨rfl, rfl, Nat.le_of_ble_eq_true rfl, Nat.le_of_ble_eq_true rfl⟩ (0) 5 rfl rfl am_obj rfl rfl (Nat.le_of_ble_eq_true rfl) dX6_findBestSwap_131 (fun v_ w_ hq_ => ?_)
        obtain ⟨rfl, rfl⟩ := hq_
        refine g_none ?_
        refine g_aload_n (pc := 134) dX6_findBestSwap_134 3 rfl ?_
        refine g_lload (pc := 135) dX6_findBestSwap_135 0 rfl ?_
        refine g_aload_n (pc := 137) dX6_findBestSwap_137 3 rfl ?_
        refine g_get (pc := 138) (ci := 5) inG_X6 rfl 13 (by decide) rfl fl_X6_135 (0) am_obj rfl dX6_findBestSwap_138 ?_
        refine g_topJ (show (s4 ρ st po a b) 0 5 = g from (s4_0 _ _ _ _ _ (by omega)).trans hf.2.2.1) ?_
        refine g_lcmp_le (pc := 141) 149 dX6_findBestSwap_141 dX6_findBestSwap_142 (by decide) (by omega) (by omega) (fun h_3 => ?_) (fun h_3 => ?_)
        · refine g_aload_n (pc := 149) dX6_findBestSwap_149 3 rfl ?_
          refine g_get (pc := 150) (ci := 5) inG_X6 rfl 14 (by decide) rfl fl_X6_139 (0) am_obj rfl dX6_findBestSwap_150 ?_
          refine g_topI (show (s4 ρ st po a b) 0 6 = lo from (s4_0 _ _ _ _ _ (by omega)).trans hf.2.2.2.1) ?_
          refine g_put (pc := 153) (ci := 5) inG_X6 tyX6 tyX6_ok nmX6 rfl 14 (by decide) rfl rfl fl_X6_139 (0) am_obj rfl rfl (Nat.le_of_ble_eq_true rfl) sm_0_6 dX6_findBestSwap_153 ?_
          refine g_aload_n (pc := 156) dX6_findBestSwap_156 3 rfl ?_
          refine g_lload (pc := 157) dX6_findBestSwap_157 0 rfl ?_
          refine g_aload_n (pc := 159) dX6_findBestSwap_159 3 rfl ?_
          refine g_get (pc := 160) (ci := 5) inG_X6 rfl 13 (by decide) rfl fl_X6_135 (0) am_obj rfl dX6_findBestSwap_160 ?_
          refine g_topJ (show (up (s4 ρ st po a b) 0 6 lo) 0 5 = g from (show (up (s4 ρ st po a b) 0 6 lo) 0 5 = (s4 ρ st po a b) 0 5 from rfl).trans ((s4_0 _ _ _ _ _ (by omega)).trans hf.2.2.1)) ?_
          refine g_lcmp_le (pc := 163) 171 dX6_findBestSwap_163 dX6_findBestSwap_164 (by decide) (by omega) (by omega) (fun h_4 => ?_) (fun h_4 => ?_)
          · refine g_aload_n (pc := 171) dX6_findBestSwap_171 3 rfl ?_
            refine g_get (pc := 172) (ci := 5) inG_X6 rfl 15 (by decide) rfl fl_X6_142 (0) am_obj rfl dX6_findBestSwap_172 ?_
            refine g_topI (show (up (s4 ρ st po a b) 0 6 lo) 0 7 = hi from (show (up (s4 ρ st po a b) 0 6 lo) 0 7 = (s4 ρ st po a b) 0 7 from rfl).trans ((s4_0 _ _ _ _ _ (by omega)).trans hf.2.2.2.2)) ?_
            refine g_put (pc := 175) (ci := 5) inG_X6 tyX6 tyX6_ok nmX6 rfl 15 (by decide) rfl rfl fl_X6_142 (0) am_obj rfl rfl (Nat.le_of_ble_eq_true rfl) sm_0_7 dX6_findBestSwap_175 ?_
            refine g_aload_n (pc := 178) dX6_findBestSwap_178 3 rfl ?_
            refine g_lload (pc := 179) dX6_findBestSwap_179 0 rfl ?_
            refine g_aload_n (pc := 181) dX6_findBestSwap_181 3 rfl ?_
            refine g_get (pc := 182) (ci := 5) inG_X6 rfl 13 (by decide) rfl fl_X6_135 (0) am_obj rfl dX6_findBestSwap_182 ?_
            refine g_topJ (show (up (up (s4 ρ st po a b) 0 6 lo) 0 7 hi) 0 5 = g from (show (up (up (s4 ρ st po a b) 0 6 lo) 0 7 hi) 0 5 = (s4 ρ st po a b) 0 5 from rfl).trans ((s4_0 _ _ _ _ _ (by omega)).trans hf.2.2.1)) ?_
            refine g_lcmp_le (pc := 185) 194 dX6_findBestSwap_185 dX6_findBestSwap_186 (by decide) (by omega) (by omega) (fun h_5 => ?_) (fun h_5 => ?_)
            · refine g_aload_n (pc := 194) dX6_findBestSwap_194 3 rfl ?_
              refine g_get (pc := 195) (ci := 5) inG_X6 rfl 13 (by decide) rfl fl_X6_135 (0) am_obj rfl dX6_findBestSwap_195 ?_
              refine g_topJ (show (up (up (s4 ρ st po a b) 0 6 lo) 0 7 hi) 0 5 = g from (show (up (up (s4 ρ st po a b) 0 6 lo) 0 7 hi) 0 5 = (s4 ρ st po a b) 0 5 from rfl).trans ((s4_0 _ _ _ _ _ (by omega)).trans hf.2.2.1)) ?_
              refine g_put (pc := 198) (ci := 5) inG_X6 tyX6 tyX6_ok nmX6 rfl 13 (by decide) rfl rfl fl_X6_135 (0) am_obj rfl rfl (Nat.le_of_ble_eq_true rfl) sm_0_5 dX6_findBestSwap_198 ?_
              refine g_iinc (pc := 201) (lv' := [(2, .int (zI (b + 1))), (5, .long (zJ (Gm τ st po a b))), (4, .int (zI (st b))), (3, .int (zI (st a))), (0, .ref (bd 0)), (1, .int (zI a))]) dX6_findBestSwap_201 (by decide) 5 rfl rfl ?_
              refine g_goto (pc := 204) 60 dX6_findBestSwap_204 (by decide) ?_
              refine g_sub (lv' := [(0, .ref (bd 0)), (1, .int (zI a)), (2, .int (zI (b + 1)))]) [4, 5, 0] rfl ?_
              exact ih (b + 1) g lo hi _ (by omega) (by omega) (by omega) (by omega) (by rw [← ht, swI_s (Gm τ st po) a (b := b) (mc := τ 0 1) (by omega), swStep_f _ _ _ (t := (g, lo, hi)) (show ¬ g < Gm τ st po a b by omega)]) (FB_next hf hP (by omega) (by omega) lo hi g) (by omega)
            · exfalso; omega
          · exfalso; omega
        · refine g_iload_n (pc := 145) dX6_findBestSwap_145 4 rfl ?_
          refine g_goto (pc := 146) 153 dX6_findBestSwap_146 (by decide) ?_
          refine g_put (pc := 153) (ci := 5) inG_X6 tyX6 tyX6_ok nmX6 rfl 14 (by decide) rfl rfl fl_X6_139 (0) am_obj rfl rfl (Nat.le_of_ble_eq_true rfl) sm_0_6 dX6_findBestSwap_153 ?_
          refine g_aload_n (pc := 156) dX6_findBestSwap_156 3 rfl ?_
          refine g_lload (pc := 157) dX6_findBestSwap_157 0 rfl ?_
          refine g_aload_n (pc := 159) dX6_findBestSwap_159 3 rfl ?_
          refine g_get (pc := 160) (ci := 5) inG_X6 rfl 13 (by decide) rfl fl_X6_135 (0) am_obj rfl dX6_findBestSwap_160 ?_
          refine g_topJ (show (up (s4 ρ st po a b) 0 6 a) 0 5 = g from (show (up (s4 ρ st po a b) 0 6 a) 0 5 = (s4 ρ st po a b) 0 5 from rfl).trans ((s4_0 _ _ _ _ _ (by omega)).trans hf.2.2.1)) ?_
          refine g_lcmp_le (pc := 163) 171 dX6_findBestSwap_163 dX6_findBestSwap_164 (by decide) (by omega) (by omega) (fun h_6 => ?_) (fun h_6 => ?_)
          · exfalso; omega
          · refine g_iload_n (pc := 167) dX6_findBestSwap_167 5 rfl ?_
            refine g_goto (pc := 168) 175 dX6_findBestSwap_168 (by decide) ?_
            refine g_put (pc := 175) (ci := 5) inG_X6 tyX6 tyX6_ok nmX6 rfl 15 (by decide) rfl rfl fl_X6_142 (0) am_obj rfl rfl (Nat.le_of_ble_eq_true rfl) sm_0_7 dX6_findBestSwap_175 ?_
            refine g_aload_n (pc := 178) dX6_findBestSwap_178 3 rfl ?_
            refine g_lload (pc := 179) dX6_findBestSwap_179 0 rfl ?_
            refine g_aload_n (pc := 181) dX6_findBestSwap_181 3 rfl ?_
            refine g_get (pc := 182) (ci := 5) inG_X6 rfl 13 (by decide) rfl fl_X6_135 (0) am_obj rfl dX6_findBestSwap_182 ?_
            refine g_topJ (show (up (up (s4 ρ st po a b) 0 6 a) 0 7 b) 0 5 = g from (show (up (up (s4 ρ st po a b) 0 6 a) 0 7 b) 0 5 = (s4 ρ st po a b) 0 5 from rfl).trans ((s4_0 _ _ _ _ _ (by omega)).trans hf.2.2.1)) ?_
            refine g_lcmp_le (pc := 185) 194 dX6_findBestSwap_185 dX6_findBestSwap_186 (by decide) (by omega) (by omega) (fun h_7 => ?_) (fun h_7 => ?_)
            · exfalso; omega
            · refine g_lload (pc := 189) dX6_findBestSwap_189 0 rfl ?_
              refine g_goto (pc := 191) 198 dX6_findBestSwap_191 (by decide) ?_
              refine g_put (pc := 198) (ci := 5) inG_X6 tyX6 tyX6_ok nmX6 rfl 13 (by decide) rfl rfl fl_X6_135 (0) am_obj rfl rfl (Nat.le_of_ble_eq_true rfl) sm_0_5 dX6_findBestSwap_198 ?_
              refine g_iinc (pc := 201) (lv' := [(2, .int (zI (b + 1))), (5, .long (zJ (Gm τ st po a b))), (4, .int (zI (st b))), (3, .int (zI (st a))), (0, .ref (bd 0)), (1, .int (zI a))]) dX6_findBestSwap_201 (by decide) 5 rfl rfl ?_
              refine g_goto (pc := 204) 60 dX6_findBestSwap_204 (by decide) ?_
              refine g_sub (lv' := [(0, .ref (bd 0)), (1, .int (zI a)), (2, .int (zI (b + 1)))]) [4, 5, 0] rfl ?_
              exact ih (b + 1) (Gm τ st po a b) a b _ (by omega) (by omega) (by omega) (by omega) (by rw [← ht, swI_s (Gm τ st po) a (b := b) (mc := τ 0 1) (by omega), swStep_t _ _ _ (t := (g, lo, hi)) (show g < Gm τ st po a b by omega)]) (FB_next hf hP (by omega) (by omega) a b (Gm τ st po a b)) (by omega)
set_option maxRecDepth 100000 in
set_option maxHeartbeats 2000000 in
/-- PvArrayModel.findBestSwap, the loop at 48  -/
theorem lp_X6_swapO {D : va_G} {cy : Nat → ClassId} {l : Launch} {bd : Nat → Nat} {τ : Nat → Int → Int} {X : va_W} {st po : Int → Int} (hB : Bd τ) (hP : Pos τ st po) : ∀ (n : Nat) (a : Int) (t : Int × Int × Int) (ρ : Nat → Int → Int), 0 ≤ a → a ≤ τ 0 1 → (0 ≤ t.1 ∧ t.1 ≤ 20000000) → swO (Gm τ st po) (τ 0 1) (τ 0 1 - a).toNat a t = swM τ st po → FB τ t.1 t.2.1 t.2.2 ρ → (τ 0 1 - a).toNat < n → GO D cy l rm_X6_findBestSwap cX6_findBestSwap 7 yX6_findBestSwap.cls none (MW cy bd τ ++ X) (fun v w' => v = none ∧ ∃ ρ, w' = MW cy bd ρ ++ X ∧ FB τ (swM τ st po).1 (swM τ st po).2.1 (swM τ st po).2.2 ρ) (MW cy bd (ρ) ++ X) 48 [(0, .ref (bd 0)), (1, .int (zI a))] [] := by
  intro n
  induction n with
  | zero =>
    intro a t ρ ha ha2 hg ht hf hn
    exact absurd hn (Nat.not_lt_zero _)
  | succ n ih =>
    intro a t ρ ha ha2 hg ht hf hn
    have g1 := hB.sc
    have g2 := hB.mc
    have hx := hf.1
    refine g_iload_n (pc := 48) dX6_findBestSwap_48 1 rfl ?_
    refine g_aload_n (pc := 49) dX6_findBestSwap_49 0 rfl ?_
    refine g_get (pc := 50) (ci := 5) inG_X6 rfl 1 (by decide) rfl fl_X6_52 (0) am_obj rfl dX6_findBestSwap_50 ?_
    refine g_topI hx.2.1 ?_
    refine g_icmp_ge (pc := 53) 213 dX6_findBestSwap_53 (by decide) (by omega) (by omega) (fun h_1 => ?_) (fun h_1 => ?_)
    · exact g_vret (pc := 213) dX6_findBestSwap_213 rfl (⟨rfl, ρ, rfl, by rw [← ht, show (τ 0 1 - a).toNat = 0 by omega]; exact hf⟩)
    · refine g_iload_n (pc := 56) dX6_findBestSwap_56 1 rfl ?_
      refine g_iconst (pc := 57) dX6_findBestSwap_57 ?_
      refine g_iadd (pc := 58) dX6_findBestSwap_58 ?_
      refine g_istore_n (pc := 59) (lv' := [(2, .int (zI (a + 1))), (0, .ref (bd 0)), (1, .int (zI a))]) dX6_findBestSwap_59 (by decide) rfl ?_
      refine g_sub (lv' := [(0, .ref (bd 0)), (1, .int (zI a)), (2, .int (zI (a + 1)))]) [1, 2, 0] rfl ?_
      exact lp_X6_swapI hB hP a (by omega) (swI (Gm τ st po) a (τ 0 1 - (a + 1)).toNat (a + 1) t) (fun ρ hf => ih (a + 1) _ ρ (by omega) (by omega) (swI_b _ _ _ _ _ _ (fun c q1 q2 => (Gm_b hB st po (by omega) (by omega)).2) hg) (by rw [← ht, swO_s (Gm τ st po) (a := a) (mc := τ 0 1) (by omega)]) hf (by omega)) ((τ 0 1).toNat + 1) (a + 1) t.1 t.2.1 t.2.2 ρ (by omega) (by omega) (by omega) (by omega) rfl hf (by omega)
set_option maxRecDepth 100000 in
set_option maxHeartbeats 2000000 in
/-- PvArrayModel.findBestSwap, the loop at 21  -/
theorem lp_X6_swapP {D : va_G} {cy : Nat → ClassId} {l : Launch} {bd : Nat → Nat} {τ : Nat → Int → Int} {X : va_W} {st po : Int → Int} (hB : Bd τ) (hP : Pos τ st po) : ∀ (n : Nat) (k : Int) (ρ : Nat → Int → Int), 0 ≤ k → k ≤ τ 0 2 → Sx τ ρ → (∀ s, 0 ≤ s → s < k → ρ 10 s = bestP τ s) → ρ 0 5 = 0 → ρ 0 6 = -1005 → ρ 0 7 = -1005 → (τ 0 2 - k).toNat < n → GO D cy l rm_X6_findBestSwap cX6_findBestSwap 7 yX6_findBestSwap.cls none (MW cy bd τ ++ X) (fun v w' => v = none ∧ ∃ ρ, w' = MW cy bd ρ ++ X ∧ FB τ (swM τ st po).1 (swM τ st po).2.1 (swM τ st po).2.2 ρ) (MW cy bd (ρ) ++ X) 21 [(0, .ref (bd 0)), (1, .int (zI k))] [] := by
  intro n
  induction n with
  | zero =>
    intro k ρ hk hk2 hx h10 h5 h6 h7 hn
    exact absurd hn (Nat.not_lt_zero _)
  | succ n ih =>
    intro k ρ hk hk2 hx h10 h5 h6 h7 hn
    have g1 := hB.sc
    have g2 := hB.mc
    refine g_iload_n (pc := 21) dX6_findBestSwap_21 1 rfl ?_
    refine g_aload_n (pc := 22) dX6_findBestSwap_22 0 rfl ?_
    refine g_get (pc := 23) (ci := 5) inG_X6 rfl 7 (by decide) rfl fl_X6_59 (0) am_obj rfl dX6_findBestSwap_23 ?_
    refine g_topI hx.2.2.1 ?_
    refine g_icmp_ge (pc := 26) 46 dX6_findBestSwap_26 (by decide) (by omega) (by omega) (fun h_1 => ?_) (fun h_1 => ?_)
    · refine g_iconst (pc := 46) dX6_findBestSwap_46 ?_
      refine g_istore_n (pc := 47) (lv' := [(1, .int (zI 0)), (0, .ref (bd 0))]) dX6_findBestSwap_47 (by decide) rfl ?_
      refine g_sub (lv' := [(0, .ref (bd 0)), (1, .int (zI 0))]) [1, 0] rfl ?_
      exact lp_X6_swapO hB hP ((τ 0 1).toNat + 1) 0 (0, -1005, -1005) ρ (by omega) (by omega) ⟨by decide, by decide⟩ (by rw [show τ 0 1 - 0 = τ 0 1 by omega]; rfl) ⟨hx, fun s q1 q2 => h10 s q1 (by omega), h5, h6, h7⟩ (by omega)
    · refine g_aload_n (pc := 29) dX6_findBestSwap_29 0 rfl ?_
      refine g_get (pc := 30) (ci := 5) inG_X6 rfl 16 (by decide) rfl fl_X6_39 (0) am_obj rfl dX6_findBestSwap_30 ?_
      refine g_iload_n (pc := 33) dX6_findBestSwap_33 1 rfl ?_
      refine g_aload_n (pc := 34) dX6_findBestSwap_34 0 rfl ?_
      refine g_iload_n (pc := 35) dX6_findBestSwap_35 1 rfl ?_
      refine g_callV (pc := 36) (As := [.int (zI k)]) (rest := [.int (zI k), .ref (bd 10)]) k_X6_122_X6 (c_X6_bestPowerOf (τ := ρ) (hx.Bd hB) k (by omega)) ⟨rfl, rfl, Nat.le_of_ble_eq_true rfl, Nat.le_of_ble_eq_true rfl⟩ (0) 5 rfl rfl am_obj rfl rfl (Nat.le_of_ble_eq_true rfl) dX6_findBestSwap_36 (fun v_ w_ hq_ => ?_)
      obtain ⟨rfl, rfl⟩ := hq_
      refine g_one ?_
      refine g_topJ (Sm_bestP hx.Sm _) ?_
      refine g_last (pc := 39) 10 am_10 (by omega) (by decide) sm_10 dX6_findBestSwap_39 ?_
      refine g_iinc (pc := 40) (lv' := [(1, .int (zI (k + 1))), (0, .ref (bd 0))]) dX6_findBestSwap_40 (by decide) 1 rfl rfl ?_
      refine g_goto (pc := 43) 21 dX6_findBestSwap_43 (by decide) ?_
      refine g_sub (lv' := [(0, .ref (bd 0)), (1, .int (zI (k + 1)))]) [1, 0] rfl ?_
      have q := FB_pb hx hk h10
      exact ih (k + 1) _ (by omega) (by omega) q.1 q.2.1 ((q.2.2 5 (by omega)).trans h5) ((q.2.2 6 (by omega)).trans h6) ((q.2.2 7 (by omega)).trans h7) (by omega)
set_option maxRecDepth 100000 in
set_option maxHeartbeats 2000000 in
/-- PvArrayModel.findBestSwap  -/
theorem c_X6_findBestSwap {D : va_G} {cy : Nat → ClassId} {l : Launch} {bd : Nat → Nat} {τ : Nat → Int → Int} {X : va_W} {st po : Int → Int} (hB : Bd τ) (hP : Pos τ st po) : Con D cy l yX6_findBestSwap cX6_findBestSwap 7 none rm_X6_findBestSwap [.ref (bd 0)] (MW cy bd τ ++ X) (fun v w' => v = none ∧ ∃ ρ, w' = MW cy bd ρ ++ X ∧ FB τ (swM τ st po).1 (swM τ st po).2.1 (swM τ st po).2.2 ρ) := by
  refine Con.of (lv := [(0, .ref (bd 0))]) (by decide) (Nat.le_of_ble_eq_true rfl) rfl ?_
  have g1 := hB.sc
  have g2 := hB.mc
  refine g_aload_n (pc := 0) dX6_findBestSwap_0 0 rfl ?_
  refine g_lconst (pc := 1) (z := 0) dX6_findBestSwap_1 rfl ?_
  refine g_put (pc := 2) (ci := 5) inG_X6 tyX6 tyX6_ok nmX6 rfl 13 (by decide) rfl rfl fl_X6_135 (0) am_obj rfl rfl (Nat.le_of_ble_eq_true rfl) sm_0_5 dX6_findBestSwap_2 ?_
  refine g_aload_n (pc := 5) dX6_findBestSwap_5 0 rfl ?_
  refine g_sipush (pc := 6) dX6_findBestSwap_6 (by omega) ?_
  refine g_put (pc := 9) (ci := 5) inG_X6 tyX6 tyX6_ok nmX6 rfl 14 (by decide) rfl rfl fl_X6_139 (0) am_obj rfl rfl (Nat.le_of_ble_eq_true rfl) sm_0_6 dX6_findBestSwap_9 ?_
  refine g_aload_n (pc := 12) dX6_findBestSwap_12 0 rfl ?_
  refine g_sipush (pc := 13) dX6_findBestSwap_13 (by omega) ?_
  refine g_put (pc := 16) (ci := 5) inG_X6 tyX6 tyX6_ok nmX6 rfl 15 (by decide) rfl rfl fl_X6_142 (0) am_obj rfl rfl (Nat.le_of_ble_eq_true rfl) sm_0_7 dX6_findBestSwap_16 ?_
  refine g_iconst (pc := 19) dX6_findBestSwap_19 ?_
  refine g_istore_n (pc := 20) (lv' := [(1, .int (zI 0)), (0, .ref (bd 0))]) dX6_findBestSwap_20 (by decide) rfl ?_
  refine g_sub (lv' := [(0, .ref (bd 0)), (1, .int (zI 0))]) [1, 0] rfl ?_
  exact lp_X6_swapP hB hP ((τ 0 2).toNat + 1) 0 _ (by omega) (by omega) (FB_0 τ).1 (fun s q1 q2 => absurd q1 (by omega)) (FB_0 τ).2.1 (FB_0 τ).2.2.1 (FB_0 τ).2.2.2 (by omega)
set_option maxRecDepth 100000 in
set_option maxHeartbeats 2000000 in
/-- PvArrayModel.bestSwapGain  -/
theorem c_X6_bestSwapGain {D : va_G} {cy : Nat → ClassId} {l : Launch} {bd : Nat → Nat} {τ : Nat → Int → Int} {X : va_W} {st po : Int → Int} (hB : Bd τ) (hP : Pos τ st po) : Con D cy l yX6_bestSwapGain cX6_bestSwapGain 1 (some .long) rm_X6_bestSwapGain [.ref (bd 0)] (MW cy bd τ ++ X) (sxJ τ ((swM τ st po).1) cy bd X) := by
  refine Con.of (lv := [(0, .ref (bd 0))]) (by decide) (Nat.le_of_ble_eq_true rfl) rfl ?_
  refine g_aload_n (pc := 0) dX6_bestSwapGain_0 0 rfl ?_
  refine g_callV (pc := 1) (As := []) (rest := []) k_X6_145_X6 (c_X6_findBestSwap (τ := τ) hB hP) ⟨rfl, rfl, Nat.le_of_ble_eq_true rfl, Nat.le_of_ble_eq_true rfl⟩ (0) 5 rfl rfl am_obj rfl rfl (Nat.le_of_ble_eq_true rfl) dX6_bestSwapGain_1 (fun v_ w_ hq_ => ?_)
  obtain ⟨rfl, ρ, rfl, hf⟩ := hq_
  refine g_none ?_
  refine g_aload_n (pc := 4) dX6_bestSwapGain_4 0 rfl ?_
  refine g_get (pc := 5) (ci := 5) inG_X6 rfl 13 (by decide) rfl fl_X6_135 (0) am_obj rfl dX6_bestSwapGain_5 ?_
  exact g_lret (pc := 8) dX6_bestSwapGain_8 rfl (sxJ_of hf.2.2.1 hf.1)
set_option maxRecDepth 100000 in
set_option maxHeartbeats 2000000 in
/-- PvArrayModel.bestSwapLower  -/
theorem c_X6_bestSwapLower {D : va_G} {cy : Nat → ClassId} {l : Launch} {bd : Nat → Nat} {τ : Nat → Int → Int} {X : va_W} {st po : Int → Int} (hB : Bd τ) (hP : Pos τ st po) : Con D cy l yX6_bestSwapLower cX6_bestSwapLower 1 (some .int) rm_X6_bestSwapLower [.ref (bd 0)] (MW cy bd τ ++ X) (sxI τ ((swM τ st po).2.1) cy bd X) := by
  refine Con.of (lv := [(0, .ref (bd 0))]) (by decide) (Nat.le_of_ble_eq_true rfl) rfl ?_
  refine g_aload_n (pc := 0) dX6_bestSwapLower_0 0 rfl ?_
  refine g_callV (pc := 1) (As := []) (rest := []) k_X6_145_X6 (c_X6_findBestSwap (τ := τ) hB hP) ⟨rfl, rfl, Nat.le_of_ble_eq_true rfl, Nat.le_of_ble_eq_true rfl⟩ (0) 5 rfl rfl am_obj rfl rfl (Nat.le_of_ble_eq_true rfl) dX6_bestSwapLower_1 (fun v_ w_ hq_ => ?_)
  obtain ⟨rfl, ρ, rfl, hf⟩ := hq_
  refine g_none ?_
  refine g_aload_n (pc := 4) dX6_bestSwapLower_4 0 rfl ?_
  refine g_get (pc := 5) (ci := 5) inG_X6 rfl 14 (by decide) rfl fl_X6_139 (0) am_obj rfl dX6_bestSwapLower_5 ?_
  exact g_iret (pc := 8) dX6_bestSwapLower_8 rfl (sxI_of hf.2.2.2.1 hf.1)
set_option maxRecDepth 100000 in
set_option maxHeartbeats 2000000 in
/-- PvArrayModel.bestSwapHigher  -/
theorem c_X6_bestSwapHigher {D : va_G} {cy : Nat → ClassId} {l : Launch} {bd : Nat → Nat} {τ : Nat → Int → Int} {X : va_W} {st po : Int → Int} (hB : Bd τ) (hP : Pos τ st po) : Con D cy l yX6_bestSwapHigher cX6_bestSwapHigher 1 (some .int) rm_X6_bestSwapHigher [.ref (bd 0)] (MW cy bd τ ++ X) (sxI τ ((swM τ st po).2.2) cy bd X) := by
  refine Con.of (lv := [(0, .ref (bd 0))]) (by decide) (Nat.le_of_ble_eq_true rfl) rfl ?_
  refine g_aload_n (pc := 0) dX6_bestSwapHigher_0 0 rfl ?_
  refine g_callV (pc := 1) (As := []) (rest := []) k_X6_145_X6 (c_X6_findBestSwap (τ := τ) hB hP) ⟨rfl, rfl, Nat.le_of_ble_eq_true rfl, Nat.le_of_ble_eq_true rfl⟩ (0) 5 rfl rfl am_obj rfl rfl (Nat.le_of_ble_eq_true rfl) dX6_bestSwapHigher_1 (fun v_ w_ hq_ => ?_)
  obtain ⟨rfl, ρ, rfl, hf⟩ := hq_
  refine g_none ?_
  refine g_aload_n (pc := 4) dX6_bestSwapHigher_4 0 rfl ?_
  refine g_get (pc := 5) (ci := 5) inG_X6 rfl 15 (by decide) rfl fl_X6_142 (0) am_obj rfl dX6_bestSwapHigher_5 ?_
  exact g_iret (pc := 8) dX6_bestSwapHigher_8 rfl (sxI_of hf.2.2.2.2 hf.1)
