def sbR (τ : Nat → Int → Int) (st : Int → Int) (n : Int) : Int → Int := fun i => if 0 ≤ i ∧ i < n then st i else τ 12 i
theorem sbR_s (τ : Nat → Int → Int) (st : Int → Int) {n : Int} (h : 0 ≤ n) : zup (sbR τ st n) n (st n) = sbR τ st (n + 1) := by
  funext i
  unfold zup sbR
  by_cases e : i = n
  · subst e; rw [if_pos rfl, if_pos (by omega)]
  · rw [if_neg e]
    try dsimp only
    by_cases h2 : 0 ≤ i ∧ i < n
    · rw [if_pos h2, if_pos (by omega)]
    · rw [if_neg h2, if_neg (by omega)]
theorem sbR_0 (τ : Nat → Int → Int) (st : Int → Int) : sbR τ st 0 = τ 12 := by
  funext i
  unfold sbR
  rw [if_neg (by omega)]
def rs1 (τ : Nat → Int → Int) (r F : Int → Int) : Nat → Int → Int := setR (setR τ 12 r) 11 F
def rs2 (τ : Nat → Int → Int) (r F G : Int → Int) : Nat → Int → Int := setR (rs1 τ r F) 7 G
abbrev srtM (τ : Nat → Int → Int) : Int → Int := srtR (photo τ) (τ 0 1).toNat (τ 11)
theorem rs1_Bd {τ : Nat → Int → Int} (hB : Bd τ) (r F : Int → Int) : Bd (rs1 τ r F) := hB.row7 (fun _ _ => rfl) rfl rfl rfl rfl rfl rfl (fun j => hB.b7 j)
theorem rs1_Pos {τ : Nat → Int → Int} {st po : Int → Int} (hP : Pos τ st po) (r F : Int → Int) : Pos (rs1 τ r F) st po := Pos_cg hP rfl rfl rfl rfl
theorem rs2_Bd {τ : Nat → Int → Int} (hB : Bd τ) (r F : Int → Int) {G : Int → Int} (hG : ∀ j, 0 ≤ G j ∧ G j ≤ 23) : Bd (rs2 τ r F G) := hB.row7 (fun _ _ => rfl) rfl rfl rfl rfl rfl rfl hG
theorem rs1_11 (τ : Nat → Int → Int) (r F : Int → Int) (i v : Int) : up (rs1 τ r F) 11 i v = rs1 τ r (zup F i v) := by
  unfold rs1
  rw [setR_put]
theorem rs1_12 (τ : Nat → Int → Int) (r F : Int → Int) (i v : Int) : up (rs1 τ r F) 12 i v = rs1 τ (zup r i v) F := by
  funext g
  unfold rs1
  by_cases h : g = 12
  · subst h; rw [up_r]; rfl
  · rw [up_o _ _ _ h]
    by_cases h2 : g = 11
    · subst h2; rw [setR_s, setR_s]
    · rw [setR_o _ _ h2, setR_o _ _ h2, setR_o _ _ h, setR_o _ _ h]
theorem rs2_7 (τ : Nat → Int → Int) (r F G : Int → Int) (i v : Int) : up (rs2 τ r F G) 7 i v = rs2 τ r F (zup G i v) := by
  unfold rs2
  rw [setR_put]
theorem rs2_0 (τ : Nat → Int → Int) (r F : Int → Int) : rs1 τ r F = rs2 τ r F (τ 7) := (setR_id (rs1 τ r F) 7).symm
theorem rs1_id (τ : Nat → Int → Int) (st : Int → Int) : τ = rs1 τ (sbR τ st 0) (τ 11) := by
  unfold rs1
  rw [sbR_0, setR_id, setR_id]
set_option maxRecDepth 100000 in
set_option maxHeartbeats 2000000 in
/-- PvArrayModel.regroup, the loop at 143  -/
theorem lp_X6_regM {D : va_G} {cy : Nat → ClassId} {l : Launch} {bd : Nat → Nat} {τ : Nat → Int → Int} {X : va_W} {st po st2 po2 : Int → Int} (hB : Bd τ) (hP : Pos τ st po) (h11 : ∀ j, 0 ≤ τ 11 j ∧ τ 11 j ≤ 23) (hO : off τ (τ 0 2) = τ 0 1) (hP2 : Pos (rs2 τ (sbR τ st (τ 0 1)) (srtM τ) (rg7 τ (srtM τ) (τ 0 2) 0)) st2 po2) (x : Int) : ∀ (n : Nat) (m : Int), 0 ≤ m → m ≤ τ 0 1 → (τ 0 1 - m).toNat < n → GO D cy l rm_X6_regroup cX6_regroup 4 yX6_regroup.cls (some .int) (MW cy bd τ ++ X) (rdI (sumP (fun i => if st2 i = st i then 0 else 1) (τ 0 1).toNat) (MW cy bd (rs2 τ (sbR τ st (τ 0 1)) (srtM τ) (rg7 τ (srtM τ) (τ 0 2) 0)) ++ X)) (MW cy bd (rs2 τ (sbR τ st (τ 0 1)) (srtM τ) (rg7 τ (srtM τ) (τ 0 2) 0)) ++ X) 143 [(0, .ref (bd 0)), (1, .int (zI x)), (2, .int (zI (sumP (fun i => if st2 i = st i then 0 else 1) m.toNat))), (3, .int (zI m))] [] := by
  intro n
  induction n with
  | zero =>
    intro m hm hm2 hn
    exact absurd hn (Nat.not_lt_zero _)
  | succ n ih =>
    intro m hm hm2 hn
    have g1 := hB.sc
    have g2 := hB.mc
    have gB := sumP_b (F := (fun i => if st2 i = st i then 0 else 1)) (a := 0) (b := 1) (fun i => by split <;> omega) m.toNat
    refine g_iload_n (pc := 143) dX6_regroup_143 3 rfl ?_
    refine g_aload_n (pc := 144) dX6_regroup_144 0 rfl ?_
    refine g_get (pc := 145) (ci := 5) inG_X6 rfl 1 (by decide) rfl fl_X6_52 (0) am_obj rfl dX6_regroup_145 ?_
    refine g_topI (show (rs2 τ (sbR τ st (τ 0 1)) (srtM τ) (rg7 τ (srtM τ) (τ 0 2) 0)) 0 1 = τ 0 1 from rfl) ?_
    refine g_icmp_ge (pc := 148) 182 dX6_regroup_148 (by decide) (by omega) (by omega) (fun h_1 => ?_) (fun h_1 => ?_)
    · refine g_iload_n (pc := 182) dX6_regroup_182 2 rfl ?_
      exact g_iret (pc := 183) dX6_regroup_183 rfl (wm_of (by rw [show m = τ 0 1 by omega]) rfl)
    · have g4 : (0 ≤ st2 m ∧ st2 m < τ 0 2) ∧ (0 ≤ po2 m ∧ po2 m < τ 6 (st2 m)) ∧ _ := hP2.1 m hm (by show m < τ 0 1; omega)
      have g5 := hB.b6 (st2 m)
      have g6 := hP.1 m hm (by omega)
      refine g_iload_n (pc := 151) dX6_regroup_151 2 rfl ?_
      refine g_aload_n (pc := 152) dX6_regroup_152 0 rfl ?_
      refine g_iload_n (pc := 153) dX6_regroup_153 3 rfl ?_
      refine g_callV (pc := 154) (As := [.int (zI m)]) (rest := [.int (zI (sumP (fun i => if st2 i = st i then 0 else 1) m.toNat))]) k_X6_73_X6 (c_X6_placeOf (τ := (rs2 τ (sbR τ st (τ 0 1)) (srtM τ) (rg7 τ (srtM τ) (τ 0 2) 0))) (rs2_Bd hB _ _ (rg7_b hB (srtR_b _ (by omega) h11) _ _)) hP2 m (show 0 ≤ m ∧ m < τ 0 1 by omega)) ⟨rfl, rfl, Nat.le_of_ble_eq_true rfl, Nat.le_of_ble_eq_true rfl⟩ (0) 5 rfl rfl am_obj rfl rfl (Nat.le_of_ble_eq_true rfl) dX6_regroup_154 (fun v_ w_ hq_ => ?_)
      obtain ⟨rfl, rfl⟩ := hq_
      refine g_one ?_
      refine g_bipush (pc := 157) dX6_regroup_157 (by omega) ?_
      refine g_idiv (pc := 159) dX6_regroup_159 (by omega) (by omega) ?_
      refine g_topI (show (12 * st2 m + po2 m) / 12 = st2 m by omega) ?_
      refine g_aload_n (pc := 160) dX6_regroup_160 0 rfl ?_
      refine g_get (pc := 161) (ci := 5) inG_X6 rfl 18 (by decide) rfl fl_X6_45 (0) am_obj rfl dX6_regroup_161 ?_
      refine g_iload_n (pc := 164) dX6_regroup_164 3 rfl ?_
      refine g_iald (pc := 165) 12 am_12 (by omega) (by decide) dX6_regroup_165 ?_
      refine g_topI (show (rs2 τ (sbR τ st (τ 0 1)) (srtM τ) (rg7 τ (srtM τ) (τ 0 2) 0)) 12 m = st m from if_pos (by omega)) ?_
      refine g_icmp_ne (pc := 166) 173 dX6_regroup_166 (by decide) (by omega) (by omega) (fun h_2 => ?_) (fun h_2 => ?_)
      · refine g_iconst (pc := 173) dX6_regroup_173 ?_
        refine g_iadd (pc := 174) dX6_regroup_174 ?_
        refine g_istore_n (pc := 175) (lv' := [(2, .int (zI ((sumP (fun i => if st2 i = st i then 0 else 1) m.toNat) + 1))), (0, .ref (bd 0)), (1, .int (zI x)), (3, .int (zI m))]) dX6_regroup_175 (by decide) rfl ?_
        refine g_iinc (pc := 176) (lv' := [(3, .int (zI (m + 1))), (2, .int (zI ((sumP (fun i => if st2 i = st i then 0 else 1) m.toNat) + 1))), (0, .ref (bd 0)), (1, .int (zI x))]) dX6_regroup_176 (by decide) 3 rfl rfl ?_
        refine g_goto (pc := 179) 143 dX6_regroup_179 (by decide) ?_
        refine g_sub (lv' := [(0, .ref (bd 0)), (1, .int (zI x)), (2, .int (zI ((sumP (fun i => if st2 i = st i then 0 else 1) m.toNat) + 1))), (3, .int (zI (m + 1)))]) [2, 3, 1, 0] rfl ?_
        refine g_lv (lv' := [(0, .ref (bd 0)), (1, .int (zI x)), (2, .int (zI (sumP (fun i => if st2 i = st i then 0 else 1) (m + 1).toNat))), (3, .int (zI (m + 1)))]) (by rw [sumP_s _ hm, if_neg (by omega)]) ?_
        exact ih (m + 1) (by omega) (by omega) (by omega)
      · refine g_iconst (pc := 169) dX6_regroup_169 ?_
        refine g_goto (pc := 170) 174 dX6_regroup_170 (by decide) ?_
        refine g_iadd (pc := 174) dX6_regroup_174 ?_
        refine g_istore_n (pc := 175) (lv' := [(2, .int (zI ((sumP (fun i => if st2 i = st i then 0 else 1) m.toNat) + 0))), (0, .ref (bd 0)), (1, .int (zI x)), (3, .int (zI m))]) dX6_regroup_175 (by decide) rfl ?_
        refine g_iinc (pc := 176) (lv' := [(3, .int (zI (m + 1))), (2, .int (zI ((sumP (fun i => if st2 i = st i then 0 else 1) m.toNat) + 0))), (0, .ref (bd 0)), (1, .int (zI x))]) dX6_regroup_176 (by decide) 3 rfl rfl ?_
        refine g_goto (pc := 179) 143 dX6_regroup_179 (by decide) ?_
        refine g_sub (lv' := [(0, .ref (bd 0)), (1, .int (zI x)), (2, .int (zI ((sumP (fun i => if st2 i = st i then 0 else 1) m.toNat) + 0))), (3, .int (zI (m + 1)))]) [2, 3, 1, 0] rfl ?_
        refine g_lv (lv' := [(0, .ref (bd 0)), (1, .int (zI x)), (2, .int (zI (sumP (fun i => if st2 i = st i then 0 else 1) (m + 1).toNat))), (3, .int (zI (m + 1)))]) (by rw [sumP_s _ hm, if_pos (by omega)]) ?_
        exact ih (m + 1) (by omega) (by omega) (by omega)
set_option maxRecDepth 100000 in
set_option maxHeartbeats 2000000 in
/-- PvArrayModel.regroup, the loop at 97  -/
theorem lp_X6_regI {D : va_G} {cy : Nat → ClassId} {l : Launch} {bd : Nat → Nat} {τ : Nat → Int → Int} {X : va_W} {st po st2 po2 : Int → Int} (hB : Bd τ) (hP : Pos τ st po) (h11 : ∀ j, 0 ≤ τ 11 j ∧ τ 11 j ≤ 23) (hO : off τ (τ 0 2) = τ 0 1) (hP2 : Pos (rs2 τ (sbR τ st (τ 0 1)) (srtM τ) (rg7 τ (srtM τ) (τ 0 2) 0)) st2 po2) (s : Int) (hs : 0 ≤ s ∧ s < τ 0 2) (kk : GO D cy l rm_X6_regroup cX6_regroup 4 yX6_regroup.cls (some .int) (MW cy bd τ ++ X) (rdI (sumP (fun i => if st2 i = st i then 0 else 1) (τ 0 1).toNat) (MW cy bd (rs2 τ (sbR τ st (τ 0 1)) (srtM τ) (rg7 τ (srtM τ) (τ 0 2) 0)) ++ X)) (MW cy bd (rs2 τ (sbR τ st (τ 0 1)) (srtM τ) (rg7 τ (srtM τ) (s + 1) 0)) ++ X) 87 [(0, .ref (bd 0)), (1, .int (zI (off τ (s + 1)))), (2, .int (zI (s + 1)))] []) : ∀ (n : Nat) (p : Int), 0 ≤ p → p ≤ τ 6 s → (τ 6 s - p).toNat < n → GO D cy l rm_X6_regroup cX6_regroup 4 yX6_regroup.cls (some .int) (MW cy bd τ ++ X) (rdI (sumP (fun i => if st2 i = st i then 0 else 1) (τ 0 1).toNat) (MW cy bd (rs2 τ (sbR τ st (τ 0 1)) (srtM τ) (rg7 τ (srtM τ) (τ 0 2) 0)) ++ X)) (MW cy bd (rs2 τ (sbR τ st (τ 0 1)) (srtM τ) (rg7 τ (srtM τ) s p)) ++ X) 97 [(0, .ref (bd 0)), (1, .int (zI (off τ s + p))), (2, .int (zI s)), (3, .int (zI p))] [] := by
  intro n
  induction n with
  | zero =>
    intro p hp hp2 hn
    exact absurd hn (Nat.not_lt_zero _)
  | succ n ih =>
    intro p hp hp2 hn
    have g1 := hB.sc
    have g2 := hB.mc
    have g3 := hB.b6 s
    have g4 := off_0 hB s
    have g5 := off_le hB (a := s + 1) (b := τ 0 2) (by omega)
    have g6 := off_s τ hs.1
    refine g_iload_n (pc := 97) dX6_regroup_97 3 rfl ?_
    refine g_aload_n (pc := 98) dX6_regroup_98 0 rfl ?_
    refine g_get (pc := 99) (ci := 5) inG_X6 rfl 8 (by decide) rfl fl_X6_26 (0) am_obj rfl dX6_regroup_99 ?_
    refine g_iload_n (pc := 102) dX6_regroup_102 2 rfl ?_
    refine g_iald (pc := 103) 6 am_6 (by omega) (by decide) dX6_regroup_103 ?_
    refine g_topI (show (rs2 τ (sbR τ st (τ 0 1)) (srtM τ) (rg7 τ (srtM τ) s p)) 6 s = τ 6 s from rfl) ?_
    refine g_icmp_ge (pc := 104) 133 dX6_regroup_104 (by decide) (by omega) (by omega) (fun h_1 => ?_) (fun h_1 => ?_)
    · refine g_iinc (pc := 133) (lv' := [(2, .int (zI (s + 1))), (0, .ref (bd 0)), (1, .int (zI (off τ s + p))), (3, .int (zI p))]) dX6_regroup_133 (by decide) 2 rfl rfl ?_
      refine g_goto (pc := 136) 87 dX6_regroup_136 (by decide) ?_
      refine g_sub (lv' := [(0, .ref (bd 0)), (1, .int (zI (off τ s + p))), (2, .int (zI (s + 1)))]) [1, 2, 0] rfl ?_
      refine g_world (w' := MW cy bd (rs2 τ (sbR τ st (τ 0 1)) (srtM τ) (rg7 τ (srtM τ) (s + 1) 0)) ++ X) (by rw [← rg7_n, show p = τ 6 s by omega]) ?_
      refine g_lv (lv' := [(0, .ref (bd 0)), (1, .int (zI (off τ (s + 1)))), (2, .int (zI (s + 1)))]) (by rw [off_s _ hs.1, show p = τ 6 s by omega]) ?_
      exact kk
    · refine g_aload_n (pc := 107) dX6_regroup_107 0 rfl ?_
      refine g_get (pc := 108) (ci := 5) inG_X6 rfl 9 (by decide) rfl fl_X6_29 (0) am_obj rfl dX6_regroup_108 ?_
      refine g_bipush (pc := 111) dX6_regroup_111 (by omega) ?_
      refine g_iload_n (pc := 113) dX6_regroup_113 2 rfl ?_
      refine g_imul (pc := 114) dX6_regroup_114 ?_
      refine g_iload_n (pc := 115) dX6_regroup_115 3 rfl ?_
      refine g_iadd (pc := 116) dX6_regroup_116 ?_
      refine g_aload_n (pc := 117) dX6_regroup_117 0 rfl ?_
      refine g_get (pc := 118) (ci := 5) inG_X6 rfl 17 (by decide) rfl fl_X6_42 (0) am_obj rfl dX6_regroup_118 ?_
      refine g_iload_n (pc := 121) dX6_regroup_121 1 rfl ?_
      refine g_iald (pc := 122) 11 am_11 (by omega) (by decide) dX6_regroup_122 ?_
      refine g_topI (show (rs2 τ (sbR τ st (τ 0 1)) (srtM τ) (rg7 τ (srtM τ) s p)) 11 (off τ s + p) = srtM τ (off τ s + p) from rfl) ?_
      refine g_iast (pc := 123) 7 am_7 (by omega) (by decide) sm_7 dX6_regroup_123 ?_
      refine g_iinc (pc := 124) (lv' := [(1, .int (zI ((off τ s + p) + 1))), (0, .ref (bd 0)), (2, .int (zI s)), (3, .int (zI p))]) dX6_regroup_124 (by decide) 1 rfl rfl ?_
      refine g_iinc (pc := 127) (lv' := [(3, .int (zI (p + 1))), (1, .int (zI ((off τ s + p) + 1))), (0, .ref (bd 0)), (2, .int (zI s))]) dX6_regroup_127 (by decide) 3 rfl rfl ?_
      refine g_goto (pc := 130) 97 dX6_regroup_130 (by decide) ?_
      refine g_sub (lv' := [(0, .ref (bd 0)), (1, .int (zI ((off τ s + p) + 1))), (2, .int (zI s)), (3, .int (zI (p + 1)))]) [2, 1, 3, 0] rfl ?_
      refine g_world (w' := MW cy bd (rs2 τ (sbR τ st (τ 0 1)) (srtM τ) (rg7 τ (srtM τ) s (p + 1))) ++ X) (by rw [rs2_7, rg7_s _ hs.1 (by omega)]) ?_
      refine g_lv (lv' := [(0, .ref (bd 0)), (1, .int (zI (off τ s + (p + 1)))), (2, .int (zI s)), (3, .int (zI (p + 1)))]) (by rw [← Int.add_assoc]) ?_
      exact ih (p + 1) (by omega) (by omega) (by omega)
set_option maxRecDepth 100000 in
set_option maxHeartbeats 2000000 in
/-- PvArrayModel.regroup, the loop at 87  -/
theorem lp_X6_regO {D : va_G} {cy : Nat → ClassId} {l : Launch} {bd : Nat → Nat} {τ : Nat → Int → Int} {X : va_W} {st po st2 po2 : Int → Int} (hB : Bd τ) (hP : Pos τ st po) (h11 : ∀ j, 0 ≤ τ 11 j ∧ τ 11 j ≤ 23) (hO : off τ (τ 0 2) = τ 0 1) (hP2 : Pos (rs2 τ (sbR τ st (τ 0 1)) (srtM τ) (rg7 τ (srtM τ) (τ 0 2) 0)) st2 po2) : ∀ (n : Nat) (s : Int), 0 ≤ s → s ≤ τ 0 2 → (τ 0 2 - s).toNat < n → GO D cy l rm_X6_regroup cX6_regroup 4 yX6_regroup.cls (some .int) (MW cy bd τ ++ X) (rdI (sumP (fun i => if st2 i = st i then 0 else 1) (τ 0 1).toNat) (MW cy bd (rs2 τ (sbR τ st (τ 0 1)) (srtM τ) (rg7 τ (srtM τ) (τ 0 2) 0)) ++ X)) (MW cy bd (rs2 τ (sbR τ st (τ 0 1)) (srtM τ) (rg7 τ (srtM τ) s 0)) ++ X) 87 [(0, .ref (bd 0)), (1, .int (zI (off τ s))), (2, .int (zI s))] [] := by
  intro n
  induction n with
  | zero =>
    intro s hs hs2 hn
    exact absurd hn (Nat.not_lt_zero _)
  | succ n ih =>
    intro s hs hs2 hn
    have g1 := hB.sc
    have g2 := hB.mc
    refine g_iload_n (pc := 87) dX6_regroup_87 2 rfl ?_
    refine g_aload_n (pc := 88) dX6_regroup_88 0 rfl ?_
    refine g_get (pc := 89) (ci := 5) inG_X6 rfl 7 (by decide) rfl fl_X6_59 (0) am_obj rfl dX6_regroup_89 ?_
    refine g_topI (show (rs2 τ (sbR τ st (τ 0 1)) (srtM τ) (rg7 τ (srtM τ) s 0)) 0 2 = τ 0 2 from rfl) ?_
    refine g_icmp_ge (pc := 92) 139 dX6_regroup_92 (by decide) (by omega) (by omega) (fun h_1 => ?_) (fun h_1 => ?_)
    · refine g_iconst (pc := 139) dX6_regroup_139 ?_
      refine g_istore_n (pc := 140) (lv' := [(2, .int (zI 0)), (0, .ref (bd 0)), (1, .int (zI (off τ s)))]) dX6_regroup_140 (by decide) rfl ?_
      refine g_iconst (pc := 141) dX6_regroup_141 ?_
      refine g_istore_n (pc := 142) (lv' := [(3, .int (zI 0)), (2, .int (zI 0)), (0, .ref (bd 0)), (1, .int (zI (off τ s)))]) dX6_regroup_142 (by decide) rfl ?_
      refine g_sub (lv' := [(0, .ref (bd 0)), (1, .int (zI (off τ s))), (2, .int (zI 0)), (3, .int (zI 0))]) [2, 3, 1, 0] rfl ?_
      refine g_world (w' := MW cy bd (rs2 τ (sbR τ st (τ 0 1)) (srtM τ) (rg7 τ (srtM τ) (τ 0 2) 0)) ++ X) (by rw [show s = τ 0 2 by omega]) ?_
      exact lp_X6_regM hB hP h11 hO hP2 (off τ s) ((τ 0 1).toNat + 1) 0 (by omega) (by omega) (by omega)
    · refine g_iconst (pc := 95) dX6_regroup_95 ?_
      refine g_istore_n (pc := 96) (lv' := [(3, .int (zI 0)), (0, .ref (bd 0)), (1, .int (zI (off τ s))), (2, .int (zI s))]) dX6_regroup_96 (by decide) rfl ?_
      refine g_sub (lv' := [(0, .ref (bd 0)), (1, .int (zI (off τ s))), (2, .int (zI s)), (3, .int (zI 0))]) [1, 2, 3, 0] rfl ?_
      refine g_lv (lv' := [(0, .ref (bd 0)), (1, .int (zI (off τ s + 0))), (2, .int (zI s)), (3, .int (zI 0))]) (by rw [Int.add_zero]) ?_
      exact lp_X6_regI hB hP h11 hO hP2 s (by omega) (ih (s + 1) (by omega) (by omega) (by omega)) ((τ 6 s).toNat + 1) 0 (by omega) (by have := hB.b6 s; omega) (by omega)
set_option maxRecDepth 100000 in
set_option maxHeartbeats 2000000 in
/-- PvArrayModel.regroup, the loop at 26  -/
theorem lp_X6_sortI {D : va_G} {cy : Nat → ClassId} {l : Launch} {bd : Nat → Nat} {τ : Nat → Int → Int} {X : va_W} {st po st2 po2 : Int → Int} (hB : Bd τ) (hP : Pos τ st po) (h11 : ∀ j, 0 ≤ τ 11 j ∧ τ 11 j ≤ 23) (hO : off τ (τ 0 2) = τ 0 1) (hP2 : Pos (rs2 τ (sbR τ st (τ 0 1)) (srtM τ) (rg7 τ (srtM τ) (τ 0 2) 0)) st2 po2) (m : Int) (hm : 0 ≤ m ∧ m < τ 0 1) (F1 : Int → Int) (kk : GO D cy l rm_X6_regroup cX6_regroup 4 yX6_regroup.cls (some .int) (MW cy bd τ ++ X) (rdI (sumP (fun i => if st2 i = st i then 0 else 1) (τ 0 1).toNat) (MW cy bd (rs2 τ (sbR τ st (τ 0 1)) (srtM τ) (rg7 τ (srtM τ) (τ 0 2) 0)) ++ X)) (MW cy bd (rs1 τ (sbR τ st (m + 1)) F1) ++ X) 2 [(0, .ref (bd 0)), (1, .int (zI (m + 1)))] []) : ∀ (n : Nat) (k : Int) (F : Int → Int), 0 ≤ k → k ≤ m → (∀ j, 0 ≤ F j ∧ F j ≤ 23) → insR (photo τ) m k.toNat F = F1 → k.toNat < n → GO D cy l rm_X6_regroup cX6_regroup 4 yX6_regroup.cls (some .int) (MW cy bd τ ++ X) (rdI (sumP (fun i => if st2 i = st i then 0 else 1) (τ 0 1).toNat) (MW cy bd (rs2 τ (sbR τ st (τ 0 1)) (srtM τ) (rg7 τ (srtM τ) (τ 0 2) 0)) ++ X)) (MW cy bd (rs1 τ (sbR τ st (m + 1)) F) ++ X) 26 [(0, .ref (bd 0)), (1, .int (zI m)), (2, .int (zI k))] [] := by
  intro n
  induction n with
  | zero =>
    intro k F hk hk2 hF ht hn
    exact absurd hn (Nat.not_lt_zero _)
  | succ n ih =>
    intro k F hk hk2 hF ht hn
    have g1 := hB.sc
    have g2 := hB.mc
    refine g_iload_n (pc := 26) dX6_regroup_26 2 rfl ?_
    refine g_if_le (pc := 27) 70 dX6_regroup_27 (by decide) (by omega) (fun h_1 => ?_) (fun h_1 => ?_)
    · refine g_aload_n (pc := 70) dX6_regroup_70 0 rfl ?_
      refine g_get (pc := 71) (ci := 5) inG_X6 rfl 17 (by decide) rfl fl_X6_42 (0) am_obj rfl dX6_regroup_71 ?_
      refine g_iload_n (pc := 74) dX6_regroup_74 2 rfl ?_
      refine g_iload_n (pc := 75) dX6_regroup_75 1 rfl ?_
      refine g_iast (pc := 76) 11 am_11 (by omega) (by decide) sm_11 dX6_regroup_76 ?_
      refine g_iinc (pc := 77) (lv' := [(1, .int (zI (m + 1))), (0, .ref (bd 0)), (2, .int (zI k))]) dX6_regroup_77 (by decide) 1 rfl rfl ?_
      refine g_goto (pc := 80) 2 dX6_regroup_80 (by decide) ?_
      refine g_sub (lv' := [(0, .ref (bd 0)), (1, .int (zI (m + 1)))]) [1, 0] rfl ?_
      refine g_world (w' := MW cy bd (rs1 τ (sbR τ st (m + 1)) F1) ++ X) (by rw [rs1_11, ← ht]; first | rw [insR_0 (photo τ) m F (k := k) (by omega)] | rw [insR_n (ph := photo τ) (m := m) (F := F) (k := k) (by omega) (by omega)]) ?_
      exact kk
    · have g3 := hF (k - 1)
      have g4 := photo_b hB (F (k - 1))
      have g5 := photo_b hB m
      refine g_aload_n (pc := 30) dX6_regroup_30 0 rfl ?_
      refine g_aload_n (pc := 31) dX6_regroup_31 0 rfl ?_
      refine g_get (pc := 32) (ci := 5) inG_X6 rfl 17 (by decide) rfl fl_X6_42 (0) am_obj rfl dX6_regroup_32 ?_
      refine g_iload_n (pc := 35) dX6_regroup_35 2 rfl ?_
      refine g_iconst (pc := 36) dX6_regroup_36 ?_
      refine g_isub (pc := 37) dX6_regroup_37 ?_
      refine g_iald (pc := 38) 11 am_11 (by omega) (by decide) dX6_regroup_38 ?_
      refine g_topI (show (rs1 τ (sbR τ st (m + 1)) F) 11 (k - 1) = F (k - 1) from rfl) ?_
      refine g_callV (pc := 39) (As := [.int (zI (F (k - 1)))]) (rest := []) k_X6_84_X6 (c_X6_photocurrentOf (τ := (rs1 τ (sbR τ st (m + 1)) F)) (rs1_Bd hB _ _) (F (k - 1)) (by omega)) ⟨rfl, rfl, Nat.le_of_ble_eq_true rfl, Nat.le_of_ble_eq_true rfl⟩ (0) 5 rfl rfl am_obj rfl rfl (Nat.le_of_ble_eq_true rfl) dX6_regroup_39 (fun v_ w_ hq_ => ?_)
      obtain ⟨rfl, rfl⟩ := hq_
      refine g_one ?_
      refine g_topI (show photo (rs1 τ (sbR τ st (m + 1)) F) (F (k - 1)) = photo τ (F (k - 1)) from rfl) ?_
      refine g_aload_n (pc := 42) dX6_regroup_42 0 rfl ?_
      refine g_iload_n (pc := 43) dX6_regroup_43 1 rfl ?_
      refine g_callV (pc := 44) (As := [.int (zI m)]) (rest := [.int (zI (photo τ (F (k - 1))))]) k_X6_84_X6 (c_X6_photocurrentOf (τ := (rs1 τ (sbR τ st (m + 1)) F)) (rs1_Bd hB _ _) m (by omega)) ⟨rfl, rfl, Nat.le_of_ble_eq_true rfl, Nat.le_of_ble_eq_true rfl⟩ (0) 5 rfl rfl am_obj rfl rfl (Nat.le_of_ble_eq_true rfl) dX6_regroup_44 (fun v_ w_ hq_ => ?_)
      obtain ⟨rfl, rfl⟩ := hq_
      refine g_one ?_
      refine g_topI (show photo (rs1 τ (sbR τ st (m + 1)) F) m = photo τ m from rfl) ?_
      refine g_icmp_ge (pc := 47) 70 dX6_regroup_47 (by decide) (by omega) (by omega) (fun h_2 => ?_) (fun h_2 => ?_)
      · refine g_aload_n (pc := 70) dX6_regroup_70 0 rfl ?_
        refine g_get (pc := 71) (ci := 5) inG_X6 rfl 17 (by decide) rfl fl_X6_42 (0) am_obj rfl dX6_regroup_71 ?_
        refine g_iload_n (pc := 74) dX6_regroup_74 2 rfl ?_
        refine g_iload_n (pc := 75) dX6_regroup_75 1 rfl ?_
        refine g_iast (pc := 76) 11 am_11 (by omega) (by decide) sm_11 dX6_regroup_76 ?_
        refine g_iinc (pc := 77) (lv' := [(1, .int (zI (m + 1))), (0, .ref (bd 0)), (2, .int (zI k))]) dX6_regroup_77 (by decide) 1 rfl rfl ?_
        refine g_goto (pc := 80) 2 dX6_regroup_80 (by decide) ?_
        refine g_sub (lv' := [(0, .ref (bd 0)), (1, .int (zI (m + 1)))]) [1, 0] rfl ?_
        refine g_world (w' := MW cy bd (rs1 τ (sbR τ st (m + 1)) F1) ++ X) (by rw [rs1_11, ← ht]; first | rw [insR_0 (photo τ) m F (k := k) (by omega)] | rw [insR_n (ph := photo τ) (m := m) (F := F) (k := k) (by omega) (by omega)]) ?_
        exact kk
      · refine g_aload_n (pc := 50) dX6_regroup_50 0 rfl ?_
        refine g_get (pc := 51) (ci := 5) inG_X6 rfl 17 (by decide) rfl fl_X6_42 (0) am_obj rfl dX6_regroup_51 ?_
        refine g_iload_n (pc := 54) dX6_regroup_54 2 rfl ?_
        refine g_aload_n (pc := 55) dX6_regroup_55 0 rfl ?_
        refine g_get (pc := 56) (ci := 5) inG_X6 rfl 17 (by decide) rfl fl_X6_42 (0) am_obj rfl dX6_regroup_56 ?_
        refine g_iload_n (pc := 59) dX6_regroup_59 2 rfl ?_
        refine g_iconst (pc := 60) dX6_regroup_60 ?_
        refine g_isub (pc := 61) dX6_regroup_61 ?_
        refine g_iald (pc := 62) 11 am_11 (by omega) (by decide) dX6_regroup_62 ?_
        refine g_topI (show (rs1 τ (sbR τ st (m + 1)) F) 11 (k - 1) = F (k - 1) from rfl) ?_
        refine g_iast (pc := 63) 11 am_11 (by omega) (by decide) sm_11 dX6_regroup_63 ?_
        refine g_iinc (pc := 64) (lv' := [(2, .int (zI (k + (-1)))), (0, .ref (bd 0)), (1, .int (zI m))]) dX6_regroup_64 (by decide) 2 rfl rfl ?_
        refine g_goto (pc := 67) 26 dX6_regroup_67 (by decide) ?_
        refine g_sub (lv' := [(0, .ref (bd 0)), (1, .int (zI m)), (2, .int (zI (k + (-1))))]) [1, 2, 0] rfl ?_
        refine g_world (w' := MW cy bd (rs1 τ (sbR τ st (m + 1)) (zup F k (F (k - 1)))) ++ X) (by rw [rs1_11]) ?_
        refine g_lv (lv' := [(0, .ref (bd 0)), (1, .int (zI m)), (2, .int (zI (k - 1)))]) (by rw [show k + (-1) = k - 1 by omega]) ?_
        exact ih (k - 1) (zup F k (F (k - 1))) (by omega) (by omega) (zup_b hF (hF _)) (by rw [← ht, insR_y (ph := photo τ) (m := m) (F := F) (k := k) (by omega) (by omega)]) (by omega)
set_option maxRecDepth 100000 in
set_option maxHeartbeats 2000000 in
/-- PvArrayModel.regroup, the loop at 2  -/
theorem lp_X6_sortO {D : va_G} {cy : Nat → ClassId} {l : Launch} {bd : Nat → Nat} {τ : Nat → Int → Int} {X : va_W} {st po st2 po2 : Int → Int} (hB : Bd τ) (hP : Pos τ st po) (h11 : ∀ j, 0 ≤ τ 11 j ∧ τ 11 j ≤ 23) (hO : off τ (τ 0 2) = τ 0 1) (hP2 : Pos (rs2 τ (sbR τ st (τ 0 1)) (srtM τ) (rg7 τ (srtM τ) (τ 0 2) 0)) st2 po2) : ∀ (n : Nat) (m : Int), 0 ≤ m → m ≤ τ 0 1 → (τ 0 1 - m).toNat < n → GO D cy l rm_X6_regroup cX6_regroup 4 yX6_regroup.cls (some .int) (MW cy bd τ ++ X) (rdI (sumP (fun i => if st2 i = st i then 0 else 1) (τ 0 1).toNat) (MW cy bd (rs2 τ (sbR τ st (τ 0 1)) (srtM τ) (rg7 τ (srtM τ) (τ 0 2) 0)) ++ X)) (MW cy bd (rs1 τ (sbR τ st m) (srtR (photo τ) m.toNat (τ 11))) ++ X) 2 [(0, .ref (bd 0)), (1, .int (zI m))] [] := by
  intro n
  induction n with
  | zero =>
    intro m hm hm2 hn
    exact absurd hn (Nat.not_lt_zero _)
  | succ n ih =>
    intro m hm hm2 hn
    have g1 := hB.sc
    have g2 := hB.mc
    refine g_iload_n (pc := 2) dX6_regroup_2 1 rfl ?_
    refine g_aload_n (pc := 3) dX6_regroup_3 0 rfl ?_
    refine g_get (pc := 4) (ci := 5) inG_X6 rfl 1 (by decide) rfl fl_X6_52 (0) am_obj rfl dX6_regroup_4 ?_
    refine g_topI (show (rs1 τ (sbR τ st m) (srtR (photo τ) m.toNat (τ 11))) 0 1 = τ 0 1 from rfl) ?_
    refine g_icmp_ge (pc := 7) 83 dX6_regroup_7 (by decide) (by omega) (by omega) (fun h_1 => ?_) (fun h_1 => ?_)
    · refine g_iconst (pc := 83) dX6_regroup_83 ?_
      refine g_istore_n (pc := 84) (lv' := [(1, .int (zI 0)), (0, .ref (bd 0))]) dX6_regroup_84 (by decide) rfl ?_
      refine g_iconst (pc := 85) dX6_regroup_85 ?_
      refine g_istore_n (pc := 86) (lv' := [(2, .int (zI 0)), (1, .int (zI 0)), (0, .ref (bd 0))]) dX6_regroup_86 (by decide) rfl ?_
      refine g_sub (lv' := [(0, .ref (bd 0)), (1, .int (zI 0)), (2, .int (zI 0))]) [2, 1, 0] rfl ?_
      refine g_world (w' := MW cy bd (rs2 τ (sbR τ st (τ 0 1)) (srtM τ) (rg7 τ (srtM τ) 0 0)) ++ X) (by rw [rg7_0, ← rs2_0, show m = τ 0 1 by omega]) ?_
      refine g_lv (lv' := [(0, .ref (bd 0)), (1, .int (zI (off τ 0))), (2, .int (zI 0))]) rfl ?_
      exact lp_X6_regO hB hP h11 hO hP2 ((τ 0 2).toNat + 1) 0 (by omega) (by omega) (by omega)
    · have g4 := hP.1 m hm (by omega)
      have g5 := hB.b6 (st m)
      refine g_aload_n (pc := 10) dX6_regroup_10 0 rfl ?_
      refine g_get (pc := 11) (ci := 5) inG_X6 rfl 18 (by decide) rfl fl_X6_45 (0) am_obj rfl dX6_regroup_11 ?_
      refine g_iload_n (pc := 14) dX6_regroup_14 1 rfl ?_
      refine g_aload_n (pc := 15) dX6_regroup_15 0 rfl ?_
      refine g_iload_n (pc := 16) dX6_regroup_16 1 rfl ?_
      refine g_callV (pc := 17) (As := [.int (zI m)]) (rest := [.int (zI m), .ref (bd 12)]) k_X6_73_X6 (c_X6_placeOf (τ := (rs1 τ (sbR τ st m) (srtR (photo τ) m.toNat (τ 11)))) (rs1_Bd hB _ _) (rs1_Pos hP _ _) m (show 0 ≤ m ∧ m < τ 0 1 by omega)) ⟨rfl, rfl, Nat.le_of_ble_eq_true rfl, Nat.le_of_ble_eq_true rfl⟩ (0) 5 rfl rfl am_obj rfl rfl (Nat.le_of_ble_eq_true rfl) dX6_regroup_17 (fun v_ w_ hq_ => ?_)
      obtain ⟨rfl, rfl⟩ := hq_
      refine g_one ?_
      refine g_bipush (pc := 20) dX6_regroup_20 (by omega) ?_
      refine g_idiv (pc := 22) dX6_regroup_22 (by omega) (by omega) ?_
      refine g_topI (show (12 * st m + po m) / 12 = st m by omega) ?_
      refine g_iast (pc := 23) 12 am_12 (by omega) (by decide) sm_12 dX6_regroup_23 ?_
      refine g_iload_n (pc := 24) dX6_regroup_24 1 rfl ?_
      refine g_istore_n (pc := 25) (lv' := [(2, .int (zI m)), (0, .ref (bd 0)), (1, .int (zI m))]) dX6_regroup_25 (by decide) rfl ?_
      refine g_sub (lv' := [(0, .ref (bd 0)), (1, .int (zI m)), (2, .int (zI m))]) [1, 2, 0] rfl ?_
      refine g_world (w' := MW cy bd (rs1 τ (sbR τ st (m + 1)) (srtR (photo τ) m.toNat (τ 11))) ++ X) (by rw [rs1_12, sbR_s _ _ hm]) ?_
      exact lp_X6_sortI hB hP h11 hO hP2 m (by omega) (srtR (photo τ) (m + 1).toNat (τ 11)) (ih (m + 1) (by omega) (by omega) (by omega)) (m.toNat + 1) m _ (by omega) (by omega) (srtR_b _ (by omega) h11) (by rw [srtR_s _ _ hm]) (by omega)
set_option maxRecDepth 100000 in
set_option maxHeartbeats 2000000 in
/-- PvArrayModel.regroup  -/
theorem c_X6_regroup {D : va_G} {cy : Nat → ClassId} {l : Launch} {bd : Nat → Nat} {τ : Nat → Int → Int} {X : va_W} {st po st2 po2 : Int → Int} (hB : Bd τ) (hP : Pos τ st po) (h11 : ∀ j, 0 ≤ τ 11 j ∧ τ 11 j ≤ 23) (hO : off τ (τ 0 2) = τ 0 1) (hP2 : Pos (rs2 τ (sbR τ st (τ 0 1)) (srtM τ) (rg7 τ (srtM τ) (τ 0 2) 0)) st2 po2) : Con D cy l yX6_regroup cX6_regroup 4 (some .int) rm_X6_regroup [.ref (bd 0)] (MW cy bd τ ++ X) (rdI (sumP (fun i => if st2 i = st i then 0 else 1) (τ 0 1).toNat) (MW cy bd (rs2 τ (sbR τ st (τ 0 1)) (srtM τ) (rg7 τ (srtM τ) (τ 0 2) 0)) ++ X)) := by
  refine Con.of (lv := [(0, .ref (bd 0))]) (by decide) (Nat.le_of_ble_eq_true rfl) rfl ?_
  have g1 := hB.sc
  have g2 := hB.mc
  refine g_iconst (pc := 0) dX6_regroup_0 ?_
  refine g_istore_n (pc := 1) (lv' := [(1, .int (zI 0)), (0, .ref (bd 0))]) dX6_regroup_1 (by decide) rfl ?_
  refine g_sub (lv' := [(0, .ref (bd 0)), (1, .int (zI 0))]) [1, 0] rfl ?_
  refine g_world (w' := MW cy bd (rs1 τ (sbR τ st 0) (srtR (photo τ) (0 : Int).toNat (τ 11))) ++ X) (by rw [show srtR (photo τ) (0 : Int).toNat (τ 11) = τ 11 from rfl, ← rs1_id]) ?_
  exact lp_X6_sortO hB hP h11 hO hP2 ((τ 0 1).toNat + 1) 0 (by omega) (by omega) (by omega)
