/-! places of modules -/
def plc (σ : Nat → Int → Int) (m s p : Int) : Nat → Int → Int := up (up (up σ 7 (12 * s + p) m) 9 m s) 10 m p
def plL (σ : Nat → Int → Int) (m s : Int) : Nat → Int → Int := up (plc σ m s (σ 6 s)) 6 s (σ 6 s + 1)
def exc (σ : Nat → Int → Int) (a b : Int) : Nat → Int → Int := plc (plc σ a (σ 9 b) (σ 10 b)) b (σ 9 a) (σ 10 a)
def shft (r : Int → Int) (a b : Int) : Int → Int := fun j => if a ≤ j ∧ j < b then r (j + 1) else r j
def tkP (σ : Nat → Int → Int) (s p0 p : Int) : Nat → Int → Int := setR (setR (setR σ 6 (zup (σ 6) s (σ 6 s - 1))) 7 (shft (σ 7) (12 * s + p0) (12 * s + p))) 10 (fun i => if σ 9 i = s ∧ p0 < σ 10 i ∧ σ 10 i ≤ p then σ 10 i - 1 else σ 10 i)
def Pos (g : Nat → Int → Int) (st po : Int → Int) : Prop :=
  (∀ i, 0 ≤ i → i < g 0 1 → (0 ≤ st i ∧ st i < g 0 2) ∧ (0 ≤ po i ∧ po i < g 6 (st i)) ∧ g 7 (12 * st i + po i) = i) ∧
  (∀ s p, 0 ≤ s → s < g 0 2 → 0 ≤ p → p < g 6 s → (0 ≤ g 7 (12 * s + p) ∧ g 7 (12 * s + p) < g 0 1) ∧ st (g 7 (12 * s + p)) = s ∧ po (g 7 (12 * s + p)) = p)
def Unu (σ : Nat → Int → Int) : Prop := ∀ i, i < 0 ∨ σ 0 1 ≤ i → σ 9 i = 0 ∧ σ 10 i = 0
theorem shft_0 (r : Int → Int) (a : Int) : shft r a a = r := by
  funext j
  unfold shft
  rw [if_neg (by omega)]
theorem shft_s (r : Int → Int) {a b : Int} (h : a ≤ b) : shft r a (b + 1) = zup (shft r a b) b (r (b + 1)) := by
  funext j
  unfold shft zup
  by_cases h1 : j = b
  · subst h1; rw [if_pos (by omega), if_pos rfl]
  · rw [if_neg h1]
    dsimp only
    by_cases h2 : a ≤ j ∧ j < b
    · rw [if_pos (by omega), if_pos h2]
    · rw [if_neg (by omega), if_neg h2]
theorem shft_at (r : Int → Int) {a b j : Int} (h : b ≤ j) : shft r a b j = r j := if_neg (by omega)
theorem tkP_0 (σ : Nat → Int → Int) (s p0 : Int) : up σ 6 s (σ 6 s - 1) = tkP σ s p0 p0 := by
  funext g
  unfold tkP
  rw [up_setR]
  by_cases h10 : g = 10
  · subst h10
    rw [setR_s, setR_o _ _ (by decide)]
    funext i
    rw [if_neg (by omega)]
  · rw [setR_o _ _ h10]
    by_cases h7 : g = 7
    · subst h7; rw [setR_s, shft_0]; rfl
    · rw [setR_o _ _ h7]
theorem tkP_s {σ : Nat → Int → Int} {s p0 p m : Int} (hp : p0 ≤ p) (hm : σ 7 (12 * s + p + 1) = m) (h9 : σ 9 m = s) (h10 : σ 10 m = p + 1) (hu : ∀ i, σ 9 i = s → σ 10 i = p + 1 → i = m) : plc (tkP σ s p0 p) m s p = tkP σ s p0 (p + 1) := by
  funext g
  unfold plc
  by_cases g10 : g = 10
  · subst g10
    rw [up_r, up_o _ _ _ (by decide), up_o _ _ _ (by decide)]
    unfold tkP
    rw [setR_s, setR_s]
    funext i
    unfold zup
    by_cases hi : i = m
    · subst hi; rw [if_pos rfl, if_pos (by omega)]; omega
    · rw [if_neg hi]
      dsimp only
      by_cases q : σ 9 i = s ∧ p0 < σ 10 i ∧ σ 10 i ≤ p
      · rw [if_pos q, if_pos (by omega)]
      · rw [if_neg q]
        by_cases q2 : σ 9 i = s ∧ p0 < σ 10 i ∧ σ 10 i ≤ p + 1
        · exact absurd (hu i q2.1 (by omega)) hi
        · rw [if_neg q2]
  · rw [up_o _ _ _ g10]
    by_cases g9 : g = 9
    · subst g9
      rw [up_r, up_o _ _ _ (by decide)]
      show zup (σ 9) m s = σ 9
      funext i
      unfold zup
      by_cases hi : i = m
      · subst hi; rw [if_pos rfl, h9]
      · rw [if_neg hi]
    · rw [up_o _ _ _ g9]
      by_cases g7 : g = 7
      · subst g7
        rw [up_r]
        show zup (shft (σ 7) (12 * s + p0) (12 * s + p)) (12 * s + p) m = shft (σ 7) (12 * s + p0) (12 * s + (p + 1))
        rw [show 12 * s + (p + 1) = 12 * s + p + 1 by omega, shft_s _ (by omega), hm]
      · rw [up_o _ _ _ g7]
        unfold tkP
        rw [setR_o _ _ g10, setR_o _ _ g7, setR_o _ _ g10, setR_o _ _ g7]
theorem pos_uniq {σ : Nat → Int → Int} (hP : Pos σ (σ 9) (σ 10)) (hU : Unu σ) {s p : Int} (hp : 0 ≤ p) : ∀ i, σ 9 i = s → σ 10 i = p + 1 → i = σ 7 (12 * s + p + 1) := by
  intro i q1 q2
  by_cases qi : 0 ≤ i ∧ i < σ 0 1
  · have q3 := (hP.1 i qi.1 qi.2).2.2
    rw [q1, q2, ← Int.add_assoc] at q3
    exact q3.symm
  · have q4 := hU i (by omega)
    omega
theorem tk6 (σ : Nat → Int → Int) (t p0 q s : Int) : tkP σ t p0 q 6 s = if s = t then σ 6 t - 1 else σ 6 s := rfl
theorem tk6_b {σ : Nat → Int → Int} {t s : Int} (p0 q : Int) (h1 : 1 ≤ σ 6 t ∧ σ 6 t ≤ 12) (h2 : 0 ≤ σ 6 s) (h3 : ¬ (¬ t = s ∧ 12 ≤ σ 6 s)) : 0 ≤ tkP σ t p0 q 6 s ∧ tkP σ t p0 q 6 s < 12 := by
  rw [tk6]
  split
  · omega
  · omega
theorem tk6_a {σ : Nat → Int → Int} {t s : Int} (p0 q : Int) : tkP σ t p0 q 6 s = if t = s then σ 6 s - 1 else σ 6 s := by
  rw [tk6]
  by_cases h : t = s
  · rw [if_pos h, if_pos h.symm, h]
  · rw [if_neg h, if_neg (fun q => h q.symm)]
def a_addMod (g : Nat → Int → Int) (s r o : Int) : Int := if 0 ≤ s ∧ s < g 0 2 then (if (1 ≤ r ∧ r ≤ 1000) ∧ (1 ≤ o ∧ o ≤ 600) then (if g 0 1 < 24 ∧ g 6 s < 12 then g 0 1 else -1004) else -1003) else -1001
def ok_addMod (g : Nat → Int → Int) (s r o : Int) : Prop := (0 ≤ s ∧ s < g 0 2) ∧ ((1 ≤ r ∧ r ≤ 1000) ∧ (1 ≤ o ∧ o ≤ 600)) ∧ g 0 1 < 24 ∧ g 6 s < 12
def n_addMod (σ : Nat → Int → Int) (s r o : Int) : Nat → Int → Int := plL (ilm (up (up (up σ 0 1 (σ 0 1 + 1)) 1 (σ 0 1) r) 2 (σ 0 1) o) (σ 0 1) 1000) (σ 0 1) s
def a_move (g : Nat → Int → Int) (st : Int → Int) (m s : Int) : Int := if 0 ≤ m ∧ m < g 0 1 then (if 0 ≤ s ∧ s < g 0 2 then (if ¬ st m = s ∧ 12 ≤ g 6 s then -1004 else (if st m = s then g 6 s - 1 else g 6 s)) else -1001) else -1002
def ok_move (g : Nat → Int → Int) (st : Int → Int) (m s : Int) : Prop := (0 ≤ m ∧ m < g 0 1) ∧ (0 ≤ s ∧ s < g 0 2) ∧ ¬ (¬ st m = s ∧ 12 ≤ g 6 s)
theorem a_move_ok {g : Nat → Int → Int} {st : Int → Int} {m s : Int} (h : ok_move g st m s) : a_move g st m s = if st m = s then g 6 s - 1 else g 6 s := by
  unfold ok_move at h
  unfold a_move
  rw [if_pos h.1, if_pos h.2.1, if_neg h.2.2]
def n_move (σ : Nat → Int → Int) (m s : Int) : Nat → Int → Int := plL (tkP σ (σ 9 m) (σ 10 m) (σ 6 (σ 9 m) - 1)) m s
def a_swap (g : Nat → Int → Int) (st : Int → Int) (a b : Int) : Int := if (0 ≤ a ∧ a < g 0 1) ∧ (0 ≤ b ∧ b < g 0 1) then (if st a = st b then 0 else 1) else -1002
def a_stringOf (g : Nat → Int → Int) (st : Int → Int) (m : Int) : Int := if 0 ≤ m ∧ m < g 0 1 then st m else -1002
/-- an end that is one of two: refused, or done -/
def rwI (c : Prop) (r r' : Int) (w w' : va_W) : Option Value → va_W → Prop := fun v u => (c ∧ v = some (.int (zI r)) ∧ u = w) ∨ (¬ c ∧ v = some (.int (zI r')) ∧ u = w')
theorem exc_9a (σ : Nat → Int → Int) (a b : Int) : exc σ a b 9 a = σ 9 b := by
  show zup (zup (σ 9) a (σ 9 b)) b (σ 9 a) a = σ 9 b
  unfold zup
  by_cases h : a = b
  · subst h; rw [if_pos rfl]
  · rw [if_neg h, if_pos rfl]
theorem exc_9b (σ : Nat → Int → Int) (a b : Int) : exc σ a b 9 b = σ 9 a := by
  show zup (zup (σ 9) a (σ 9 b)) b (σ 9 a) b = σ 9 a
  rw [zup_s]
set_option maxRecDepth 100000 in
set_option maxHeartbeats 2000000 in
/-- PvArray.place  -/
theorem c_X5_place {D : va_G} {cy : Nat → ClassId} {l : Launch} {ad : Nat → Nat} {σ : Nat → Int → Int} {X : va_W} (m : Int) (hm : 0 ≤ m ∧ m < 24) (s : Int) (hs : 0 ≤ s ∧ s < 6) (p : Int) (hp : 0 ≤ p ∧ p < 12) : Con D cy l yX5_place cX5_place 4 none rm_X5_place [.ref (ad 0), .int (zI m), .int (zI s), .int (zI p)] (CW cy ad σ ++ X) (wv (CW cy ad (plc σ m s p) ++ X)) := by
  refine Con.of (lv := [(0, .ref (ad 0)), (1, .int (zI m)), (2, .int (zI s)), (3, .int (zI p))]) (by decide) (Nat.le_of_ble_eq_true rfl) rfl ?_
  refine g_aload_n (pc := 0) dX5_place_0 0 rfl ?_
  refine g_get (pc := 1) (ci := 4) inG_X5 rfl 3 (by decide) rfl fl_X5_63 (0) at_arr rfl dX5_place_1 ?_
  refine g_iload_n (pc := 4) dX5_place_4 2 rfl ?_
  refine g_aald (pc := 5) 3 4 at_strs rfl (by omega) (by decide) rfl dX5_place_5 ?_
  refine g_getN (pc := 6) (ci := 3) inG_X4 rfl 1 (by decide) rfl fl_X5_123 (31 + s.toNat) (at_str (s := s) (by omega)) rfl dX5_place_6 ?_
  refine g_iload_n (pc := 9) dX5_place_9 3 rfl ?_
  refine g_iload_n (pc := 10) dX5_place_10 1 rfl ?_
  refine g_memst (pc := 11) (by omega) (by omega) dX5_place_11 ?_
  refine g_aload_n (pc := 12) dX5_place_12 0 rfl ?_
  refine g_get (pc := 13) (ci := 4) inG_X5 rfl 1 (by decide) rfl fl_X5_59 (0) at_arr rfl dX5_place_13 ?_
  refine g_iload_n (pc := 16) dX5_place_16 1 rfl ?_
  refine g_aald (pc := 17) 2 3 at_mods rfl (by omega) (by decide) rfl dX5_place_17 ?_
  refine g_iload_n (pc := 18) dX5_place_18 2 rfl ?_
  refine g_putN (pc := 19) (ci := 2) inG_X3 tyX3 tyX3_ok nmX3 rfl 7 (by decide) rfl rfl fl_X5_112 (7 + m.toNat) (at_mod (i := m) (by omega)) rfl rfl (Nat.le_of_ble_eq_true rfl) (st_9 (by omega)) dX5_place_19 ?_
  refine g_aload_n (pc := 22) dX5_place_22 0 rfl ?_
  refine g_get (pc := 23) (ci := 4) inG_X5 rfl 1 (by decide) rfl fl_X5_59 (0) at_arr rfl dX5_place_23 ?_
  refine g_iload_n (pc := 26) dX5_place_26 1 rfl ?_
  refine g_aald (pc := 27) 2 3 at_mods rfl (by omega) (by decide) rfl dX5_place_27 ?_
  refine g_iload_n (pc := 28) dX5_place_28 3 rfl ?_
  refine g_putN (pc := 29) (ci := 2) inG_X3 tyX3 tyX3_ok nmX3 rfl 8 (by decide) rfl rfl fl_X5_185 (7 + m.toNat) (at_mod (i := m) (by omega)) rfl rfl (Nat.le_of_ble_eq_true rfl) (st_10 (by omega)) dX5_place_29 ?_
  exact g_vret (pc := 32) dX5_place_32 rfl (wv_of rfl)
set_option maxRecDepth 100000 in
set_option maxHeartbeats 2000000 in
/-- PvArray.putLast  -/
theorem c_X5_putLast {D : va_G} {cy : Nat → ClassId} {l : Launch} {ad : Nat → Nat} {σ : Nat → Int → Int} {X : va_W} (m : Int) (hm : 0 ≤ m ∧ m < 24) (s : Int) (hs : 0 ≤ s ∧ s < 6) (hc : 0 ≤ σ 6 s ∧ σ 6 s < 12) : Con D cy l yX5_putLast cX5_putLast 4 (some .int) rm_X5_putLast [.ref (ad 0), .int (zI m), .int (zI s)] (CW cy ad σ ++ X) (rdI (σ 6 s) (CW cy ad (plL σ m s) ++ X)) := by
  refine Con.of (lv := [(0, .ref (ad 0)), (1, .int (zI m)), (2, .int (zI s))]) (by decide) (Nat.le_of_ble_eq_true rfl) rfl ?_
  refine g_aload_n (pc := 0) dX5_putLast_0 0 rfl ?_
  refine g_get (pc := 1) (ci := 4) inG_X5 rfl 3 (by decide) rfl fl_X5_63 (0) at_arr rfl dX5_putLast_1 ?_
  refine g_iload_n (pc := 4) dX5_putLast_4 2 rfl ?_
  refine g_aald (pc := 5) 3 4 at_strs rfl (by omega) (by decide) rfl dX5_putLast_5 ?_
  refine g_getN (pc := 6) (ci := 3) inG_X4 rfl 2 (by decide) rfl fl_X5_122 (31 + s.toNat) (at_str (s := s) (by omega)) rfl dX5_putLast_6 ?_
  refine g_istore_n (pc := 9) (lv' := [(3, .int (zI (σ 6 s))), (0, .ref (ad 0)), (1, .int (zI m)), (2, .int (zI s))]) dX5_putLast_9 (by decide) rfl ?_
  refine g_aload_n (pc := 10) dX5_putLast_10 1 rfl ?_
  refine g_iload_n (pc := 11) dX5_putLast_11 2 rfl ?_
  refine g_iload_n (pc := 12) dX5_putLast_12 3 rfl ?_
  refine g_iload_n (pc := 13) dX5_putLast_13 0 rfl ?_
  refine g_callV (pc := 14) (As := [.int (zI m), .int (zI s), .int (zI (σ 6 s))]) (rest := []) k_X5_181_X5 (c_X5_place (σ := σ) m (by omega) s (by omega) (σ 6 s) (by omega)) ⟨rfl, rfl, Nat.le_of_ble_eq_true rfl, Nat.le_of_ble_eq_true rfl⟩ (0) 4 rfl rfl at_arr rfl rfl (Nat.le_of_ble_eq_true rfl) dX5_putLast_14 (fun v_ w_ hq_ => ?_)
  obtain ⟨rfl, rfl⟩ := hq_
  refine g_none ?_
  refine g_aload_n (pc := 17) dX5_putLast_17 1 rfl ?_
  refine g_get (pc := 18) (ci := 4) inG_X5 rfl 3 (by decide) rfl fl_X5_63 (0) at_arr rfl dX5_putLast_18 ?_
  refine g_iload_n (pc := 21) dX5_putLast_21 3 rfl ?_
  refine g_aald (pc := 22) 3 4 at_strs rfl (by omega) (by decide) rfl dX5_putLast_22 ?_
  refine g_dup (pc := 23) dX5_putLast_23 rfl ?_
  refine g_getN (pc := 24) (ci := 3) inG_X4 rfl 2 (by decide) rfl fl_X5_122 (31 + s.toNat) (at_str (s := s) (by omega)) rfl dX5_putLast_24 ?_
  refine g_topI (show plc σ m s (σ 6 s) 6 s = σ 6 s from rfl) ?_
  refine g_iconst (pc := 27) dX5_putLast_27 ?_
  refine g_iadd (pc := 28) dX5_putLast_28 ?_
  refine g_putN (pc := 29) (ci := 3) inG_X4 tyX4 tyX4_ok nmX4 rfl 2 (by decide) rfl rfl fl_X5_122 (31 + s.toNat) (at_str (s := s) (by omega)) rfl rfl (Nat.le_of_ble_eq_true rfl) (st_6 (by omega)) dX5_putLast_29 ?_
  refine g_iload_n (pc := 32) dX5_putLast_32 0 rfl ?_
  exact g_iret (pc := 33) dX5_putLast_33 rfl (wr_of rfl rfl)
set_option maxRecDepth 100000 in
set_option maxHeartbeats 2000000 in
/-- PvArray.takeOut, the loop at 38  -/
theorem lp_X5_takeOut {D : va_G} {cy : Nat → ClassId} {l : Launch} {ad : Nat → Nat} {σ : Nat → Int → Int} {X : va_W} (hB : Bd σ) (hP : Pos σ (σ 9) (σ 10)) (hU : Unu σ) (m : Int) (hm : 0 ≤ m ∧ m < σ 0 1) : ∀ (n : Nat) (p : Int), σ 10 m ≤ p → p ≤ σ 6 (σ 9 m) - 1 → (σ 6 (σ 9 m) - 1 - p).toNat < n → GO D cy l rm_X5_takeOut cX5_takeOut 5 yX5_takeOut.cls none (CW cy ad σ ++ X) (wv (CW cy ad (tkP σ (σ 9 m) (σ 10 m) (σ 6 (σ 9 m) - 1)) ++ X)) (CW cy ad (tkP σ (σ 9 m) (σ 10 m) p) ++ X) 38 [(0, .ref (ad 0)), (1, .int (zI m)), (2, .int (zI (σ 9 m))), (3, .ref (ad (31 + (σ 9 m).toNat))), (4, .int (zI p))] [] := by
  intro n
  induction n with
  | zero =>
    intro p hp hp2 hn
    exact absurd hn (Nat.not_lt_zero _)
  | succ n ih =>
    intro p hp hp2 hn
    have g1 := hB.sc
    have g2 := hB.mc
    have g3 := hP.1 m hm.1 hm.2
    have g4 := hB.b6 (σ 9 m)
    refine g_iload (pc := 38) dX5_takeOut_38 4 rfl ?_
    refine g_aload_n (pc := 40) dX5_takeOut_40 3 rfl ?_
    refine g_getN (pc := 41) (ci := 3) inG_X4 rfl 2 (by decide) rfl fl_X5_122 (31 + (σ 9 m).toNat) (at_str (s := (σ 9 m)) (by omega)) rfl dX5_takeOut_41 ?_
    refine g_topI (show (tkP σ (σ 9 m) (σ 10 m) p) 6 (σ 9 m) = σ 6 (σ 9 m) - 1 from zup_s _ _ _) ?_
    refine g_icmp_ge (pc := 44) 69 dX5_takeOut_44 (by decide) (by omega) (by omega) (fun h_1 => ?_) (fun h_1 => ?_)
    · exact g_vret (pc := 69) dX5_takeOut_69 rfl (wv_of (by rw [show p = σ 6 (σ 9 m) - 1 by omega]))
    · have g5 : (0 ≤ σ 7 (12 * σ 9 m + p + 1) ∧ σ 7 (12 * σ 9 m + p + 1) < σ 0 1) ∧ σ 9 (σ 7 (12 * σ 9 m + p + 1)) = σ 9 m ∧ σ 10 (σ 7 (12 * σ 9 m + p + 1)) = p + 1 := by have q := hP.2 (σ 9 m) (p + 1) (by omega) (by omega) (by omega) (by omega); rw [← Int.add_assoc] at q; exact q
      refine g_aload_n (pc := 47) dX5_takeOut_47 0 rfl ?_
      refine g_aload_n (pc := 48) dX5_takeOut_48 3 rfl ?_
      refine g_getN (pc := 49) (ci := 3) inG_X4 rfl 1 (by decide) rfl fl_X5_123 (31 + (σ 9 m).toNat) (at_str (s := (σ 9 m)) (by omega)) rfl dX5_takeOut_49 ?_
      refine g_iload (pc := 52) dX5_takeOut_52 4 rfl ?_
      refine g_iconst (pc := 54) dX5_takeOut_54 ?_
      refine g_iadd (pc := 55) dX5_takeOut_55 ?_
      refine g_mem (pc := 56) (by omega) (by omega) dX5_takeOut_56 ?_
      refine g_topI (show (tkP σ (σ 9 m) (σ 10 m) p) 7 (12 * σ 9 m + (p + 1)) = σ 7 (12 * σ 9 m + p + 1) by rw [← Int.add_assoc]; exact shft_at _ (by omega)) ?_
      refine g_iload_n (pc := 57) dX5_takeOut_57 2 rfl ?_
      refine g_iload (pc := 58) dX5_takeOut_58 4 rfl ?_
      refine g_callV (pc := 60) (As := [.int (zI (σ 7 (12 * σ 9 m + p + 1))), .int (zI (σ 9 m)), .int (zI p)]) (rest := []) k_X5_181_X5 (c_X5_place (σ := (tkP σ (σ 9 m) (σ 10 m) p)) (σ 7 (12 * σ 9 m + p + 1)) (by omega) (σ 9 m) (by omega) p (by omega)) ⟨rfl, rfl, Nat.le_of_ble_eq_true rfl, Nat.le_of_ble_eq_true rfl⟩ (0) 4 rfl rfl at_arr rfl rfl (Nat.le_of_ble_eq_true rfl) dX5_takeOut_60 (fun v_ w_ hq_ => ?_)
      obtain ⟨rfl, rfl⟩ := hq_
      refine g_none ?_
      refine g_iinc (pc := 63) (lv' := [(4, .int (zI (p + 1))), (0, .ref (ad 0)), (1, .int (zI m)), (2, .int (zI (σ 9 m))), (3, .ref (ad (31 + (σ 9 m).toNat)))]) dX5_takeOut_63 (by decide) 4 rfl rfl ?_
      refine g_goto (pc := 66) 38 dX5_takeOut_66 (by decide) ?_
      refine g_sub (lv' := [(0, .ref (ad 0)), (1, .int (zI m)), (2, .int (zI (σ 9 m))), (3, .ref (ad (31 + (σ 9 m).toNat))), (4, .int (zI (p + 1)))]) [1, 2, 3, 4, 0] rfl ?_
      refine g_world (w' := CW cy ad (tkP σ (σ 9 m) (σ 10 m) (p + 1)) ++ X) (by rw [← tkP_s (m := σ 7 (12 * σ 9 m + p + 1)) hp rfl g5.2.1 g5.2.2 (pos_uniq hP hU (by omega))]) ?_
      exact ih (p + 1) (by omega) (by omega) (by omega)
set_option maxRecDepth 100000 in
set_option maxHeartbeats 2000000 in
/-- PvArray.takeOut  -/
theorem c_X5_takeOut {D : va_G} {cy : Nat → ClassId} {l : Launch} {ad : Nat → Nat} {σ : Nat → Int → Int} {X : va_W} (hB : Bd σ) (hP : Pos σ (σ 9) (σ 10)) (hU : Unu σ) (m : Int) (hm : 0 ≤ m ∧ m < σ 0 1) : Con D cy l yX5_takeOut cX5_takeOut 5 none rm_X5_takeOut [.ref (ad 0), .int (zI m)] (CW cy ad σ ++ X) (wv (CW cy ad (tkP σ (σ 9 m) (σ 10 m) (σ 6 (σ 9 m) - 1)) ++ X)) := by
  refine Con.of (lv := [(0, .ref (ad 0)), (1, .int (zI m))]) (by decide) (Nat.le_of_ble_eq_true rfl) rfl ?_
  have g1 := hB.sc
  have g2 := hB.mc
  have g3 := hP.1 m hm.1 hm.2
  have g4 := hB.b6 (σ 9 m)
  refine g_aload_n (pc := 0) dX5_takeOut_0 0 rfl ?_
  refine g_get (pc := 1) (ci := 4) inG_X5 rfl 1 (by decide) rfl fl_X5_59 (0) at_arr rfl dX5_takeOut_1 ?_
  refine g_iload_n (pc := 4) dX5_takeOut_4 1 rfl ?_
  refine g_aald (pc := 5) 2 3 at_mods rfl (by omega) (by decide) rfl dX5_takeOut_5 ?_
  refine g_getN (pc := 6) (ci := 2) inG_X3 rfl 7 (by decide) rfl fl_X5_112 (7 + m.toNat) (at_mod (i := m) (by omega)) rfl dX5_takeOut_6 ?_
  refine g_istore_n (pc := 9) (lv' := [(2, .int (zI (σ 9 m))), (0, .ref (ad 0)), (1, .int (zI m))]) dX5_takeOut_9 (by decide) rfl ?_
  refine g_aload_n (pc := 10) dX5_takeOut_10 1 rfl ?_
  refine g_get (pc := 11) (ci := 4) inG_X5 rfl 3 (by decide) rfl fl_X5_63 (0) at_arr rfl dX5_takeOut_11 ?_
  refine g_iload_n (pc := 14) dX5_takeOut_14 0 rfl ?_
  refine g_aald (pc := 15) 3 4 at_strs rfl (by omega) (by decide) rfl dX5_takeOut_15 ?_
  refine g_astore_n (pc := 16) (lv' := [(3, .ref (ad (31 + (σ 9 m).toNat))), (2, .int (zI (σ 9 m))), (0, .ref (ad 0)), (1, .int (zI m))]) dX5_takeOut_16 (by decide) rfl ?_
  refine g_aload_n (pc := 17) dX5_takeOut_17 0 rfl ?_
  refine g_dup (pc := 18) dX5_takeOut_18 rfl ?_
  refine g_getN (pc := 19) (ci := 3) inG_X4 rfl 2 (by decide) rfl fl_X5_122 (31 + (σ 9 m).toNat) (at_str (s := (σ 9 m)) (by omega)) rfl dX5_takeOut_19 ?_
  refine g_iconst (pc := 22) dX5_takeOut_22 ?_
  refine g_isub (pc := 23) dX5_takeOut_23 ?_
  refine g_putN (pc := 24) (ci := 3) inG_X4 tyX4 tyX4_ok nmX4 rfl 2 (by decide) rfl rfl fl_X5_122 (31 + (σ 9 m).toNat) (at_str (s := (σ 9 m)) (by omega)) rfl rfl (Nat.le_of_ble_eq_true rfl) (st_6 (by omega)) dX5_takeOut_24 ?_
  refine g_aload_n (pc := 27) dX5_takeOut_27 2 rfl ?_
  refine g_get (pc := 28) (ci := 4) inG_X5 rfl 1 (by decide) rfl fl_X5_59 (0) at_arr rfl dX5_takeOut_28 ?_
  refine g_iload_n (pc := 31) dX5_takeOut_31 3 rfl ?_
  refine g_aald (pc := 32) 2 3 at_mods rfl (by omega) (by decide) rfl dX5_takeOut_32 ?_
  refine g_getN (pc := 33) (ci := 2) inG_X3 rfl 8 (by decide) rfl fl_X5_185 (7 + m.toNat) (at_mod (i := m) (by omega)) rfl dX5_takeOut_33 ?_
  refine g_topI (show up σ 6 (σ 9 m) (σ 6 (σ 9 m) - 1) 10 m = σ 10 m from rfl) ?_
  refine g_istore (pc := 36) (lv' := [(4, .int (zI (σ 10 m))), (3, .ref (ad (31 + (σ 9 m).toNat))), (2, .int (zI (σ 9 m))), (0, .ref (ad 0)), (1, .int (zI m))]) dX5_takeOut_36 (by decide) rfl ?_
  refine g_sub (lv' := [(0, .ref (ad 0)), (1, .int (zI m)), (2, .int (zI (σ 9 m))), (3, .ref (ad (31 + (σ 9 m).toNat))), (4, .int (zI (σ 10 m)))]) [3, 4, 2, 1, 0] rfl ?_
  refine g_world (w' := CW cy ad (tkP σ (σ 9 m) (σ 10 m) (σ 10 m)) ++ X) (by rw [← tkP_0]) ?_
  exact lp_X5_takeOut hB hP hU m hm ((σ 6 (σ 9 m)).toNat + 1) (σ 10 m) (by omega) (by omega) (by omega)
set_option maxRecDepth 100000 in
set_option maxHeartbeats 2000000 in
/-- PvArray.exchange  -/
theorem c_X5_exchange {D : va_G} {cy : Nat → ClassId} {l : Launch} {ad : Nat → Nat} {σ : Nat → Int → Int} {X : va_W} (hB : Bd σ) (hP : Pos σ (σ 9) (σ 10)) (a : Int) (ha : 0 ≤ a ∧ a < σ 0 1) (b : Int) (hb : 0 ≤ b ∧ b < σ 0 1) : Con D cy l yX5_exchange cX5_exchange 5 none rm_X5_exchange [.ref (ad 0), .int (zI a), .int (zI b)] (CW cy ad σ ++ X) (wv (CW cy ad (exc σ a b) ++ X)) := by
  refine Con.of (lv := [(0, .ref (ad 0)), (1, .int (zI a)), (2, .int (zI b))]) (by decide) (Nat.le_of_ble_eq_true rfl) rfl ?_
  have g1 := hB.sc
  have g2 := hB.mc
  have g3 := hP.1 a ha.1 ha.2
  have g4 := hP.1 b hb.1 hb.2
  have g5 := hB.b6 (σ 9 a)
  have g6 := hB.b6 (σ 9 b)
  refine g_aload_n (pc := 0) dX5_exchange_0 0 rfl ?_
  refine g_get (pc := 1) (ci := 4) inG_X5 rfl 1 (by decide) rfl fl_X5_59 (0) at_arr rfl dX5_exchange_1 ?_
  refine g_iload_n (pc := 4) dX5_exchange_4 1 rfl ?_
  refine g_aald (pc := 5) 2 3 at_mods rfl (by omega) (by decide) rfl dX5_exchange_5 ?_
  refine g_getN (pc := 6) (ci := 2) inG_X3 rfl 7 (by decide) rfl fl_X5_112 (7 + a.toNat) (at_mod (i := a) (by omega)) rfl dX5_exchange_6 ?_
  refine g_istore_n (pc := 9) (lv' := [(3, .int (zI (σ 9 a))), (0, .ref (ad 0)), (1, .int (zI a)), (2, .int (zI b))]) dX5_exchange_9 (by decide) rfl ?_
  refine g_aload_n (pc := 10) dX5_exchange_10 1 rfl ?_
  refine g_get (pc := 11) (ci := 4) inG_X5 rfl 1 (by decide) rfl fl_X5_59 (0) at_arr rfl dX5_exchange_11 ?_
  refine g_iload_n (pc := 14) dX5_exchange_14 2 rfl ?_
  refine g_aald (pc := 15) 2 3 at_mods rfl (by omega) (by decide) rfl dX5_exchange_15 ?_
  refine g_getN (pc := 16) (ci := 2) inG_X3 rfl 8 (by decide) rfl fl_X5_185 (7 + a.toNat) (at_mod (i := a) (by omega)) rfl dX5_exchange_16 ?_
  refine g_istore (pc := 19) (lv' := [(4, .int (zI (σ 10 a))), (3, .int (zI (σ 9 a))), (0, .ref (ad 0)), (1, .int (zI a)), (2, .int (zI b))]) dX5_exchange_19 (by decide) rfl ?_
  refine g_aload_n (pc := 21) dX5_exchange_21 2 rfl ?_
  refine g_iload_n (pc := 22) dX5_exchange_22 3 rfl ?_
  refine g_aload_n (pc := 23) dX5_exchange_23 2 rfl ?_
  refine g_get (pc := 24) (ci := 4) inG_X5 rfl 1 (by decide) rfl fl_X5_59 (0) at_arr rfl dX5_exchange_24 ?_
  refine g_iload_n (pc := 27) dX5_exchange_27 4 rfl ?_
  refine g_aald (pc := 28) 2 3 at_mods rfl (by omega) (by decide) rfl dX5_exchange_28 ?_
  refine g_getN (pc := 29) (ci := 2) inG_X3 rfl 7 (by decide) rfl fl_X5_112 (7 + b.toNat) (at_mod (i := b) (by omega)) rfl dX5_exchange_29 ?_
  refine g_aload_n (pc := 32) dX5_exchange_32 2 rfl ?_
  refine g_get (pc := 33) (ci := 4) inG_X5 rfl 1 (by decide) rfl fl_X5_59 (0) at_arr rfl dX5_exchange_33 ?_
  refine g_iload_n (pc := 36) dX5_exchange_36 4 rfl ?_
  refine g_aald (pc := 37) 2 3 at_mods rfl (by omega) (by decide) rfl dX5_exchange_37 ?_
  refine g_getN (pc := 38) (ci := 2) inG_X3 rfl 8 (by decide) rfl fl_X5_185 (7 + b.toNat) (at_mod (i := b) (by omega)) rfl dX5_exchange_38 ?_
  refine g_callV (pc := 41) (As := [.int (zI a), .int (zI (σ 9 b)), .int (zI (σ 10 b))]) (rest := []) k_X5_181_X5 (c_X5_place (σ := σ) a (by omega) (σ 9 b) (by omega) (σ 10 b) (by omega)) ⟨rfl, rfl, Nat.le_of_ble_eq_true rfl, Nat.le_of_ble_eq_true rfl⟩ (0) 4 rfl rfl at_arr rfl rfl (Nat.le_of_ble_eq_true rfl) dX5_exchange_41 (fun v_ w_ hq_ => ?_)
  obtain ⟨rfl, rfl⟩ := hq_
  refine g_none ?_
  refine g_aload_n (pc := 44) dX5_exchange_44 2 rfl ?_
  refine g_iload_n (pc := 45) dX5_exchange_45 4 rfl ?_
  refine g_iload_n (pc := 46) dX5_exchange_46 1 rfl ?_
  refine g_iload (pc := 47) dX5_exchange_47 0 rfl ?_
  refine g_callV (pc := 49) (As := [.int (zI b), .int (zI (σ 9 a)), .int (zI (σ 10 a))]) (rest := []) k_X5_181_X5 (c_X5_place (σ := (plc σ a (σ 9 b) (σ 10 b))) b (by omega) (σ 9 a) (by omega) (σ 10 a) (by omega)) ⟨rfl, rfl, Nat.le_of_ble_eq_true rfl, Nat.le_of_ble_eq_true rfl⟩ (0) 4 rfl rfl at_arr rfl rfl (Nat.le_of_ble_eq_true rfl) dX5_exchange_49 (fun v_ w_ hq_ => ?_)
  obtain ⟨rfl, rfl⟩ := hq_
  refine g_none ?_
  exact g_vret (pc := 52) dX5_exchange_52 rfl (wv_of rfl)
set_option maxRecDepth 100000 in
set_option maxHeartbeats 2000000 in
/-- PvArray.stringOf  -/
theorem c_X5_stringOf {D : va_G} {cy : Nat → ClassId} {l : Launch} {ad : Nat → Nat} {σ : Nat → Int → Int} {X : va_W} (hB : Bd σ) (m : Int) (hm : -2147483648 ≤ m ∧ m ≤ 2147483647) : Con D cy l yX5_stringOf cX5_stringOf 2 (some .int) rm_X5_stringOf [.ref (ad 0), .int (zI m)] (CW cy ad σ ++ X) (rdI (a_stringOf σ (σ 9) m) (CW cy ad σ ++ X)) := by
  refine Con.of (lv := [(0, .ref (ad 0)), (1, .int (zI m))]) (by decide) (Nat.le_of_ble_eq_true rfl) rfl ?_
  have g1 := hB.sc
  have g2 := hB.mc
  refine g_aload_n (pc := 0) dX5_stringOf_0 0 rfl ?_
  refine g_iload_n (pc := 1) dX5_stringOf_1 1 rfl ?_
  refine g_callV (pc := 2) (As := [.int (zI m)]) (rest := []) k_X5_96_X5 (c_X5_isModule (σ := σ) hB m (by omega)) ⟨rfl, rfl, Nat.le_of_ble_eq_true rfl, Nat.le_of_ble_eq_true rfl⟩ (0) 4 rfl rfl at_arr rfl rfl (Nat.le_of_ble_eq_true rfl) dX5_stringOf_2 (fun v_ w_ hq_ => ?_)
  rcases hq_ with ⟨rfl, rfl, hm_1⟩ | ⟨rfl, rfl, hm_1⟩
  · refine g_one ?_
    refine g_if_eqF (pc := 5) 20 dX5_stringOf_5 (by decide) (by omega) (by omega) ?_
    refine g_aload_n (pc := 8) dX5_stringOf_8 0 rfl ?_
    refine g_get (pc := 9) (ci := 4) inG_X5 rfl 1 (by decide) rfl fl_X5_59 (0) at_arr rfl dX5_stringOf_9 ?_
    refine g_iload_n (pc := 12) dX5_stringOf_12 1 rfl ?_
    refine g_aald (pc := 13) 2 3 at_mods rfl (by omega) (by decide) rfl dX5_stringOf_13 ?_
    refine g_getN (pc := 14) (ci := 2) inG_X3 rfl 7 (by decide) rfl fl_X5_112 (7 + m.toNat) (at_mod (i := m) (by omega)) rfl dX5_stringOf_14 ?_
    refine g_goto (pc := 17) 23 dX5_stringOf_17 (by decide) ?_
    exact g_iret (pc := 23) dX5_stringOf_23 rfl (rdI_of (by unfold a_stringOf; (repeat' split) <;> first | rfl | (exfalso; omega)))
  · refine g_one ?_
    refine g_if_eqT (pc := 5) 20 dX5_stringOf_5 (by decide) (by omega) (by omega) ?_
    refine g_sipush (pc := 20) dX5_stringOf_20 (by omega) ?_
    exact g_iret (pc := 23) dX5_stringOf_23 rfl (rdI_of (by unfold a_stringOf; (repeat' split) <;> first | rfl | (exfalso; omega)))
set_option maxRecDepth 100000 in
set_option maxHeartbeats 2000000 in
/-- PvArray.addModule  -/
theorem c_X5_addModule {D : va_G} {cy : Nat → ClassId} {l : Launch} {ad : Nat → Nat} {σ : Nat → Int → Int} {X : va_W} (hB : Bd σ) (s : Int) (hs : -2147483648 ≤ s ∧ s ≤ 2147483647) (r : Int) (hr : -2147483648 ≤ r ∧ r ≤ 2147483647) (o : Int) (ho : -2147483648 ≤ o ∧ o ≤ 2147483647) : Con D cy l yX5_addModule cX5_addModule 5 (some .int) rm_X5_addModule [.ref (ad 0), .int (zI s), .int (zI r), .int (zI o)] (CW cy ad σ ++ X) (rwI (ok_addMod σ s r o) (a_addMod σ s r o) (a_addMod σ s r o) (CW cy ad (n_addMod σ s r o) ++ X) (CW cy ad σ ++ X)) := by
  refine Con.of (lv := [(0, .ref (ad 0)), (1, .int (zI s)), (2, .int (zI r)), (3, .int (zI o))]) (by decide) (Nat.le_of_ble_eq_true rfl) rfl ?_
  have g1 := hB.sc
  have g2 := hB.mc
  have g3 := hB.b6 s
  refine g_aload_n (pc := 0) dX5_addModule_0 0 rfl ?_
  refine g_iload_n (pc := 1) dX5_addModule_1 1 rfl ?_
  refine g_callV (pc := 2) (As := [.int (zI s)]) (rest := []) k_X5_70_X5 (c_X5_isString (σ := σ) hB s (by omega)) ⟨rfl, rfl, Nat.le_of_ble_eq_true rfl, Nat.le_of_ble_eq_true rfl⟩ (0) 4 rfl rfl at_arr rfl rfl (Nat.le_of_ble_eq_true rfl) dX5_addModule_2 (fun v_ w_ hq_ => ?_)
  rcases hq_ with ⟨rfl, rfl, hs_1⟩ | ⟨rfl, rfl, hs_1⟩
  · refine g_one ?_
    refine g_if_neT (pc := 5) 12 dX5_addModule_5 (by decide) (by omega) (by omega) ?_
    refine g_iload_n (pc := 12) dX5_addModule_12 2 rfl ?_
    refine g_iconst (pc := 13) dX5_addModule_13 ?_
    refine g_sipush (pc := 14) dX5_addModule_14 (by omega) ?_
    refine g_callS (pc := 17) (As := [.int (zI r), .int (zI 1), .int (zI 1000)]) (rest := []) k_X5_74_X5 (c_X5_isWithin (σ := σ) r 1 1000 (by omega) (by omega) (by omega)) ⟨rfl, rfl, Nat.le_of_ble_eq_true rfl, Nat.le_of_ble_eq_true rfl⟩ rfl rfl (Nat.le_of_ble_eq_true rfl) dX5_addModule_17 (fun v_ w_ hq_ => ?_)
    rcases hq_ with ⟨rfl, rfl, hw_2⟩ | ⟨rfl, rfl, hw_2⟩
    · refine g_one ?_
      refine g_if_eqF (pc := 20) 34 dX5_addModule_20 (by decide) (by omega) (by omega) ?_
      refine g_iload_n (pc := 23) dX5_addModule_23 3 rfl ?_
      refine g_iconst (pc := 24) dX5_addModule_24 ?_
      refine g_sipush (pc := 25) dX5_addModule_25 (by omega) ?_
      refine g_callS (pc := 28) (As := [.int (zI o), .int (zI 1), .int (zI 600)]) (rest := []) k_X5_74_X5 (c_X5_isWithin (σ := σ) o 1 600 (by omega) (by omega) (by omega)) ⟨rfl, rfl, Nat.le_of_ble_eq_true rfl, Nat.le_of_ble_eq_true rfl⟩ rfl rfl (Nat.le_of_ble_eq_true rfl) dX5_addModule_28 (fun v_ w_ hq_ => ?_)
      rcases hq_ with ⟨rfl, rfl, hw_3⟩ | ⟨rfl, rfl, hw_3⟩
      · refine g_one ?_
        refine g_if_neT (pc := 31) 38 dX5_addModule_31 (by decide) (by omega) (by omega) ?_
        refine g_aload_n (pc := 38) dX5_addModule_38 0 rfl ?_
        refine g_get (pc := 39) (ci := 4) inG_X5 rfl 2 (by decide) rfl fl_X5_9 (0) at_arr rfl dX5_addModule_39 ?_
        refine g_bipush (pc := 42) dX5_addModule_42 (by omega) ?_
        refine g_icmp_ge (pc := 44) 59 dX5_addModule_44 (by decide) (by omega) (by omega) (fun h_4 => ?_) (fun h_4 => ?_)
        · refine g_sipush (pc := 59) dX5_addModule_59 (by omega) ?_
          exact g_iret (pc := 62) dX5_addModule_62 rfl (Or.inr ⟨by unfold ok_addMod; omega, by unfold a_addMod; (repeat' split) <;> first | rfl | (exfalso; omega), rfl⟩)
        · refine g_aload_n (pc := 47) dX5_addModule_47 0 rfl ?_
          refine g_get (pc := 48) (ci := 4) inG_X5 rfl 3 (by decide) rfl fl_X5_63 (0) at_arr rfl dX5_addModule_48 ?_
          refine g_iload_n (pc := 51) dX5_addModule_51 1 rfl ?_
          refine g_aald (pc := 52) 3 4 at_strs rfl (by omega) (by decide) rfl dX5_addModule_52 ?_
          refine g_callN (pc := 53) (As := []) (rest := []) k_X5_78_X4 (c_X4_isFull (σ := σ) hB s (by omega)) ⟨rfl, rfl, Nat.le_of_ble_eq_true rfl, Nat.le_of_ble_eq_true rfl⟩ (31 + s.toNat) 3 rfl rfl (at_str (s := s) (by omega)) rfl rfl (Nat.le_of_ble_eq_true rfl) dX5_addModule_53 (fun v_ w_ hq_ => ?_)
          rcases hq_ with ⟨rfl, rfl, hf_5⟩ | ⟨rfl, rfl, hf_5⟩
          · refine g_one ?_
            refine g_if_eqF (pc := 56) 63 dX5_addModule_56 (by decide) (by omega) (by omega) ?_
            refine g_sipush (pc := 59) dX5_addModule_59 (by omega) ?_
            exact g_iret (pc := 62) dX5_addModule_62 rfl (Or.inr ⟨by unfold ok_addMod; omega, by unfold a_addMod; (repeat' split) <;> first | rfl | (exfalso; omega), rfl⟩)
          · refine g_one ?_
            refine g_if_eqT (pc := 56) 63 dX5_addModule_56 (by decide) (by omega) (by omega) ?_
            refine g_aload_n (pc := 63) dX5_addModule_63 0 rfl ?_
            refine g_get (pc := 64) (ci := 4) inG_X5 rfl 2 (by decide) rfl fl_X5_9 (0) at_arr rfl dX5_addModule_64 ?_
            refine g_istore (pc := 67) (lv' := [(4, .int (zI (σ 0 1))), (0, .ref (ad 0)), (1, .int (zI s)), (2, .int (zI r)), (3, .int (zI o))]) dX5_addModule_67 (by decide) rfl ?_
            refine g_aload_n (pc := 69) dX5_addModule_69 1 rfl ?_
            refine g_dup (pc := 70) dX5_addModule_70 rfl ?_
            refine g_get (pc := 71) (ci := 4) inG_X5 rfl 2 (by decide) rfl fl_X5_9 (0) at_arr rfl dX5_addModule_71 ?_
            refine g_iconst (pc := 74) dX5_addModule_74 ?_
            refine g_iadd (pc := 75) dX5_addModule_75 ?_
            refine g_put (pc := 76) (ci := 4) inG_X5 tyX5 tyX5_ok nmX5 rfl 2 (by decide) rfl rfl fl_X5_9 (0) at_arr rfl rfl (Nat.le_of_ble_eq_true rfl) st_0_1 dX5_addModule_76 ?_
            refine g_aload_n (pc := 79) dX5_addModule_79 1 rfl ?_
            refine g_get (pc := 80) (ci := 4) inG_X5 rfl 1 (by decide) rfl fl_X5_59 (0) at_arr rfl dX5_addModule_80 ?_
            refine g_iload (pc := 83) dX5_addModule_83 0 rfl ?_
            refine g_aald (pc := 85) 2 3 at_mods rfl (by omega) (by decide) rfl dX5_addModule_85 ?_
            refine g_iload_n (pc := 86) dX5_addModule_86 3 rfl ?_
            refine g_putN (pc := 87) (ci := 2) inG_X3 tyX3 tyX3_ok nmX3 rfl 1 (by decide) rfl rfl fl_X5_82 (7 + (σ 0 1).toNat) (at_mod (i := (σ 0 1)) (by omega)) rfl rfl (Nat.le_of_ble_eq_true rfl) (st_1 (by omega)) dX5_addModule_87 ?_
            refine g_aload_n (pc := 90) dX5_addModule_90 1 rfl ?_
            refine g_get (pc := 91) (ci := 4) inG_X5 rfl 1 (by decide) rfl fl_X5_59 (0) at_arr rfl dX5_addModule_91 ?_
            refine g_iload (pc := 94) dX5_addModule_94 0 rfl ?_
            refine g_aald (pc := 96) 2 3 at_mods rfl (by omega) (by decide) rfl dX5_addModule_96 ?_
            refine g_iload_n (pc := 97) dX5_addModule_97 4 rfl ?_
            refine g_putN (pc := 98) (ci := 2) inG_X3 tyX3 tyX3_ok nmX3 rfl 2 (by decide) rfl rfl fl_X5_85 (7 + (σ 0 1).toNat) (at_mod (i := (σ 0 1)) (by omega)) rfl rfl (Nat.le_of_ble_eq_true rfl) (st_2 (by omega)) dX5_addModule_98 ?_
            refine g_aload_n (pc := 101) dX5_addModule_101 1 rfl ?_
            refine g_get (pc := 102) (ci := 4) inG_X5 rfl 1 (by decide) rfl fl_X5_59 (0) at_arr rfl dX5_addModule_102 ?_
            refine g_iload (pc := 105) dX5_addModule_105 0 rfl ?_
            refine g_aald (pc := 107) 2 3 at_mods rfl (by omega) (by decide) rfl dX5_addModule_107 ?_
            refine g_sipush (pc := 108) dX5_addModule_108 (by omega) ?_
            refine g_callN (pc := 111) (As := [.int (zI 1000)]) (rest := []) k_X5_88_X3 (c_X3_illuminate (σ := (up (up (up σ 0 1 ((σ 0 1) + 1)) 1 (σ 0 1) r) 2 (σ 0 1) o)) (σ 0 1) (show 0 ≤ (up (up (up σ 0 1 (σ 0 1 + 1)) 1 (σ 0 1) r) 2 (σ 0 1) o) 1 (σ 0 1) ∧ (up (up (up σ 0 1 (σ 0 1 + 1)) 1 (σ 0 1) r) 2 (σ 0 1) o) 1 (σ 0 1) ≤ 1000 by show 0 ≤ zup (σ 1) (σ 0 1) r (σ 0 1) ∧ zup (σ 1) (σ 0 1) r (σ 0 1) ≤ 1000; rw [zup_s]; omega) (by omega) 1000 (by omega)) ⟨rfl, rfl, Nat.le_of_ble_eq_true rfl, Nat.le_of_ble_eq_true rfl⟩ (7 + (σ 0 1).toNat) 2 rfl rfl (at_mod (i := (σ 0 1)) (by omega)) rfl rfl (Nat.le_of_ble_eq_true rfl) dX5_addModule_111 (fun v_ w_ hq_ => ?_)
            obtain ⟨rfl, rfl⟩ := hq_
            refine g_none ?_
            refine g_aload_n (pc := 114) dX5_addModule_114 1 rfl ?_
            refine g_iload (pc := 115) dX5_addModule_115 0 rfl ?_
            refine g_iload_n (pc := 117) dX5_addModule_117 2 rfl ?_
            refine g_callV (pc := 118) (As := [.int (zI (σ 0 1)), .int (zI s)]) (rest := []) k_X5_92_X5 (c_X5_putLast (σ := (ilm (up (up (up σ 0 1 ((σ 0 1) + 1)) 1 (σ 0 1) r) 2 (σ 0 1) o) (σ 0 1) 1000)) (σ 0 1) (by omega) s (by omega) (show 0 ≤ σ 6 s ∧ σ 6 s < 12 by omega)) ⟨rfl, rfl, Nat.le_of_ble_eq_true rfl, Nat.le_of_ble_eq_true rfl⟩ (0) 4 rfl rfl at_arr rfl rfl (Nat.le_of_ble_eq_true rfl) dX5_addModule_118 (fun v_ w_ hq_ => ?_)
            obtain ⟨rfl, rfl⟩ := hq_
            refine g_one ?_
            refine g_pop (pc := 121) dX5_addModule_121 rfl ?_
            refine g_iload (pc := 122) dX5_addModule_122 0 rfl ?_
            exact g_iret (pc := 124) dX5_addModule_124 rfl (Or.inl ⟨by unfold ok_addMod; omega, by unfold a_addMod; rw [if_pos (by omega), if_pos (by omega), if_pos (by omega)], rfl⟩)
      · refine g_one ?_
        refine g_if_neF (pc := 31) 38 dX5_addModule_31 (by decide) (by omega) (by omega) ?_
        refine g_sipush (pc := 34) dX5_addModule_34 (by omega) ?_
        exact g_iret (pc := 37) dX5_addModule_37 rfl (Or.inr ⟨by unfold ok_addMod; omega, by unfold a_addMod; (repeat' split) <;> first | rfl | (exfalso; omega), rfl⟩)
    · refine g_one ?_
      refine g_if_eqT (pc := 20) 34 dX5_addModule_20 (by decide) (by omega) (by omega) ?_
      refine g_sipush (pc := 34) dX5_addModule_34 (by omega) ?_
      exact g_iret (pc := 37) dX5_addModule_37 rfl (Or.inr ⟨by unfold ok_addMod; omega, by unfold a_addMod; (repeat' split) <;> first | rfl | (exfalso; omega), rfl⟩)
  · refine g_one ?_
    refine g_if_neF (pc := 5) 12 dX5_addModule_5 (by decide) (by omega) (by omega) ?_
    refine g_sipush (pc := 8) dX5_addModule_8 (by omega) ?_
    exact g_iret (pc := 11) dX5_addModule_11 rfl (Or.inr ⟨by unfold ok_addMod; omega, by unfold a_addMod; (repeat' split) <;> first | rfl | (exfalso; omega), rfl⟩)
set_option maxRecDepth 100000 in
set_option maxHeartbeats 2000000 in
/-- PvArray.moveModule  -/
theorem c_X5_moveModule {D : va_G} {cy : Nat → ClassId} {l : Launch} {ad : Nat → Nat} {σ : Nat → Int → Int} {X : va_W} (hB : Bd σ) (hP : Pos σ (σ 9) (σ 10)) (hU : Unu σ) (m : Int) (hm : -2147483648 ≤ m ∧ m ≤ 2147483647) (s : Int) (hs : -2147483648 ≤ s ∧ s ≤ 2147483647) : Con D cy l yX5_moveModule cX5_moveModule 3 (some .int) rm_X5_moveModule [.ref (ad 0), .int (zI m), .int (zI s)] (CW cy ad σ ++ X) (rwI (ok_move σ (σ 9) m s) (a_move σ (σ 9) m s) (a_move σ (σ 9) m s) (CW cy ad (n_move σ m s) ++ X) (CW cy ad σ ++ X)) := by
  refine Con.of (lv := [(0, .ref (ad 0)), (1, .int (zI m)), (2, .int (zI s))]) (by decide) (Nat.le_of_ble_eq_true rfl) rfl ?_
  have g1 := hB.sc
  have g2 := hB.mc
  have g3 := hB.b6 s
  refine g_aload_n (pc := 0) dX5_moveModule_0 0 rfl ?_
  refine g_iload_n (pc := 1) dX5_moveModule_1 1 rfl ?_
  refine g_callV (pc := 2) (As := [.int (zI m)]) (rest := []) k_X5_96_X5 (c_X5_isModule (σ := σ) hB m (by omega)) ⟨rfl, rfl, Nat.le_of_ble_eq_true rfl, Nat.le_of_ble_eq_true rfl⟩ (0) 4 rfl rfl at_arr rfl rfl (Nat.le_of_ble_eq_true rfl) dX5_moveModule_2 (fun v_ w_ hq_ => ?_)
  rcases hq_ with ⟨rfl, rfl, hm_1⟩ | ⟨rfl, rfl, hm_1⟩
  · refine g_one ?_
    refine g_if_neT (pc := 5) 12 dX5_moveModule_5 (by decide) (by omega) (by omega) ?_
    refine g_aload_n (pc := 12) dX5_moveModule_12 0 rfl ?_
    refine g_iload_n (pc := 13) dX5_moveModule_13 2 rfl ?_
    refine g_callV (pc := 14) (As := [.int (zI s)]) (rest := []) k_X5_70_X5 (c_X5_isString (σ := σ) hB s (by omega)) ⟨rfl, rfl, Nat.le_of_ble_eq_true rfl, Nat.le_of_ble_eq_true rfl⟩ (0) 4 rfl rfl at_arr rfl rfl (Nat.le_of_ble_eq_true rfl) dX5_moveModule_14 (fun v_ w_ hq_ => ?_)
    rcases hq_ with ⟨rfl, rfl, hs_2⟩ | ⟨rfl, rfl, hs_2⟩
    · refine g_one ?_
      refine g_if_neT (pc := 17) 24 dX5_moveModule_17 (by decide) (by omega) (by omega) ?_
      have g4 := hP.1 m (by omega) (by omega)
      have g5 := hB.b6 (σ 9 m)
      refine g_aload_n (pc := 24) dX5_moveModule_24 0 rfl ?_
      refine g_get (pc := 25) (ci := 4) inG_X5 rfl 1 (by decide) rfl fl_X5_59 (0) at_arr rfl dX5_moveModule_25 ?_
      refine g_iload_n (pc := 28) dX5_moveModule_28 1 rfl ?_
      refine g_aald (pc := 29) 2 3 at_mods rfl (by omega) (by decide) rfl dX5_moveModule_29 ?_
      refine g_getN (pc := 30) (ci := 2) inG_X3 rfl 7 (by decide) rfl fl_X5_112 (7 + m.toNat) (at_mod (i := m) (by omega)) rfl dX5_moveModule_30 ?_
      refine g_iload_n (pc := 33) dX5_moveModule_33 2 rfl ?_
      refine g_icmp_eq (pc := 34) 53 dX5_moveModule_34 (by decide) (by omega) (by omega) (fun h_3 => ?_) (fun h_3 => ?_)
      · refine g_aload_n (pc := 53) dX5_moveModule_53 0 rfl ?_
        refine g_iload_n (pc := 54) dX5_moveModule_54 1 rfl ?_
        refine g_callV (pc := 55) (As := [.int (zI m)]) (rest := []) k_X5_115_X5 (c_X5_takeOut (σ := σ) hB hP hU m (by omega)) ⟨rfl, rfl, Nat.le_of_ble_eq_true rfl, Nat.le_of_ble_eq_true rfl⟩ (0) 4 rfl rfl at_arr rfl rfl (Nat.le_of_ble_eq_true rfl) dX5_moveModule_55 (fun v_ w_ hq_ => ?_)
        obtain ⟨rfl, rfl⟩ := hq_
        refine g_none ?_
        refine g_aload_n (pc := 58) dX5_moveModule_58 0 rfl ?_
        refine g_iload_n (pc := 59) dX5_moveModule_59 1 rfl ?_
        refine g_iload_n (pc := 60) dX5_moveModule_60 2 rfl ?_
        refine g_callV (pc := 61) (As := [.int (zI m), .int (zI s)]) (rest := []) k_X5_92_X5 (c_X5_putLast (σ := (tkP σ (σ 9 m) (σ 10 m) (σ 6 (σ 9 m) - 1))) m (by omega) s (by omega) (tk6_b _ _ (by omega) (by omega) (by omega))) ⟨rfl, rfl, Nat.le_of_ble_eq_true rfl, Nat.le_of_ble_eq_true rfl⟩ (0) 4 rfl rfl at_arr rfl rfl (Nat.le_of_ble_eq_true rfl) dX5_moveModule_61 (fun v_ w_ hq_ => ?_)
        obtain ⟨rfl, rfl⟩ := hq_
        refine g_one ?_
        exact g_iret (pc := 64) dX5_moveModule_64 rfl (Or.inl ⟨by unfold ok_move; omega, by rw [tk6_a, a_move_ok (by unfold ok_move; omega)], rfl⟩)
      · refine g_aload_n (pc := 37) dX5_moveModule_37 0 rfl ?_
        refine g_get (pc := 38) (ci := 4) inG_X5 rfl 3 (by decide) rfl fl_X5_63 (0) at_arr rfl dX5_moveModule_38 ?_
        refine g_iload_n (pc := 41) dX5_moveModule_41 2 rfl ?_
        refine g_aald (pc := 42) 3 4 at_strs rfl (by omega) (by decide) rfl dX5_moveModule_42 ?_
        refine g_callN (pc := 43) (As := []) (rest := []) k_X5_78_X4 (c_X4_isFull (σ := σ) hB s (by omega)) ⟨rfl, rfl, Nat.le_of_ble_eq_true rfl, Nat.le_of_ble_eq_true rfl⟩ (31 + s.toNat) 3 rfl rfl (at_str (s := s) (by omega)) rfl rfl (Nat.le_of_ble_eq_true rfl) dX5_moveModule_43 (fun v_ w_ hq_ => ?_)
        rcases hq_ with ⟨rfl, rfl, hf_4⟩ | ⟨rfl, rfl, hf_4⟩
        · refine g_one ?_
          refine g_if_eqF (pc := 46) 53 dX5_moveModule_46 (by decide) (by omega) (by omega) ?_
          refine g_sipush (pc := 49) dX5_moveModule_49 (by omega) ?_
          exact g_iret (pc := 52) dX5_moveModule_52 rfl (Or.inr ⟨by unfold ok_move; omega, by unfold a_move; (repeat' split) <;> first | rfl | (exfalso; omega), rfl⟩)
        · refine g_one ?_
          refine g_if_eqT (pc := 46) 53 dX5_moveModule_46 (by decide) (by omega) (by omega) ?_
          refine g_aload_n (pc := 53) dX5_moveModule_53 0 rfl ?_
          refine g_iload_n (pc := 54) dX5_moveModule_54 1 rfl ?_
          refine g_callV (pc := 55) (As := [.int (zI m)]) (rest := []) k_X5_115_X5 (c_X5_takeOut (σ := σ) hB hP hU m (by omega)) ⟨rfl, rfl, Nat.le_of_ble_eq_true rfl, Nat.le_of_ble_eq_true rfl⟩ (0) 4 rfl rfl at_arr rfl rfl (Nat.le_of_ble_eq_true rfl) dX5_moveModule_55 (fun v_ w_ hq_ => ?_)
          obtain ⟨rfl, rfl⟩ := hq_
          refine g_none ?_
          refine g_aload_n (pc := 58) dX5_moveModule_58 0 rfl ?_
          refine g_iload_n (pc := 59) dX5_moveModule_59 1 rfl ?_
          refine g_iload_n (pc := 60) dX5_moveModule_60 2 rfl ?_
          refine g_callV (pc := 61) (As := [.int (zI m), .int (zI s)]) (rest := []) k_X5_92_X5 (c_X5_putLast (σ := (tkP σ (σ 9 m) (σ 10 m) (σ 6 (σ 9 m) - 1))) m (by omega) s (by omega) (tk6_b _ _ (by omega) (by omega) (by omega))) ⟨rfl, rfl, Nat.le_of_ble_eq_true rfl, Nat.le_of_ble_eq_true rfl⟩ (0) 4 rfl rfl at_arr rfl rfl (Nat.le_of_ble_eq_true rfl) dX5_moveModule_61 (fun v_ w_ hq_ => ?_)
          obtain ⟨rfl, rfl⟩ := hq_
          refine g_one ?_
          exact g_iret (pc := 64) dX5_moveModule_64 rfl (Or.inl ⟨by unfold ok_move; omega, by rw [tk6_a, a_move_ok (by unfold ok_move; omega)], rfl⟩)
    · refine g_one ?_
      refine g_if_neF (pc := 17) 24 dX5_moveModule_17 (by decide) (by omega) (by omega) ?_
      refine g_sipush (pc := 20) dX5_moveModule_20 (by omega) ?_
      exact g_iret (pc := 23) dX5_moveModule_23 rfl (Or.inr ⟨by unfold ok_move; omega, by unfold a_move; (repeat' split) <;> first | rfl | (exfalso; omega), rfl⟩)
  · refine g_one ?_
    refine g_if_neF (pc := 5) 12 dX5_moveModule_5 (by decide) (by omega) (by omega) ?_
    refine g_sipush (pc := 8) dX5_moveModule_8 (by omega) ?_
    exact g_iret (pc := 11) dX5_moveModule_11 rfl (Or.inr ⟨by unfold ok_move; omega, by unfold a_move; (repeat' split) <;> first | rfl | (exfalso; omega), rfl⟩)
set_option maxRecDepth 100000 in
set_option maxHeartbeats 2000000 in
/-- PvArray.swapModules  -/
theorem c_X5_swapModules {D : va_G} {cy : Nat → ClassId} {l : Launch} {ad : Nat → Nat} {σ : Nat → Int → Int} {X : va_W} (hB : Bd σ) (hP : Pos σ (σ 9) (σ 10)) (a : Int) (ha : -2147483648 ≤ a ∧ a ≤ 2147483647) (b : Int) (hb : -2147483648 ≤ b ∧ b ≤ 2147483647) : Con D cy l yX5_swapModules cX5_swapModules 3 (some .int) rm_X5_swapModules [.ref (ad 0), .int (zI a), .int (zI b)] (CW cy ad σ ++ X) (rwI ((0 ≤ a ∧ a < σ 0 1) ∧ (0 ≤ b ∧ b < σ 0 1)) (a_swap σ (σ 9) a b) (a_swap σ (σ 9) a b) (CW cy ad (exc σ a b) ++ X) (CW cy ad σ ++ X)) := by
  refine Con.of (lv := [(0, .ref (ad 0)), (1, .int (zI a)), (2, .int (zI b))]) (by decide) (Nat.le_of_ble_eq_true rfl) rfl ?_
  have g1 := hB.sc
  have g2 := hB.mc
  refine g_aload_n (pc := 0) dX5_swapModules_0 0 rfl ?_
  refine g_iload_n (pc := 1) dX5_swapModules_1 1 rfl ?_
  refine g_callV (pc := 2) (As := [.int (zI a)]) (rest := []) k_X5_96_X5 (c_X5_isModule (σ := σ) hB a (by omega)) ⟨rfl, rfl, Nat.le_of_ble_eq_true rfl, Nat.le_of_ble_eq_true rfl⟩ (0) 4 rfl rfl at_arr rfl rfl (Nat.le_of_ble_eq_true rfl) dX5_swapModules_2 (fun v_ w_ hq_ => ?_)
  rcases hq_ with ⟨rfl, rfl, hm_1⟩ | ⟨rfl, rfl, hm_1⟩
  · refine g_one ?_
    refine g_if_eqF (pc := 5) 16 dX5_swapModules_5 (by decide) (by omega) (by omega) ?_
    refine g_aload_n (pc := 8) dX5_swapModules_8 0 rfl ?_
    refine g_iload_n (pc := 9) dX5_swapModules_9 2 rfl ?_
    refine g_callV (pc := 10) (As := [.int (zI b)]) (rest := []) k_X5_96_X5 (c_X5_isModule (σ := σ) hB b (by omega)) ⟨rfl, rfl, Nat.le_of_ble_eq_true rfl, Nat.le_of_ble_eq_true rfl⟩ (0) 4 rfl rfl at_arr rfl rfl (Nat.le_of_ble_eq_true rfl) dX5_swapModules_10 (fun v_ w_ hq_ => ?_)
    rcases hq_ with ⟨rfl, rfl, hm_2⟩ | ⟨rfl, rfl, hm_2⟩
    · refine g_one ?_
      refine g_if_neT (pc := 13) 20 dX5_swapModules_13 (by decide) (by omega) (by omega) ?_
      refine g_aload_n (pc := 20) dX5_swapModules_20 0 rfl ?_
      refine g_iload_n (pc := 21) dX5_swapModules_21 1 rfl ?_
      refine g_iload_n (pc := 22) dX5_swapModules_22 2 rfl ?_
      refine g_callV (pc := 23) (As := [.int (zI a), .int (zI b)]) (rest := []) k_X5_118_X5 (c_X5_exchange (σ := σ) hB hP a (by omega) b (by omega)) ⟨rfl, rfl, Nat.le_of_ble_eq_true rfl, Nat.le_of_ble_eq_true rfl⟩ (0) 4 rfl rfl at_arr rfl rfl (Nat.le_of_ble_eq_true rfl) dX5_swapModules_23 (fun v_ w_ hq_ => ?_)
      obtain ⟨rfl, rfl⟩ := hq_
      refine g_none ?_
      have g3 := hP.1 a (by omega) (by omega)
      have g4 := hP.1 b (by omega) (by omega)
      refine g_aload_n (pc := 26) dX5_swapModules_26 0 rfl ?_
      refine g_get (pc := 27) (ci := 4) inG_X5 rfl 1 (by decide) rfl fl_X5_59 (0) at_arr rfl dX5_swapModules_27 ?_
      refine g_iload_n (pc := 30) dX5_swapModules_30 1 rfl ?_
      refine g_aald (pc := 31) 2 3 at_mods rfl (by omega) (by decide) rfl dX5_swapModules_31 ?_
      refine g_getN (pc := 32) (ci := 2) inG_X3 rfl 7 (by decide) rfl fl_X5_112 (7 + a.toNat) (at_mod (i := a) (by omega)) rfl dX5_swapModules_32 ?_
      refine g_topI (exc_9a σ a b) ?_
      refine g_aload_n (pc := 35) dX5_swapModules_35 0 rfl ?_
      refine g_get (pc := 36) (ci := 4) inG_X5 rfl 1 (by decide) rfl fl_X5_59 (0) at_arr rfl dX5_swapModules_36 ?_
      refine g_iload_n (pc := 39) dX5_swapModules_39 2 rfl ?_
      refine g_aald (pc := 40) 2 3 at_mods rfl (by omega) (by decide) rfl dX5_swapModules_40 ?_
      refine g_getN (pc := 41) (ci := 2) inG_X3 rfl 7 (by decide) rfl fl_X5_112 (7 + b.toNat) (at_mod (i := b) (by omega)) rfl dX5_swapModules_41 ?_
      refine g_topI (exc_9b σ a b) ?_
      refine g_icmp_eq (pc := 44) 51 dX5_swapModules_44 (by decide) (by omega) (by omega) (fun h_3 => ?_) (fun h_3 => ?_)
      · refine g_iconst (pc := 51) dX5_swapModules_51 ?_
        exact g_iret (pc := 52) dX5_swapModules_52 rfl (Or.inl ⟨by omega, by unfold a_swap; rw [if_pos (by omega)]; rw [if_pos (by omega)], rfl⟩)
      · refine g_iconst (pc := 47) dX5_swapModules_47 ?_
        refine g_goto (pc := 48) 52 dX5_swapModules_48 (by decide) ?_
        exact g_iret (pc := 52) dX5_swapModules_52 rfl (Or.inl ⟨by omega, by unfold a_swap; rw [if_pos (by omega)]; rw [if_neg (by omega)], rfl⟩)
    · refine g_one ?_
      refine g_if_neF (pc := 13) 20 dX5_swapModules_13 (by decide) (by omega) (by omega) ?_
      refine g_sipush (pc := 16) dX5_swapModules_16 (by omega) ?_
      exact g_iret (pc := 19) dX5_swapModules_19 rfl (Or.inr ⟨by omega, by unfold a_swap; (repeat' split) <;> first | rfl | (exfalso; omega), rfl⟩)
  · refine g_one ?_
    refine g_if_eqT (pc := 5) 16 dX5_swapModules_5 (by decide) (by omega) (by omega) ?_
    refine g_sipush (pc := 16) dX5_swapModules_16 (by omega) ?_
    exact g_iret (pc := 19) dX5_swapModules_19 rfl (Or.inr ⟨by omega, by unfold a_swap; (repeat' split) <;> first | rfl | (exfalso; omega), rfl⟩)
