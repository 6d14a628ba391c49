/-! calls that change numbers of modules -/
def setR (σ : Nat → Int → Int) (f : Nat) (r : Int → Int) : Nat → Int → Int := fun g => if g = f then r else σ g
theorem setR_s (σ : Nat → Int → Int) (f : Nat) (r : Int → Int) : setR σ f r f = r := if_pos rfl
theorem setR_o (σ : Nat → Int → Int) {f g : Nat} (r : Int → Int) (h : g ≠ f) : setR σ f r g = σ g := if_neg h
theorem up_setR (σ : Nat → Int → Int) (f : Nat) (i v : Int) : up σ f i v = setR σ f (zup (σ f) i v) := rfl
theorem wr_of {cy : Nat → ClassId} {ad : Nat → Nat} {S S' : Nat → Int → Int} {X : va_W} {x r : Int} (h1 : x = r) (h2 : S = S') : rdI r (CW cy ad S' ++ X) (some (.int (zI x))) (CW cy ad S ++ X) := ⟨by rw [h1], by rw [h2]⟩
theorem wm_of {cy : Nat → ClassId} {bd : Nat → Nat} {S S' : Nat → Int → Int} {X : va_W} {x r : Int} (h1 : x = r) (h2 : S = S') : rdI r (MW cy bd S' ++ X) (some (.int (zI x))) (MW cy bd S ++ X) := ⟨by rw [h1], by rw [h2]⟩
def wv (w : va_W) : Option Value → va_W → Prop := fun v w' => v = none ∧ w' = w
theorem wv_of {cy : Nat → ClassId} {ad : Nat → Nat} {S S' : Nat → Int → Int} {X : va_W} (h2 : S = S') : wv (CW cy ad S' ++ X) none (CW cy ad S ++ X) := ⟨rfl, by rw [h2]⟩
theorem wvm_of {cy : Nat → ClassId} {bd : Nat → Nat} {S S' : Nat → Int → Int} {X : va_W} (h2 : S = S') : wv (MW cy bd S' ++ X) none (MW cy bd S ++ X) := ⟨rfl, by rw [h2]⟩
def ilm (σ : Nat → Int → Int) (m z : Int) : Nat → Int → Int := up (up σ 3 m z) 8 m (z * σ 1 m / 1000)
def a_setIrr (g : Nat → Int → Int) (m z : Int) : Int := if 0 ≤ m ∧ m < g 0 1 then (if 0 ≤ z ∧ z ≤ 1200 then g 3 m else -1003) else -1002
def t_setIrr (σ : Nat → Int → Int) (m z : Int) : Nat → Int → Int := if (0 ≤ m ∧ m < σ 0 1) ∧ (0 ≤ z ∧ z ≤ 1200) then ilm σ m z else σ
def a_setRes (g : Nat → Int → Int) (m z : Int) : Int := if 0 ≤ m ∧ m < g 0 1 then (if 0 ≤ z ∧ z ≤ 5000 then g 4 m else -1003) else -1002
def t_setRes (σ : Nat → Int → Int) (m z : Int) : Nat → Int → Int := if (0 ≤ m ∧ m < σ 0 1) ∧ (0 ≤ z ∧ z ≤ 5000) then up σ 4 m z else σ
def a_setDio (g : Nat → Int → Int) (m b : Int) : Int := if 0 ≤ m ∧ m < g 0 1 then (if g 5 m = b then 0 else 1) else -1002
def t_setDio (σ : Nat → Int → Int) (m b : Int) : Nat → Int → Int := if 0 ≤ m ∧ m < σ 0 1 then (if σ 5 m = b then σ else up σ 5 m b) else σ
def a_setDrop (g : Nat → Int → Int) (z : Int) : Int := if 0 ≤ z ∧ z ≤ 20 then g 0 0 else -1003
def t_setDrop (σ : Nat → Int → Int) (z : Int) : Nat → Int → Int := if 0 ≤ z ∧ z ≤ 20 then up σ 0 0 z else σ
def a_addStr (g : Nat → Int → Int) : Int := if g 0 2 < 6 then g 0 2 else -1004
def t_addStr (σ : Nat → Int → Int) : Nat → Int → Int := if σ 0 2 < 6 then up σ 0 2 (σ 0 2 + 1) else σ
/-- shading: rows and count -/
def shR (r : Int → Int) (a m q : Int) : Int → Int := fun i => if a ≤ i ∧ i < m then r i * (100 - q) / 100 else r i
def shC (r : Int → Int) (q a : Int) : Nat → Int
  | 0 => 0
  | n + 1 => shC r q a n + (if r (a + n) * (100 - q) / 100 = r (a + n) then 0 else 1)
def shS (σ : Nat → Int → Int) (a m q : Int) : Nat → Int → Int := setR (setR σ 3 (shR (σ 3) a m q)) 8 (fun i => shR (σ 3) a m q i * σ 1 i / 1000)
theorem shR_s (r : Int → Int) {a m q : Int} (h : a ≤ m) : shR r a (m + 1) q = zup (shR r a m q) m (r m * (100 - q) / 100) := by
  funext i
  unfold shR zup
  by_cases h1 : i = m
  · subst h1; rw [if_pos (by omega), if_pos rfl]
  · rw [if_neg h1]
    dsimp only
    by_cases h2 : a ≤ i ∧ i < m
    · rw [if_pos (by omega), if_pos h2]
    · rw [if_neg (by omega), if_neg h2]
theorem shR_at (r : Int → Int) (a m q : Int) : shR r a m q m = r m := if_neg (by omega)
theorem shR_0 (r : Int → Int) (a q : Int) : shR r a a q = r := by
  funext i
  unfold shR
  rw [if_neg (by omega)]
theorem shC_s (r : Int → Int) (q : Int) {a m : Int} (h : a ≤ m) : shC r q a (m + 1 - a).toNat = shC r q a (m - a).toNat + (if r m * (100 - q) / 100 = r m then 0 else 1) := by
  rw [show (m + 1 - a).toNat = (m - a).toNat + 1 by omega]
  show shC r q a (m - a).toNat + (if r (a + ((m - a).toNat : Int)) * (100 - q) / 100 = r (a + ((m - a).toNat : Int)) then 0 else 1) = _
  rw [show a + ((m - a).toNat : Int) = m by omega]
theorem shC_b (r : Int → Int) (q a : Int) : ∀ n : Nat, 0 ≤ shC r q a n ∧ shC r q a n ≤ n
  | 0 => by simp [shC]
  | n + 1 => by
    have := shC_b r q a n
    unfold shC
    split <;> omega
theorem shS_0 {σ : Nat → Int → Int} (hL : LC σ) (a q : Int) : shS σ a a q = σ := by
  funext g
  unfold shS
  by_cases h8 : g = 8
  · subst h8
    rw [setR_s, shR_0]
    funext i
    exact (hL i).symm
  · rw [setR_o _ _ h8]
    by_cases h3 : g = 3
    · subst h3; rw [setR_s, shR_0]
    · rw [setR_o _ _ h3]
theorem shS_s (σ : Nat → Int → Int) {a m q : Int} (h : a ≤ m) : ilm (shS σ a m q) m (σ 3 m * (100 - q) / 100) = shS σ a (m + 1) q := by
  have e1 : shS σ a m q 1 = σ 1 := rfl
  funext g
  unfold ilm
  rw [e1]
  by_cases h8 : g = 8
  · subst h8
    rw [up_r, up_o _ _ _ (by decide)]
    show zup (fun i => shR (σ 3) a m q i * σ 1 i / 1000) m _ = fun i => shR (σ 3) a (m + 1) q i * σ 1 i / 1000
    rw [shR_s _ h]
    funext i
    unfold zup
    by_cases hi : i = m
    · subst hi; rw [if_pos rfl, if_pos rfl]
    · rw [if_neg hi, if_neg hi]
  · rw [up_o _ _ _ h8]
    by_cases h3 : g = 3
    · subst h3
      rw [up_r]
      show zup (shR (σ 3) a m q) m _ = shR (σ 3) a (m + 1) q
      rw [shR_s _ h]
    · rw [up_o _ _ _ h3]
      unfold shS
      rw [setR_o _ _ h8, setR_o _ _ h3, setR_o _ _ h8, setR_o _ _ h3]
theorem mulq_b {x q : Int} (hx : 0 ≤ x ∧ x ≤ 1200) (hq : 0 ≤ q ∧ q ≤ 100) : 0 ≤ x * (100 - q) ∧ x * (100 - q) ≤ 120000 ∧ 0 ≤ x * (100 - q) / 100 ∧ x * (100 - q) / 100 ≤ 1200 := by
  have h := mul_b (a := x) (b := 100 - q) (A := 1200) (B := 100) hx (by omega)
  omega
theorem shR_b {r : Int → Int} (h : ∀ i, 0 ≤ r i ∧ r i ≤ 1200) {a m q : Int} (hq : 0 ≤ q ∧ q ≤ 100) (i : Int) : 0 ≤ shR r a m q i ∧ shR r a m q i ≤ 1200 := by
  have h1 := mulq_b (h i) hq
  have h2 := h i
  unfold shR
  split <;> omega
def a_shade (g : Nat → Int → Int) (a b q : Int) : Int := if (0 ≤ a ∧ a < g 0 1) ∧ (0 ≤ b ∧ b < g 0 1) then (if a ≤ b ∧ 0 ≤ q ∧ q ≤ 100 then shC (g 3) q a (b + 1 - a).toNat else -1003) else -1002
def t_shade (σ : Nat → Int → Int) (a b q : Int) : Nat → Int → Int := if ((0 ≤ a ∧ a < σ 0 1) ∧ (0 ≤ b ∧ b < σ 0 1)) ∧ (a ≤ b ∧ 0 ≤ q ∧ q ≤ 100) then shS σ a (b + 1) q else σ
theorem Bd.shS {σ : Nat → Int → Int} (h : Bd σ) (a m : Int) {q : Int} (hq : 0 ≤ q ∧ q ≤ 100) : Bd (shS σ a m q) := ⟨h.1, h.2.1, h.2.2.1, h.2.2.2.1, h.2.2.2.2.1, fun i => shR_b h.2.2.2.2.2.1 hq i, h.2.2.2.2.2.2⟩
set_option maxRecDepth 100000 in
set_option maxHeartbeats 2000000 in
/-- PvArray.addString  -/
theorem c_X5_addString {D : va_G} {cy : Nat → ClassId} {l : Launch} {ad : Nat → Nat} {σ : Nat → Int → Int} {X : va_W} (hB : Bd σ) : Con D cy l yX5_addString cX5_addString 1 (some .int) rm_X5_addString [.ref (ad 0)] (CW cy ad σ ++ X) (rdI (a_addStr σ) (CW cy ad (t_addStr σ) ++ X)) := by
  refine Con.of (lv := [(0, .ref (ad 0))]) (by decide) (Nat.le_of_ble_eq_true rfl) rfl ?_
  have g1 := hB.sc
  have g2 := hB.mc
  refine g_aload_n (pc := 0) dX5_addString_0 0 rfl ?_
  refine g_get (pc := 1) (ci := 4) inG_X5 rfl 4 (by decide) rfl fl_X5_51 (0) at_arr rfl dX5_addString_1 ?_
  refine g_getN (pc := 4) (ci := 1) inG_X2 rfl 1 (by decide) rfl fl_X5_67 (4) at_par rfl dX5_addString_4 ?_
  refine g_bipush (pc := 7) dX5_addString_7 (by omega) ?_
  refine g_icmp_lt (pc := 9) 16 dX5_addString_9 (by decide) (by omega) (by omega) (fun h_1 => ?_) (fun h_1 => ?_)
  · refine g_aload_n (pc := 16) dX5_addString_16 0 rfl ?_
    refine g_get (pc := 17) (ci := 4) inG_X5 rfl 4 (by decide) rfl fl_X5_51 (0) at_arr rfl dX5_addString_17 ?_
    refine g_dup (pc := 20) dX5_addString_20 rfl ?_
    refine g_getN (pc := 21) (ci := 1) inG_X2 rfl 1 (by decide) rfl fl_X5_67 (4) at_par rfl dX5_addString_21 ?_
    refine g_iconst (pc := 24) dX5_addString_24 ?_
    refine g_iadd (pc := 25) dX5_addString_25 ?_
    refine g_putN (pc := 26) (ci := 1) inG_X2 tyX2 tyX2_ok nmX2 rfl 1 (by decide) rfl rfl fl_X5_67 (4) at_par rfl rfl (Nat.le_of_ble_eq_true rfl) st_0_2 dX5_addString_26 ?_
    refine g_aload_n (pc := 29) dX5_addString_29 0 rfl ?_
    refine g_get (pc := 30) (ci := 4) inG_X5 rfl 4 (by decide) rfl fl_X5_51 (0) at_arr rfl dX5_addString_30 ?_
    refine g_getN (pc := 33) (ci := 1) inG_X2 rfl 1 (by decide) rfl fl_X5_67 (4) at_par rfl dX5_addString_33 ?_
    refine g_iconst (pc := 36) dX5_addString_36 ?_
    refine g_isub (pc := 37) dX5_addString_37 ?_
    exact g_iret (pc := 38) dX5_addString_38 rfl (wr_of (by unfold a_addStr; rw [if_pos (by omega)]; show up σ 0 2 (σ 0 2 + 1) 0 2 - 1 = σ 0 2; rw [up_r, zup_s]; omega) (by unfold t_addStr; rw [if_pos (by omega)]))
  · refine g_sipush (pc := 12) dX5_addString_12 (by omega) ?_
    exact g_iret (pc := 15) dX5_addString_15 rfl (wr_of (by unfold a_addStr; (repeat' split) <;> first | rfl | (exfalso; omega)) (by unfold t_addStr; (repeat' split) <;> first | rfl | (exfalso; omega)))
set_option maxRecDepth 100000 in
set_option maxHeartbeats 2000000 in
/-- PvArray.setIrradiance  -/
theorem c_X5_setIrradiance {D : va_G} {cy : Nat → ClassId} {l : Launch} {ad : Nat → Nat} {σ : Nat → Int → Int} {X : va_W} (hB : Bd σ) (m : Int) (hm : -2147483648 ≤ m ∧ m ≤ 2147483647) (z : Int) (hz : -2147483648 ≤ z ∧ z ≤ 2147483647) : Con D cy l yX5_setIrradiance cX5_setIrradiance 4 (some .int) rm_X5_setIrradiance [.ref (ad 0), .int (zI m), .int (zI z)] (CW cy ad σ ++ X) (rdI (a_setIrr σ m z) (CW cy ad (t_setIrr σ m z) ++ X)) := by
  refine Con.of (lv := [(0, .ref (ad 0)), (1, .int (zI m)), (2, .int (zI z))]) (by decide) (Nat.le_of_ble_eq_true rfl) rfl ?_
  have g1 := hB.sc
  have g2 := hB.mc
  refine g_aload_n (pc := 0) dX5_setIrradiance_0 0 rfl ?_
  refine g_iload_n (pc := 1) dX5_setIrradiance_1 1 rfl ?_
  refine g_callV (pc := 2) (As := [.int (zI m)]) (rest := []) k_X5_96_X5 (c_X5_isModule (σ := σ) hB m (by omega)) ⟨rfl, rfl, Nat.le_of_ble_eq_true rfl, Nat.le_of_ble_eq_true rfl⟩ (0) 4 rfl rfl at_arr rfl rfl (Nat.le_of_ble_eq_true rfl) dX5_setIrradiance_2 (fun v_ w_ hq_ => ?_)
  rcases hq_ with ⟨rfl, rfl, hm_1⟩ | ⟨rfl, rfl, hm_1⟩
  · refine g_one ?_
    refine g_if_neT (pc := 5) 12 dX5_setIrradiance_5 (by decide) (by omega) (by omega) ?_
    refine g_iload_n (pc := 12) dX5_setIrradiance_12 2 rfl ?_
    refine g_iconst (pc := 13) dX5_setIrradiance_13 ?_
    refine g_sipush (pc := 14) dX5_setIrradiance_14 (by omega) ?_
    refine g_callS (pc := 17) (As := [.int (zI z), .int (zI 0), .int (zI 1200)]) (rest := []) k_X5_74_X5 (c_X5_isWithin (σ := σ) z 0 1200 (by omega) (by omega) (by omega)) ⟨rfl, rfl, Nat.le_of_ble_eq_true rfl, Nat.le_of_ble_eq_true rfl⟩ rfl rfl (Nat.le_of_ble_eq_true rfl) dX5_setIrradiance_17 (fun v_ w_ hq_ => ?_)
    rcases hq_ with ⟨rfl, rfl, hw_2⟩ | ⟨rfl, rfl, hw_2⟩
    · refine g_one ?_
      refine g_if_neT (pc := 20) 27 dX5_setIrradiance_20 (by decide) (by omega) (by omega) ?_
      refine g_aload_n (pc := 27) dX5_setIrradiance_27 0 rfl ?_
      refine g_get (pc := 28) (ci := 4) inG_X5 rfl 1 (by decide) rfl fl_X5_59 (0) at_arr rfl dX5_setIrradiance_28 ?_
      refine g_iload_n (pc := 31) dX5_setIrradiance_31 1 rfl ?_
      refine g_aald (pc := 32) 2 3 at_mods rfl (by omega) (by decide) rfl dX5_setIrradiance_32 ?_
      refine g_getN (pc := 33) (ci := 2) inG_X3 rfl 3 (by decide) rfl fl_X5_99 (7 + m.toNat) (at_mod (i := m) (by omega)) rfl dX5_setIrradiance_33 ?_
      refine g_istore_n (pc := 36) (lv' := [(3, .int (zI (σ 3 m))), (0, .ref (ad 0)), (1, .int (zI m)), (2, .int (zI z))]) dX5_setIrradiance_36 (by decide) rfl ?_
      refine g_aload_n (pc := 37) dX5_setIrradiance_37 1 rfl ?_
      refine g_get (pc := 38) (ci := 4) inG_X5 rfl 1 (by decide) rfl fl_X5_59 (0) at_arr rfl dX5_setIrradiance_38 ?_
      refine g_iload_n (pc := 41) dX5_setIrradiance_41 2 rfl ?_
      refine g_aald (pc := 42) 2 3 at_mods rfl (by omega) (by decide) rfl dX5_setIrradiance_42 ?_
      refine g_iload_n (pc := 43) dX5_setIrradiance_43 3 rfl ?_
      refine g_callN (pc := 44) (As := [.int (zI z)]) (rest := []) k_X5_88_X3 (c_X3_illuminate (σ := σ) m (hB.b1 m) (by omega) z (by omega)) ⟨rfl, rfl, Nat.le_of_ble_eq_true rfl, Nat.le_of_ble_eq_true rfl⟩ (7 + m.toNat) 2 rfl rfl (at_mod (i := m) (by omega)) rfl rfl (Nat.le_of_ble_eq_true rfl) dX5_setIrradiance_44 (fun v_ w_ hq_ => ?_)
      obtain ⟨rfl, rfl⟩ := hq_
      refine g_none ?_
      refine g_iload_n (pc := 47) dX5_setIrradiance_47 0 rfl ?_
      exact g_iret (pc := 48) dX5_setIrradiance_48 rfl (wr_of (by unfold a_setIrr; (repeat' split) <;> first | rfl | (exfalso; omega)) (by unfold t_setIrr; (repeat' split) <;> first | rfl | (exfalso; omega)))
    · refine g_one ?_
      refine g_if_neF (pc := 20) 27 dX5_setIrradiance_20 (by decide) (by omega) (by omega) ?_
      refine g_sipush (pc := 23) dX5_setIrradiance_23 (by omega) ?_
      exact g_iret (pc := 26) dX5_setIrradiance_26 rfl (wr_of (by unfold a_setIrr; (repeat' split) <;> first | rfl | (exfalso; omega)) (by unfold t_setIrr; (repeat' split) <;> first | rfl | (exfalso; omega)))
  · refine g_one ?_
    refine g_if_neF (pc := 5) 12 dX5_setIrradiance_5 (by decide) (by omega) (by omega) ?_
    refine g_sipush (pc := 8) dX5_setIrradiance_8 (by omega) ?_
    exact g_iret (pc := 11) dX5_setIrradiance_11 rfl (wr_of (by unfold a_setIrr; (repeat' split) <;> first | rfl | (exfalso; omega)) (by unfold t_setIrr; (repeat' split) <;> first | rfl | (exfalso; omega)))
set_option maxRecDepth 100000 in
set_option maxHeartbeats 2000000 in
/-- PvArray.setResistance  -/
theorem c_X5_setResistance {D : va_G} {cy : Nat → ClassId} {l : Launch} {ad : Nat → Nat} {σ : Nat → Int → Int} {X : va_W} (hB : Bd σ) (m : Int) (hm : -2147483648 ≤ m ∧ m ≤ 2147483647) (z : Int) (hz : -2147483648 ≤ z ∧ z ≤ 2147483647) : Con D cy l yX5_setResistance cX5_setResistance 4 (some .int) rm_X5_setResistance [.ref (ad 0), .int (zI m), .int (zI z)] (CW cy ad σ ++ X) (rdI (a_setRes σ m z) (CW cy ad (t_setRes σ m z) ++ X)) := by
  refine Con.of (lv := [(0, .ref (ad 0)), (1, .int (zI m)), (2, .int (zI z))]) (by decide) (Nat.le_of_ble_eq_true rfl) rfl ?_
  have g1 := hB.sc
  have g2 := hB.mc
  refine g_aload_n (pc := 0) dX5_setResistance_0 0 rfl ?_
  refine g_iload_n (pc := 1) dX5_setResistance_1 1 rfl ?_
  refine g_callV (pc := 2) (As := [.int (zI m)]) (rest := []) k_X5_96_X5 (c_X5_isModule (σ := σ) hB m (by omega)) ⟨rfl, rfl, Nat.le_of_ble_eq_true rfl, Nat.le_of_ble_eq_true rfl⟩ (0) 4 rfl rfl at_arr rfl rfl (Nat.le_of_ble_eq_true rfl) dX5_setResistance_2 (fun v_ w_ hq_ => ?_)
  rcases hq_ with ⟨rfl, rfl, hm_1⟩ | ⟨rfl, rfl, hm_1⟩
  · refine g_one ?_
    refine g_if_neT (pc := 5) 12 dX5_setResistance_5 (by decide) (by omega) (by omega) ?_
    refine g_iload_n (pc := 12) dX5_setResistance_12 2 rfl ?_
    refine g_iconst (pc := 13) dX5_setResistance_13 ?_
    refine g_sipush (pc := 14) dX5_setResistance_14 (by omega) ?_
    refine g_callS (pc := 17) (As := [.int (zI z), .int (zI 0), .int (zI 5000)]) (rest := []) k_X5_74_X5 (c_X5_isWithin (σ := σ) z 0 5000 (by omega) (by omega) (by omega)) ⟨rfl, rfl, Nat.le_of_ble_eq_true rfl, Nat.le_of_ble_eq_true rfl⟩ rfl rfl (Nat.le_of_ble_eq_true rfl) dX5_setResistance_17 (fun v_ w_ hq_ => ?_)
    rcases hq_ with ⟨rfl, rfl, hw_2⟩ | ⟨rfl, rfl, hw_2⟩
    · refine g_one ?_
      refine g_if_neT (pc := 20) 27 dX5_setResistance_20 (by decide) (by omega) (by omega) ?_
      refine g_aload_n (pc := 27) dX5_setResistance_27 0 rfl ?_
      refine g_get (pc := 28) (ci := 4) inG_X5 rfl 1 (by decide) rfl fl_X5_59 (0) at_arr rfl dX5_setResistance_28 ?_
      refine g_iload_n (pc := 31) dX5_setResistance_31 1 rfl ?_
      refine g_aald (pc := 32) 2 3 at_mods rfl (by omega) (by decide) rfl dX5_setResistance_32 ?_
      refine g_getN (pc := 33) (ci := 2) inG_X3 rfl 5 (by decide) rfl fl_X5_102 (7 + m.toNat) (at_mod (i := m) (by omega)) rfl dX5_setResistance_33 ?_
      refine g_istore_n (pc := 36) (lv' := [(3, .int (zI (σ 4 m))), (0, .ref (ad 0)), (1, .int (zI m)), (2, .int (zI z))]) dX5_setResistance_36 (by decide) rfl ?_
      refine g_aload_n (pc := 37) dX5_setResistance_37 1 rfl ?_
      refine g_get (pc := 38) (ci := 4) inG_X5 rfl 1 (by decide) rfl fl_X5_59 (0) at_arr rfl dX5_setResistance_38 ?_
      refine g_iload_n (pc := 41) dX5_setResistance_41 2 rfl ?_
      refine g_aald (pc := 42) 2 3 at_mods rfl (by omega) (by decide) rfl dX5_setResistance_42 ?_
      refine g_iload_n (pc := 43) dX5_setResistance_43 3 rfl ?_
      refine g_putN (pc := 44) (ci := 2) inG_X3 tyX3 tyX3_ok nmX3 rfl 5 (by decide) rfl rfl fl_X5_102 (7 + m.toNat) (at_mod (i := m) (by omega)) rfl rfl (Nat.le_of_ble_eq_true rfl) (st_4 (by omega)) dX5_setResistance_44 ?_
      refine g_iload_n (pc := 47) dX5_setResistance_47 0 rfl ?_
      exact g_iret (pc := 48) dX5_setResistance_48 rfl (wr_of (by unfold a_setRes; (repeat' split) <;> first | rfl | (exfalso; omega)) (by unfold t_setRes; (repeat' split) <;> first | rfl | (exfalso; omega)))
    · refine g_one ?_
      refine g_if_neF (pc := 20) 27 dX5_setResistance_20 (by decide) (by omega) (by omega) ?_
      refine g_sipush (pc := 23) dX5_setResistance_23 (by omega) ?_
      exact g_iret (pc := 26) dX5_setResistance_26 rfl (wr_of (by unfold a_setRes; (repeat' split) <;> first | rfl | (exfalso; omega)) (by unfold t_setRes; (repeat' split) <;> first | rfl | (exfalso; omega)))
  · refine g_one ?_
    refine g_if_neF (pc := 5) 12 dX5_setResistance_5 (by decide) (by omega) (by omega) ?_
    refine g_sipush (pc := 8) dX5_setResistance_8 (by omega) ?_
    exact g_iret (pc := 11) dX5_setResistance_11 rfl (wr_of (by unfold a_setRes; (repeat' split) <;> first | rfl | (exfalso; omega)) (by unfold t_setRes; (repeat' split) <;> first | rfl | (exfalso; omega)))
set_option maxRecDepth 100000 in
set_option maxHeartbeats 2000000 in
/-- PvArray.setBypassDiode  -/
theorem c_X5_setBypassDiode {D : va_G} {cy : Nat → ClassId} {l : Launch} {ad : Nat → Nat} {σ : Nat → Int → Int} {X : va_W} (hB : Bd σ) (m : Int) (hm : -2147483648 ≤ m ∧ m ≤ 2147483647) (b : Int) (hb : b = 0 ∨ b = 1) : Con D cy l yX5_setBypassDiode cX5_setBypassDiode 3 (some .int) rm_X5_setBypassDiode [.ref (ad 0), .int (zI m), .int (zI b)] (CW cy ad σ ++ X) (rdI (a_setDio σ m b) (CW cy ad (t_setDio σ m b) ++ X)) := by
  refine Con.of (lv := [(0, .ref (ad 0)), (1, .int (zI m)), (2, .int (zI b))]) (by decide) (Nat.le_of_ble_eq_true rfl) rfl ?_
  have g1 := hB.sc
  have g2 := hB.mc
  have g3 := hB.b5 m
  refine g_aload_n (pc := 0) dX5_setBypassDiode_0 0 rfl ?_
  refine g_iload_n (pc := 1) dX5_setBypassDiode_1 1 rfl ?_
  refine g_callV (pc := 2) (As := [.int (zI m)]) (rest := []) k_X5_96_X5 (c_X5_isModule (σ := σ) hB m (by omega)) ⟨rfl, rfl, Nat.le_of_ble_eq_true rfl, Nat.le_of_ble_eq_true rfl⟩ (0) 4 rfl rfl at_arr rfl rfl (Nat.le_of_ble_eq_true rfl) dX5_setBypassDiode_2 (fun v_ w_ hq_ => ?_)
  rcases hq_ with ⟨rfl, rfl, hm_1⟩ | ⟨rfl, rfl, hm_1⟩
  · refine g_one ?_
    refine g_if_neT (pc := 5) 12 dX5_setBypassDiode_5 (by decide) (by omega) (by omega) ?_
    refine g_aload_n (pc := 12) dX5_setBypassDiode_12 0 rfl ?_
    refine g_get (pc := 13) (ci := 4) inG_X5 rfl 1 (by decide) rfl fl_X5_59 (0) at_arr rfl dX5_setBypassDiode_13 ?_
    refine g_iload_n (pc := 16) dX5_setBypassDiode_16 1 rfl ?_
    refine g_aald (pc := 17) 2 3 at_mods rfl (by omega) (by decide) rfl dX5_setBypassDiode_17 ?_
    refine g_getN (pc := 18) (ci := 2) inG_X3 rfl 6 (by decide) rfl fl_X5_105 (7 + m.toNat) (at_mod (i := m) (by omega)) rfl dX5_setBypassDiode_18 ?_
    refine g_iload_n (pc := 21) dX5_setBypassDiode_21 2 rfl ?_
    refine g_icmp_ne (pc := 22) 27 dX5_setBypassDiode_22 (by decide) (by omega) (by omega) (fun h_2 => ?_) (fun h_2 => ?_)
    · refine g_aload_n (pc := 27) dX5_setBypassDiode_27 0 rfl ?_
      refine g_get (pc := 28) (ci := 4) inG_X5 rfl 1 (by decide) rfl fl_X5_59 (0) at_arr rfl dX5_setBypassDiode_28 ?_
      refine g_iload_n (pc := 31) dX5_setBypassDiode_31 1 rfl ?_
      refine g_aald (pc := 32) 2 3 at_mods rfl (by omega) (by decide) rfl dX5_setBypassDiode_32 ?_
      refine g_iload_n (pc := 33) dX5_setBypassDiode_33 2 rfl ?_
      refine g_putN (pc := 34) (ci := 2) inG_X3 tyX3 tyX3_ok nmX3 rfl 6 (by decide) rfl rfl fl_X5_105 (7 + m.toNat) (at_mod (i := m) (by omega)) (by rcases hb with rfl | rfl <;> rfl) (by rcases hb with rfl | rfl <;> rfl) (Nat.le_of_ble_eq_true rfl) (st_5 (by omega)) dX5_setBypassDiode_34 ?_
      refine g_iconst (pc := 37) dX5_setBypassDiode_37 ?_
      exact g_iret (pc := 38) dX5_setBypassDiode_38 rfl (wr_of (by unfold a_setDio; (repeat' split) <;> first | rfl | (exfalso; omega)) (by unfold t_setDio; (repeat' split) <;> first | rfl | (exfalso; omega)))
    · refine g_iconst (pc := 25) dX5_setBypassDiode_25 ?_
      exact g_iret (pc := 26) dX5_setBypassDiode_26 rfl (wr_of (by unfold a_setDio; (repeat' split) <;> first | rfl | (exfalso; omega)) (by unfold t_setDio; (repeat' split) <;> first | rfl | (exfalso; omega)))
  · refine g_one ?_
    refine g_if_neF (pc := 5) 12 dX5_setBypassDiode_5 (by decide) (by omega) (by omega) ?_
    refine g_sipush (pc := 8) dX5_setBypassDiode_8 (by omega) ?_
    exact g_iret (pc := 11) dX5_setBypassDiode_11 rfl (wr_of (by unfold a_setDio; (repeat' split) <;> first | rfl | (exfalso; omega)) (by unfold t_setDio; (repeat' split) <;> first | rfl | (exfalso; omega)))
set_option maxRecDepth 100000 in
set_option maxHeartbeats 2000000 in
/-- PvArray.setDiodeDrop  -/
theorem c_X5_setDiodeDrop {D : va_G} {cy : Nat → ClassId} {l : Launch} {ad : Nat → Nat} {σ : Nat → Int → Int} {X : va_W} (hB : Bd σ) (z : Int) (hz : -2147483648 ≤ z ∧ z ≤ 2147483647) : Con D cy l yX5_setDiodeDrop cX5_setDiodeDrop 3 (some .int) rm_X5_setDiodeDrop [.ref (ad 0), .int (zI z)] (CW cy ad σ ++ X) (rdI (a_setDrop σ z) (CW cy ad (t_setDrop σ z) ++ X)) := by
  refine Con.of (lv := [(0, .ref (ad 0)), (1, .int (zI z))]) (by decide) (Nat.le_of_ble_eq_true rfl) rfl ?_
  have g1 := hB.sc
  have g2 := hB.mc
  refine g_iload_n (pc := 0) dX5_setDiodeDrop_0 1 rfl ?_
  refine g_iconst (pc := 1) dX5_setDiodeDrop_1 ?_
  refine g_bipush (pc := 2) dX5_setDiodeDrop_2 (by omega) ?_
  refine g_callS (pc := 4) (As := [.int (zI z), .int (zI 0), .int (zI 20)]) (rest := []) k_X5_74_X5 (c_X5_isWithin (σ := σ) z 0 20 (by omega) (by omega) (by omega)) ⟨rfl, rfl, Nat.le_of_ble_eq_true rfl, Nat.le_of_ble_eq_true rfl⟩ rfl rfl (Nat.le_of_ble_eq_true rfl) dX5_setDiodeDrop_4 (fun v_ w_ hq_ => ?_)
  rcases hq_ with ⟨rfl, rfl, hw_1⟩ | ⟨rfl, rfl, hw_1⟩
  · refine g_one ?_
    refine g_if_neT (pc := 7) 14 dX5_setDiodeDrop_7 (by decide) (by omega) (by omega) ?_
    refine g_aload_n (pc := 14) dX5_setDiodeDrop_14 0 rfl ?_
    refine g_get (pc := 15) (ci := 4) inG_X5 rfl 0 (by decide) rfl fl_X5_55 (0) at_arr rfl dX5_setDiodeDrop_15 ?_
    refine g_getN (pc := 18) (ci := 0) inG_X1 rfl 0 (by decide) rfl fl_X5_109 (1) at_dio rfl dX5_setDiodeDrop_18 ?_
    refine g_istore_n (pc := 21) (lv' := [(2, .int (zI (σ 0 0))), (0, .ref (ad 0)), (1, .int (zI z))]) dX5_setDiodeDrop_21 (by decide) rfl ?_
    refine g_aload_n (pc := 22) dX5_setDiodeDrop_22 1 rfl ?_
    refine g_get (pc := 23) (ci := 4) inG_X5 rfl 0 (by decide) rfl fl_X5_55 (0) at_arr rfl dX5_setDiodeDrop_23 ?_
    refine g_iload_n (pc := 26) dX5_setDiodeDrop_26 2 rfl ?_
    refine g_putN (pc := 27) (ci := 0) inG_X1 tyX1 tyX1_ok nmX1 rfl 0 (by decide) rfl rfl fl_X5_109 (1) at_dio rfl rfl (Nat.le_of_ble_eq_true rfl) st_0_0 dX5_setDiodeDrop_27 ?_
    refine g_iload_n (pc := 30) dX5_setDiodeDrop_30 0 rfl ?_
    exact g_iret (pc := 31) dX5_setDiodeDrop_31 rfl (wr_of (by unfold a_setDrop; (repeat' split) <;> first | rfl | (exfalso; omega)) (by unfold t_setDrop; (repeat' split) <;> first | rfl | (exfalso; omega)))
  · refine g_one ?_
    refine g_if_neF (pc := 7) 14 dX5_setDiodeDrop_7 (by decide) (by omega) (by omega) ?_
    refine g_sipush (pc := 10) dX5_setDiodeDrop_10 (by omega) ?_
    exact g_iret (pc := 13) dX5_setDiodeDrop_13 rfl (wr_of (by unfold a_setDrop; (repeat' split) <;> first | rfl | (exfalso; omega)) (by unfold t_setDrop; (repeat' split) <;> first | rfl | (exfalso; omega)))
set_option maxRecDepth 100000 in
set_option maxHeartbeats 2000000 in
/-- PvArray.shade, the loop at 45  -/
theorem lp_X5_shade {D : va_G} {cy : Nat → ClassId} {l : Launch} {ad : Nat → Nat} {σ : Nat → Int → Int} {X : va_W} (hB : Bd σ) (hL : LC σ) (a b q : Int) (ha : 0 ≤ a ∧ a < σ 0 1) (hb : 0 ≤ b ∧ b < σ 0 1) (hq : 0 ≤ q ∧ q ≤ 100) (hab : a ≤ b) : ∀ (n : Nat) (m : Int), a ≤ m → m ≤ b + 1 → (b + 1 - m).toNat < n → GO D cy l rm_X5_shade cX5_shade 7 yX5_shade.cls (some .int) (CW cy ad σ ++ X) (rdI (a_shade σ a b q) (CW cy ad (t_shade σ a b q) ++ X)) (CW cy ad (shS σ a m q) ++ X) 45 [(0, .ref (ad 0)), (1, .int (zI a)), (2, .int (zI b)), (3, .int (zI q)), (4, .int (zI (shC (σ 3) q a (m - a).toNat))), (5, .int (zI m))] [] := by
  intro n
  induction n with
  | zero =>
    intro m hm hm2 hn
    exact absurd hn (Nat.not_lt_zero _)
  | succ n ih =>
    intro m hm hm2 hn
    have g1 := hB.sc
    have g2 := hB.mc
    have hB2 := hB.shS a m hq
    have g3 := mulq_b (hB.b3 m) hq
    have g4 := hB.b3 m
    have g5 := shC_b (σ 3) q a (m - a).toNat
    refine g_iload (pc := 45) dX5_shade_45 5 rfl ?_
    refine g_iload_n (pc := 47) dX5_shade_47 2 rfl ?_
    refine g_icmp_gt (pc := 48) 107 dX5_shade_48 (by decide) (by omega) (by omega) (fun h_1 => ?_) (fun h_1 => ?_)
    · refine g_iload (pc := 107) dX5_shade_107 4 rfl ?_
      exact g_iret (pc := 109) dX5_shade_109 rfl (wr_of (by unfold a_shade; rw [if_pos (by omega), if_pos (by omega), show m = b + 1 by omega]) (by unfold t_shade; rw [if_pos (by omega), show m = b + 1 by omega]))
    · refine g_aload_n (pc := 51) dX5_shade_51 0 rfl ?_
      refine g_get (pc := 52) (ci := 4) inG_X5 rfl 1 (by decide) rfl fl_X5_59 (0) at_arr rfl dX5_shade_52 ?_
      refine g_iload (pc := 55) dX5_shade_55 5 rfl ?_
      refine g_aald (pc := 57) 2 3 at_mods rfl (by omega) (by decide) rfl dX5_shade_57 ?_
      refine g_getN (pc := 58) (ci := 2) inG_X3 rfl 3 (by decide) rfl fl_X5_99 (7 + m.toNat) (at_mod (i := m) (by omega)) rfl dX5_shade_58 ?_
      refine g_topI (show (shS σ a m q) 3 m = σ 3 m from shR_at _ _ _ _) ?_
      refine g_istore (pc := 61) (lv' := [(6, .int (zI (σ 3 m))), (0, .ref (ad 0)), (1, .int (zI a)), (2, .int (zI b)), (3, .int (zI q)), (4, .int (zI (shC (σ 3) q a (m - a).toNat))), (5, .int (zI m))]) dX5_shade_61 (by decide) rfl ?_
      refine g_aload_n (pc := 63) dX5_shade_63 1 rfl ?_
      refine g_get (pc := 64) (ci := 4) inG_X5 rfl 1 (by decide) rfl fl_X5_59 (0) at_arr rfl dX5_shade_64 ?_
      refine g_iload (pc := 67) dX5_shade_67 6 rfl ?_
      refine g_aald (pc := 69) 2 3 at_mods rfl (by omega) (by decide) rfl dX5_shade_69 ?_
      refine g_iload (pc := 70) dX5_shade_70 0 rfl ?_
      refine g_bipush (pc := 72) dX5_shade_72 (by omega) ?_
      refine g_iload_n (pc := 74) dX5_shade_74 4 rfl ?_
      refine g_isub (pc := 75) dX5_shade_75 ?_
      refine g_imul (pc := 76) dX5_shade_76 ?_
      refine g_bipush (pc := 77) dX5_shade_77 (by omega) ?_
      refine g_idiv (pc := 79) dX5_shade_79 (by omega) (by omega) ?_
      refine g_callN (pc := 80) (As := [.int (zI (((σ 3 m) * (100 - q)) / 100))]) (rest := []) k_X5_88_X3 (c_X3_illuminate (σ := (shS σ a m q)) m (hB2.b1 m) (by omega) (((σ 3 m) * (100 - q)) / 100) (by omega)) ⟨rfl, rfl, Nat.le_of_ble_eq_true rfl, Nat.le_of_ble_eq_true rfl⟩ (7 + m.toNat) 2 rfl rfl (at_mod (i := m) (by omega)) rfl rfl (Nat.le_of_ble_eq_true rfl) dX5_shade_80 (fun v_ w_ hq_ => ?_)
      obtain ⟨rfl, rfl⟩ := hq_
      refine g_none ?_
      refine g_aload_n (pc := 83) dX5_shade_83 1 rfl ?_
      refine g_get (pc := 84) (ci := 4) inG_X5 rfl 1 (by decide) rfl fl_X5_59 (0) at_arr rfl dX5_shade_84 ?_
      refine g_iload (pc := 87) dX5_shade_87 6 rfl ?_
      refine g_aald (pc := 89) 2 3 at_mods rfl (by omega) (by decide) rfl dX5_shade_89 ?_
      refine g_getN (pc := 90) (ci := 2) inG_X3 rfl 3 (by decide) rfl fl_X5_99 (7 + m.toNat) (at_mod (i := m) (by omega)) rfl dX5_shade_90 ?_
      refine g_topI (show ilm (shS σ a m q) m (σ 3 m * (100 - q) / 100) 3 m = σ 3 m * (100 - q) / 100 from zup_s _ _ _) ?_
      refine g_iload (pc := 93) dX5_shade_93 0 rfl ?_
      refine g_icmp_eq (pc := 95) 101 dX5_shade_95 (by decide) (by omega) (by omega) (fun h_2 => ?_) (fun h_2 => ?_)
      · refine g_iinc (pc := 101) (lv' := [(5, .int (zI (m + 1))), (6, .int (zI (σ 3 m))), (0, .ref (ad 0)), (1, .int (zI a)), (2, .int (zI b)), (3, .int (zI q)), (4, .int (zI (shC (σ 3) q a (m - a).toNat)))]) dX5_shade_101 (by decide) 6 rfl rfl ?_
        refine g_goto (pc := 104) 45 dX5_shade_104 (by decide) ?_
        refine g_sub (lv' := [(0, .ref (ad 0)), (1, .int (zI a)), (2, .int (zI b)), (3, .int (zI q)), (4, .int (zI (shC (σ 3) q a (m - a).toNat))), (5, .int (zI (m + 1)))]) [2, 3, 4, 5, 6, 0] rfl ?_
        refine g_lv (lv' := [(0, .ref (ad 0)), (1, .int (zI a)), (2, .int (zI b)), (3, .int (zI q)), (4, .int (zI (shC (σ 3) q a ((m + 1) - a).toNat))), (5, .int (zI (m + 1)))]) (by rw [shC_s _ _ hm]; rw [if_pos (by omega), Int.add_zero]) ?_
        refine g_world (w' := CW cy ad (shS σ a (m + 1) q) ++ X) (by rw [← shS_s σ hm]; rfl) ?_
        exact ih (m + 1) (by omega) (by omega) (by omega)
      · refine g_iinc (pc := 98) (lv' := [(4, .int (zI ((shC (σ 3) q a (m - a).toNat) + 1))), (6, .int (zI (σ 3 m))), (0, .ref (ad 0)), (1, .int (zI a)), (2, .int (zI b)), (3, .int (zI q)), (5, .int (zI m))]) dX5_shade_98 (by decide) 5 rfl rfl ?_
        refine g_iinc (pc := 101) (lv' := [(5, .int (zI (m + 1))), (4, .int (zI ((shC (σ 3) q a (m - a).toNat) + 1))), (6, .int (zI (σ 3 m))), (0, .ref (ad 0)), (1, .int (zI a)), (2, .int (zI b)), (3, .int (zI q))]) dX5_shade_101 (by decide) 6 rfl rfl ?_
        refine g_goto (pc := 104) 45 dX5_shade_104 (by decide) ?_
        refine g_sub (lv' := [(0, .ref (ad 0)), (1, .int (zI a)), (2, .int (zI b)), (3, .int (zI q)), (4, .int (zI ((shC (σ 3) q a (m - a).toNat) + 1))), (5, .int (zI (m + 1)))]) [3, 4, 5, 6, 1, 0] rfl ?_
        refine g_lv (lv' := [(0, .ref (ad 0)), (1, .int (zI a)), (2, .int (zI b)), (3, .int (zI q)), (4, .int (zI (shC (σ 3) q a ((m + 1) - a).toNat))), (5, .int (zI (m + 1)))]) (by rw [shC_s _ _ hm]; rw [if_neg (by omega)]) ?_
        refine g_world (w' := CW cy ad (shS σ a (m + 1) q) ++ X) (by rw [← shS_s σ hm]; rfl) ?_
        exact ih (m + 1) (by omega) (by omega) (by omega)
set_option maxRecDepth 100000 in
set_option maxHeartbeats 2000000 in
/-- PvArray.shade  -/
theorem c_X5_shade {D : va_G} {cy : Nat → ClassId} {l : Launch} {ad : Nat → Nat} {σ : Nat → Int → Int} {X : va_W} (hB : Bd σ) (hL : LC σ) (a : Int) (ha : -2147483648 ≤ a ∧ a ≤ 2147483647) (b : Int) (hb : -2147483648 ≤ b ∧ b ≤ 2147483647) (q : Int) (hq : -2147483648 ≤ q ∧ q ≤ 2147483647) : Con D cy l yX5_shade cX5_shade 7 (some .int) rm_X5_shade [.ref (ad 0), .int (zI a), .int (zI b), .int (zI q)] (CW cy ad σ ++ X) (rdI (a_shade σ a b q) (CW cy ad (t_shade σ a b q) ++ X)) := by
  refine Con.of (lv := [(0, .ref (ad 0)), (1, .int (zI a)), (2, .int (zI b)), (3, .int (zI q))]) (by decide) (Nat.le_of_ble_eq_true rfl) rfl ?_
  have g1 := hB.sc
  have g2 := hB.mc
  refine g_aload_n (pc := 0) dX5_shade_0 0 rfl ?_
  refine g_iload_n (pc := 1) dX5_shade_1 1 rfl ?_
  refine g_callV (pc := 2) (As := [.int (zI a)]) (rest := []) k_X5_96_X5 (c_X5_isModule (σ := σ) hB a (by omega)) ⟨rfl, rfl, Nat.le_of_ble_eq_true rfl, Nat.le_of_ble_eq_true rfl⟩ (0) 4 rfl rfl at_arr rfl rfl (Nat.le_of_ble_eq_true rfl) dX5_shade_2 (fun v_ w_ hq_ => ?_)
  rcases hq_ with ⟨rfl, rfl, hm_1⟩ | ⟨rfl, rfl, hm_1⟩
  · refine g_one ?_
    refine g_if_eqF (pc := 5) 16 dX5_shade_5 (by decide) (by omega) (by omega) ?_
    refine g_aload_n (pc := 8) dX5_shade_8 0 rfl ?_
    refine g_iload_n (pc := 9) dX5_shade_9 2 rfl ?_
    refine g_callV (pc := 10) (As := [.int (zI b)]) (rest := []) k_X5_96_X5 (c_X5_isModule (σ := σ) hB b (by omega)) ⟨rfl, rfl, Nat.le_of_ble_eq_true rfl, Nat.le_of_ble_eq_true rfl⟩ (0) 4 rfl rfl at_arr rfl rfl (Nat.le_of_ble_eq_true rfl) dX5_shade_10 (fun v_ w_ hq_ => ?_)
    rcases hq_ with ⟨rfl, rfl, hm_2⟩ | ⟨rfl, rfl, hm_2⟩
    · refine g_one ?_
      refine g_if_neT (pc := 13) 20 dX5_shade_13 (by decide) (by omega) (by omega) ?_
      refine g_iload_n (pc := 20) dX5_shade_20 1 rfl ?_
      refine g_iload_n (pc := 21) dX5_shade_21 2 rfl ?_
      refine g_icmp_gt (pc := 22) 35 dX5_shade_22 (by decide) (by omega) (by omega) (fun h_3 => ?_) (fun h_3 => ?_)
      · refine g_sipush (pc := 35) dX5_shade_35 (by omega) ?_
        exact g_iret (pc := 38) dX5_shade_38 rfl (wr_of (by unfold a_shade; (repeat' split) <;> first | rfl | (exfalso; omega)) (by unfold t_shade; (repeat' split) <;> first | rfl | (exfalso; omega)))
      · refine g_iload_n (pc := 25) dX5_shade_25 3 rfl ?_
        refine g_iconst (pc := 26) dX5_shade_26 ?_
        refine g_bipush (pc := 27) dX5_shade_27 (by omega) ?_
        refine g_callS (pc := 29) (As := [.int (zI q), .int (zI 0), .int (zI 100)]) (rest := []) k_X5_74_X5 (c_X5_isWithin (σ := σ) q 0 100 (by omega) (by omega) (by omega)) ⟨rfl, rfl, Nat.le_of_ble_eq_true rfl, Nat.le_of_ble_eq_true rfl⟩ rfl rfl (Nat.le_of_ble_eq_true rfl) dX5_shade_29 (fun v_ w_ hq_ => ?_)
        rcases hq_ with ⟨rfl, rfl, hw_4⟩ | ⟨rfl, rfl, hw_4⟩
        · refine g_one ?_
          refine g_if_neT (pc := 32) 39 dX5_shade_32 (by decide) (by omega) (by omega) ?_
          refine g_iconst (pc := 39) dX5_shade_39 ?_
          refine g_istore (pc := 40) (lv' := [(4, .int (zI 0)), (0, .ref (ad 0)), (1, .int (zI a)), (2, .int (zI b)), (3, .int (zI q))]) dX5_shade_40 (by decide) rfl ?_
          refine g_iload_n (pc := 42) dX5_shade_42 2 rfl ?_
          refine g_istore (pc := 43) (lv' := [(5, .int (zI a)), (4, .int (zI 0)), (0, .ref (ad 0)), (1, .int (zI a)), (2, .int (zI b)), (3, .int (zI q))]) dX5_shade_43 (by decide) rfl ?_
          refine g_sub (lv' := [(0, .ref (ad 0)), (1, .int (zI a)), (2, .int (zI b)), (3, .int (zI q)), (4, .int (zI 0)), (5, .int (zI a))]) [2, 3, 4, 5, 1, 0] rfl ?_
          refine g_lv (lv' := [(0, .ref (ad 0)), (1, .int (zI a)), (2, .int (zI b)), (3, .int (zI q)), (4, .int (zI (shC (σ 3) q a (a - a).toNat))), (5, .int (zI a))]) (by rw [show a - a = 0 by omega]; rfl) ?_
          refine g_world (w' := CW cy ad (shS σ a a q) ++ X) (by rw [shS_0 hL]) ?_
          exact lp_X5_shade hB hL a b q (by omega) (by omega) (by omega) (by omega) ((b + 1 - a).toNat + 1) a (by omega) (by omega) (by omega)
        · refine g_one ?_
          refine g_if_neF (pc := 32) 39 dX5_shade_32 (by decide) (by omega) (by omega) ?_
          refine g_sipush (pc := 35) dX5_shade_35 (by omega) ?_
          exact g_iret (pc := 38) dX5_shade_38 rfl (wr_of (by unfold a_shade; (repeat' split) <;> first | rfl | (exfalso; omega)) (by unfold t_shade; (repeat' split) <;> first | rfl | (exfalso; omega)))
    · refine g_one ?_
      refine g_if_neF (pc := 13) 20 dX5_shade_13 (by decide) (by omega) (by omega) ?_
      refine g_sipush (pc := 16) dX5_shade_16 (by omega) ?_
      exact g_iret (pc := 19) dX5_shade_19 rfl (wr_of (by unfold a_shade; (repeat' split) <;> first | rfl | (exfalso; omega)) (by unfold t_shade; (repeat' split) <;> first | rfl | (exfalso; omega)))
  · refine g_one ?_
    refine g_if_eqT (pc := 5) 16 dX5_shade_5 (by decide) (by omega) (by omega) ?_
    refine g_sipush (pc := 16) dX5_shade_16 (by omega) ?_
    exact g_iret (pc := 19) dX5_shade_19 rfl (wr_of (by unfold a_shade; (repeat' split) <;> first | rfl | (exfalso; omega)) (by unfold t_shade; (repeat' split) <;> first | rfl | (exfalso; omega)))
