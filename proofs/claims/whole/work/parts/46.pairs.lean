/-! each call of the law: the class's contract and the reference's, with one answer; the two states hold together after it -/
theorem Con.mono {D : va_G} {cy : Nat → ClassId} {l : Launch} {y : MethodName} {cc : ByteArray} {nL : Nat} {ret : Option FieldType} {rm : Room} {av : List Value} {w0 : va_W} {Q Q' : Option Value → va_W → Prop} (h : Con D cy l y cc nL ret rm av w0 Q) (hq : ∀ v w', Q v w' → Q' v w') : Con D cy l y cc nL ret rm av w0 Q' := by
  intro sz p e ha hc hk s m args below hf happ hP ht
  obtain ⟨k, oc, h1, h2, h3, ⟨v, w', e1, q, r⟩, L⟩ := h sz p e ha hc hk s m args below hf happ hP ht
  exact ⟨k, oc, h1, h2, h3, ⟨v, w', e1, hq v w' q, r⟩, L⟩
def Pr (D : va_G) (cy : Nat → ClassId) (l : Launch) (ad bd : Nat → Nat) (σ τ : Nat → Int → Int) (y1 : MethodName) (c1 : ByteArray) (n1 : Nat) (rm1 : Room) (y2 : MethodName) (c2 : ByteArray) (n2 : Nat) (rm2 : Room) (rt : FieldType) (As : List Value) (val : Value) : Prop :=
  ∃ OK : (Nat → Int → Int) → Prop, (∀ X, Con D cy l y1 c1 n1 (some rt) rm1 (.ref (ad 0) :: As) (CW cy ad σ ++ X) (fun v w' => v = some val ∧ ∃ σ', w' = CW cy ad σ' ++ X ∧ OK σ')) ∧ ∀ σ', OK σ' → ∀ X, Con D cy l y2 c2 n2 (some rt) rm2 (.ref (bd 0) :: As) (MW cy bd τ ++ X) (fun v w' => v = some val ∧ ∃ τ', w' = MW cy bd τ' ++ X ∧ Inv σ' ∧ Rel σ' τ')
section PRS
variable {D : va_G} {cy : Nat → ClassId} {l : Launch} {ad bd : Nat → Nat} {σ τ : Nat → Int → Int}
theorem Inv.B (h : Inv σ) : Bd σ := h.1
theorem Inv.L (h : Inv σ) : LC σ := h.2.1
theorem Inv.P (h : Inv σ) : Pos σ (σ 9) (σ 10) := h.2.2.1
theorem Inv.U (h : Inv σ) : Unu σ := h.2.2.2.1
theorem Ra_setIrr (h : Rel σ τ) (m z : Int) : a_setIrr τ m z = a_setIrr σ m z := by unfold a_setIrr; rw [h.2.1, h.2.2.2.2.2.1]
theorem Ra_setRes (h : Rel σ τ) (m z : Int) : a_setRes τ m z = a_setRes σ m z := by unfold a_setRes; rw [h.2.1, h.2.2.2.2.2.2.1]
theorem Ra_setDrop (h : Rel σ τ) (z : Int) : a_setDrop τ z = a_setDrop σ z := by unfold a_setDrop; rw [h.1]
theorem Ra_addStr (h : Rel σ τ) : a_addStr τ = a_addStr σ := by unfold a_addStr; rw [h.2.2.1]
theorem Ra_shade (h : Rel σ τ) (a b q : Int) : a_shade τ a b q = a_shade σ a b q := by unfold a_shade; rw [h.2.1, h.2.2.2.2.2.1]
theorem Ra_stringOf (h : Rel σ τ) (m : Int) : a_stringOf τ (σ 9) m = a_stringOf σ (σ 9) m := by unfold a_stringOf; rw [h.2.1]
theorem Ra_swap (h : Rel σ τ) (a b : Int) : a_swap τ (σ 9) a b = a_swap σ (σ 9) a b := by unfold a_swap; rw [h.2.1]
theorem p_addString (hI : Inv σ) (hR : Rel σ τ)  : Pr D cy l ad bd σ τ yX5_addString cX5_addString 1 rm_X5_addString yX6_addString cX6_addString 1 rm_X6_addString .int [] (.int (zI (a_addStr σ))) := by
  exact ⟨_, fun X => (c_X5_addString hI.B ).mono (fun v w' qq => ⟨qq.1, _, qq.2, rfl⟩), fun σ' hσ X => (c_X6_addString (Rel_Bd hR hI.B) ).mono (fun v w' qq => ⟨by rw [qq.1, Ra_addStr hR], _, qq.2, by rw [← hσ]; exact keep_addStr hI hR ⟩)⟩
theorem p_addModule (hI : Inv σ) (hR : Rel σ τ) (s : Int) (hs : -2147483648 ≤ s ∧ s ≤ 2147483647) (r : Int) (hr : -2147483648 ≤ r ∧ r ≤ 2147483647) (o : Int) (ho : -2147483648 ≤ o ∧ o ≤ 2147483647) : Pr D cy l ad bd σ τ yX5_addModule cX5_addModule 5 rm_X5_addModule yX6_addModule cX6_addModule 4 rm_X6_addModule .int [.int (zI s), .int (zI r), .int (zI o)] (.int (zI (a_addMod σ s r o))) := by
  refine ⟨fun σ' => (ok_addMod σ s r o ∧ σ' = n_addMod σ s r o) ∨ (¬ ok_addMod σ s r o ∧ σ' = σ), fun X => (c_X5_addModule hI.B s hs r hr o ho).mono (fun v w' q => ?_), fun σ' hσ X => (c_X6_addModule (Rel_Bd hR hI.B) s hs r hr o ho).mono (fun v w' q => ?_)⟩
  · rcases q with ⟨c1, c2, c3⟩ | ⟨c1, c2, c3⟩
    · exact ⟨c2, _, c3, Or.inl ⟨c1, rfl⟩⟩
    · exact ⟨c2, _, c3, Or.inr ⟨c1, rfl⟩⟩
  · have he := (a_addMod_eq hR s r o)
    rcases q with ⟨c1, c2, c3⟩ | ⟨c1, c2, c3⟩
    · rcases hσ with ⟨d1, d2⟩ | ⟨d1, d2⟩
      · exact ⟨by rw [c2, he.1], _, c3, by rw [d2]; exact keep_addMod hI hR d1⟩
      · exact absurd (he.2.mp c1) d1
    · rcases hσ with ⟨d1, d2⟩ | ⟨d1, d2⟩
      · exact absurd (he.2.mpr d1) c1
      · exact ⟨by rw [c2, he.1], _, c3, by rw [d2]; exact ⟨hI, hR⟩⟩
theorem p_setIrradiance (hI : Inv σ) (hR : Rel σ τ) (m : Int) (hm : -2147483648 ≤ m ∧ m ≤ 2147483647) (z : Int) (hz : -2147483648 ≤ z ∧ z ≤ 2147483647) : Pr D cy l ad bd σ τ yX5_setIrradiance cX5_setIrradiance 4 rm_X5_setIrradiance yX6_setIrradiance cX6_setIrradiance 4 rm_X6_setIrradiance .int [.int (zI m), .int (zI z)] (.int (zI (a_setIrr σ m z))) := by
  exact ⟨_, fun X => (c_X5_setIrradiance hI.B m hm z hz).mono (fun v w' qq => ⟨qq.1, _, qq.2, rfl⟩), fun σ' hσ X => (c_X6_setIrradiance (Rel_Bd hR hI.B) m hm z hz).mono (fun v w' qq => ⟨by rw [qq.1, Ra_setIrr hR], _, qq.2, by rw [← hσ]; exact keep_setIrr hI hR m z⟩)⟩
theorem p_shade (hI : Inv σ) (hR : Rel σ τ) (a : Int) (ha : -2147483648 ≤ a ∧ a ≤ 2147483647) (b : Int) (hb : -2147483648 ≤ b ∧ b ≤ 2147483647) (q : Int) (hq : -2147483648 ≤ q ∧ q ≤ 2147483647) : Pr D cy l ad bd σ τ yX5_shade cX5_shade 7 rm_X5_shade yX6_shade cX6_shade 7 rm_X6_shade .int [.int (zI a), .int (zI b), .int (zI q)] (.int (zI (a_shade σ a b q))) := by
  exact ⟨_, fun X => (c_X5_shade hI.B hI.L a ha b hb q hq).mono (fun v w' qq => ⟨qq.1, _, qq.2, rfl⟩), fun σ' hσ X => (c_X6_shade (Rel_Bd hR hI.B) a ha b hb q hq).mono (fun v w' qq => ⟨by rw [qq.1, Ra_shade hR], _, qq.2, by rw [← hσ]; exact keep_shade hI hR a b q⟩)⟩
theorem p_setResistance (hI : Inv σ) (hR : Rel σ τ) (m : Int) (hm : -2147483648 ≤ m ∧ m ≤ 2147483647) (z : Int) (hz : -2147483648 ≤ z ∧ z ≤ 2147483647) : Pr D cy l ad bd σ τ yX5_setResistance cX5_setResistance 4 rm_X5_setResistance yX6_setResistance cX6_setResistance 4 rm_X6_setResistance .int [.int (zI m), .int (zI z)] (.int (zI (a_setRes σ m z))) := by
  exact ⟨_, fun X => (c_X5_setResistance hI.B m hm z hz).mono (fun v w' qq => ⟨qq.1, _, qq.2, rfl⟩), fun σ' hσ X => (c_X6_setResistance (Rel_Bd hR hI.B) m hm z hz).mono (fun v w' qq => ⟨by rw [qq.1, Ra_setRes hR], _, qq.2, by rw [← hσ]; exact keep_setRes hI hR m z⟩)⟩
theorem p_setBypassDiode (hI : Inv σ) (hR : Rel σ τ) (m : Int) (hm : -2147483648 ≤ m ∧ m ≤ 2147483647) (b : Int) (hb : b = 0 ∨ b = 1) : Pr D cy l ad bd σ τ yX5_setBypassDiode cX5_setBypassDiode 3 rm_X5_setBypassDiode yX6_setBypassDiode cX6_setBypassDiode 4 rm_X6_setBypassDiode .int [.int (zI m), .int (zI b)] (.int (zI (a_setDio σ m b))) := by
  exact ⟨_, fun X => (c_X5_setBypassDiode hI.B m hm b hb).mono (fun v w' qq => ⟨qq.1, _, qq.2, rfl⟩), fun σ' hσ X => (c_X6_setBypassDiode (Rel_Bd hR hI.B) m hm b hb).mono (fun v w' qq => ⟨by rw [qq.1, a_setDio_eq hR], _, qq.2, by rw [← hσ]; exact keep_setDio hI hR m b hb⟩)⟩
theorem p_setDiodeDrop (hI : Inv σ) (hR : Rel σ τ) (z : Int) (hz : -2147483648 ≤ z ∧ z ≤ 2147483647) : Pr D cy l ad bd σ τ yX5_setDiodeDrop cX5_setDiodeDrop 3 rm_X5_setDiodeDrop yX6_setDiodeDrop cX6_setDiodeDrop 3 rm_X6_setDiodeDrop .int [.int (zI z)] (.int (zI (a_setDrop σ z))) := by
  exact ⟨_, fun X => (c_X5_setDiodeDrop hI.B z hz).mono (fun v w' qq => ⟨qq.1, _, qq.2, rfl⟩), fun σ' hσ X => (c_X6_setDiodeDrop (Rel_Bd hR hI.B) z hz).mono (fun v w' qq => ⟨by rw [qq.1, Ra_setDrop hR], _, qq.2, by rw [← hσ]; exact keep_setDrop hI hR z⟩)⟩
theorem p_moveModule (hI : Inv σ) (hR : Rel σ τ) (m : Int) (hm : -2147483648 ≤ m ∧ m ≤ 2147483647) (s : Int) (hs : -2147483648 ≤ s ∧ s ≤ 2147483647) : Pr D cy l ad bd σ τ yX5_moveModule cX5_moveModule 3 rm_X5_moveModule yX6_moveModule cX6_moveModule 3 rm_X6_moveModule .int [.int (zI m), .int (zI s)] (.int (zI (a_move σ (σ 9) m s))) := by
  refine ⟨fun σ' => (ok_move σ (σ 9) m s ∧ σ' = n_move σ m s) ∨ (¬ ok_move σ (σ 9) m s ∧ σ' = σ), fun X => (c_X5_moveModule hI.B hI.P hI.U m hm s hs).mono (fun v w' q => ?_), fun σ' hσ X => (c_X6_moveModule (Rel_Bd hR hI.B) (Rel_Pos hR hI.P) m hm s hs).mono (fun v w' q => ?_)⟩
  · rcases q with ⟨c1, c2, c3⟩ | ⟨c1, c2, c3⟩
    · exact ⟨c2, _, c3, Or.inl ⟨c1, rfl⟩⟩
    · exact ⟨c2, _, c3, Or.inr ⟨c1, rfl⟩⟩
  · have he := (a_move_eq hR m s)
    rcases q with ⟨c1, c2, c3⟩ | ⟨c1, c2, c3⟩
    · rcases hσ with ⟨d1, d2⟩ | ⟨d1, d2⟩
      · exact ⟨by rw [c2, he.1], _, c3, by rw [d2]; exact keep_move hI hR d1⟩
      · exact absurd (he.2.mp c1) d1
    · rcases hσ with ⟨d1, d2⟩ | ⟨d1, d2⟩
      · exact absurd (he.2.mpr d1) c1
      · exact ⟨by rw [c2, he.1], _, c3, by rw [d2]; exact ⟨hI, hR⟩⟩
theorem p_swapModules (hI : Inv σ) (hR : Rel σ τ) (a : Int) (ha : -2147483648 ≤ a ∧ a ≤ 2147483647) (b : Int) (hb : -2147483648 ≤ b ∧ b ≤ 2147483647) : Pr D cy l ad bd σ τ yX5_swapModules cX5_swapModules 3 rm_X5_swapModules yX6_swapModules cX6_swapModules 3 rm_X6_swapModules .int [.int (zI a), .int (zI b)] (.int (zI (a_swap σ (σ 9) a b))) := by
  refine ⟨fun σ' => (((0 ≤ a ∧ a < σ 0 1) ∧ (0 ≤ b ∧ b < σ 0 1)) ∧ σ' = exc σ a b) ∨ (¬ ((0 ≤ a ∧ a < σ 0 1) ∧ (0 ≤ b ∧ b < σ 0 1)) ∧ σ' = σ), fun X => (c_X5_swapModules hI.B hI.P a ha b hb).mono (fun v w' q => ?_), fun σ' hσ X => (c_X6_swapModules (Rel_Bd hR hI.B) (Rel_Pos hR hI.P) a ha b hb).mono (fun v w' q => ?_)⟩
  · rcases q with ⟨c1, c2, c3⟩ | ⟨c1, c2, c3⟩
    · exact ⟨c2, _, c3, Or.inl ⟨c1, rfl⟩⟩
    · exact ⟨c2, _, c3, Or.inr ⟨c1, rfl⟩⟩
  · have he := Ra_swap hR a b
    rw [hR.2.1] at q
    rcases q with ⟨c1, c2, c3⟩ | ⟨c1, c2, c3⟩
    · rcases hσ with ⟨d1, d2⟩ | ⟨d1, d2⟩
      · exact ⟨by rw [c2, he], _, c3, by rw [d2]; exact keep_exc hI hR d1.1 d1.2⟩
      · exact absurd c1 d1
    · rcases hσ with ⟨d1, d2⟩ | ⟨d1, d2⟩
      · exact absurd d1 c1
      · exact ⟨by rw [c2, he], _, c3, by rw [d2]; exact ⟨hI, hR⟩⟩
theorem p_stringOf (hI : Inv σ) (hR : Rel σ τ) (m : Int) (hm : -2147483648 ≤ m ∧ m ≤ 2147483647) : Pr D cy l ad bd σ τ yX5_stringOf cX5_stringOf 2 rm_X5_stringOf yX6_stringOf cX6_stringOf 2 rm_X6_stringOf .int [.int (zI m)] (.int (zI (a_stringOf σ (σ 9) m))) := by
  exact ⟨_, fun X => (c_X5_stringOf hI.B m hm).mono (fun v w' qq => ⟨qq.1, _, qq.2, rfl⟩), fun σ' hσ X => (c_X6_stringOf (Rel_Bd hR hI.B) (Rel_Pos hR hI.P) m hm).mono (fun v w' qq => ⟨by rw [qq.1, Ra_stringOf hR], _, qq.2, by rw [← hσ]; exact ⟨hI, hR⟩⟩)⟩
theorem p_moduleAt (hI : Inv σ) (hR : Rel σ τ) (s : Int) (hs : -2147483648 ≤ s ∧ s ≤ 2147483647) (p : Int) (hp : -2147483648 ≤ p ∧ p ≤ 2147483647) : Pr D cy l ad bd σ τ yX5_moduleAt cX5_moduleAt 3 rm_X5_moduleAt yX6_moduleAt cX6_moduleAt 3 rm_X6_moduleAt .int [.int (zI s), .int (zI p)] (.int (zI (a_moduleAt σ s p))) := by
  exact ⟨_, fun X => (c_X5_moduleAt hI.B s hs p hp).mono (fun v w' qq => ⟨qq.1, _, qq.2, rfl⟩), fun σ' hσ X => (c_X6_moduleAt (Rel_Bd hR hI.B) s hs p hp).mono (fun v w' qq => ⟨by rw [qq.1, Ra_moduleAt hR], _, qq.2, by rw [← hσ]; exact ⟨hI, hR⟩⟩)⟩
theorem p_photocurrent (hI : Inv σ) (hR : Rel σ τ) (m : Int) (hm : -2147483648 ≤ m ∧ m ≤ 2147483647) : Pr D cy l ad bd σ τ yX5_photocurrent cX5_photocurrent 2 rm_X5_photocurrent yX6_photocurrent cX6_photocurrent 2 rm_X6_photocurrent .int [.int (zI m)] (.int (zI (a_photocurrent σ m))) := by
  exact ⟨_, fun X => (c_X5_photocurrent hI.B hI.L m hm).mono (fun v w' qq => ⟨qq.1, _, qq.2, rfl⟩), fun σ' hσ X => (c_X6_photocurrent (Rel_Bd hR hI.B) m hm).mono (fun v w' qq => ⟨by rw [qq.1, Ra_photocurrent hR], _, qq.2, by rw [← hσ]; exact ⟨hI, hR⟩⟩)⟩
theorem p_moduleVoltage (hI : Inv σ) (hR : Rel σ τ) (m : Int) (hm : -2147483648 ≤ m ∧ m ≤ 2147483647) (c : Int) (hc : -2147483648 ≤ c ∧ c ≤ 2147483647) : Pr D cy l ad bd σ τ yX5_moduleVoltage cX5_moduleVoltage 3 rm_X5_moduleVoltage yX6_moduleVoltage cX6_moduleVoltage 3 rm_X6_moduleVoltage .int [.int (zI m), .int (zI c)] (.int (zI (a_moduleVoltage σ m c))) := by
  exact ⟨_, fun X => (c_X5_moduleVoltage hI.B hI.L m hm c hc).mono (fun v w' qq => ⟨qq.1, _, qq.2, rfl⟩), fun σ' hσ X => (c_X6_moduleVoltage (Rel_Bd hR hI.B) m hm c hc).mono (fun v w' qq => ⟨by rw [qq.1, Ra_moduleVoltage hR], _, qq.2, by rw [← hσ]; exact ⟨hI, hR⟩⟩)⟩
theorem p_modulePeakPower (hI : Inv σ) (hR : Rel σ τ) (m : Int) (hm : -2147483648 ≤ m ∧ m ≤ 2147483647) : Pr D cy l ad bd σ τ yX5_modulePeakPower cX5_modulePeakPower 2 rm_X5_modulePeakPower yX6_modulePeakPower cX6_modulePeakPower 2 rm_X6_modulePeakPower .long [.int (zI m)] (.long (zJ (a_modulePeakPower σ m))) := by
  exact ⟨_, fun X => (c_X5_modulePeakPower hI.B hI.L m hm).mono (fun v w' qq => ⟨qq.1, _, qq.2, rfl⟩), fun σ' hσ X => (c_X6_modulePeakPower (Rel_Bd hR hI.B) m hm).mono (fun v w' qq => ⟨by rw [qq.1, Ra_modulePeakPower hR], _, qq.2, by rw [← hσ]; exact ⟨hI, hR⟩⟩)⟩
theorem p_currentLimit (hI : Inv σ) (hR : Rel σ τ) (s : Int) (hs : -2147483648 ≤ s ∧ s ≤ 2147483647) : Pr D cy l ad bd σ τ yX5_currentLimit cX5_currentLimit 2 rm_X5_currentLimit yX6_currentLimit cX6_currentLimit 2 rm_X6_currentLimit .int [.int (zI s)] (.int (zI (a_currentLimit σ s))) := by
  exact ⟨_, fun X => (c_X5_currentLimit hI.B hI.L s hs).mono (fun v w' qq => ⟨qq.1, _, qq.2, rfl⟩), fun σ' hσ X => (c_X6_currentLimit (Rel_Bd hR hI.B) s hs).mono (fun v w' qq => ⟨by rw [qq.1, Ra_currentLimit hR hI.P], _, qq.2, by rw [← hσ]; exact ⟨hI, hR⟩⟩)⟩
theorem p_stringVoltage (hI : Inv σ) (hR : Rel σ τ) (s : Int) (hs : -2147483648 ≤ s ∧ s ≤ 2147483647) (c : Int) (hc : -2147483648 ≤ c ∧ c ≤ 2147483647) : Pr D cy l ad bd σ τ yX5_stringVoltage cX5_stringVoltage 3 rm_X5_stringVoltage yX6_stringVoltage cX6_stringVoltage 3 rm_X6_stringVoltage .int [.int (zI s), .int (zI c)] (.int (zI (a_stringVoltage σ s c))) := by
  exact ⟨_, fun X => (c_X5_stringVoltage hI.B hI.L s hs c hc).mono (fun v w' qq => ⟨qq.1, _, qq.2, rfl⟩), fun σ' hσ X => (c_X6_stringVoltage (Rel_Bd hR hI.B) s hs c hc).mono (fun v w' qq => ⟨by rw [qq.1, Ra_stringVoltage hR hI.P], _, qq.2, by rw [← hσ]; exact ⟨hI, hR⟩⟩)⟩
theorem p_stringPower (hI : Inv σ) (hR : Rel σ τ) (s : Int) (hs : -2147483648 ≤ s ∧ s ≤ 2147483647) (c : Int) (hc : -2147483648 ≤ c ∧ c ≤ 2147483647) : Pr D cy l ad bd σ τ yX5_stringPower cX5_stringPower 3 rm_X5_stringPower yX6_stringPower cX6_stringPower 3 rm_X6_stringPower .long [.int (zI s), .int (zI c)] (.long (zJ (a_stringPower σ s c))) := by
  exact ⟨_, fun X => (c_X5_stringPower hI.B hI.L s hs c hc).mono (fun v w' qq => ⟨qq.1, _, qq.2, rfl⟩), fun σ' hσ X => (c_X6_stringPower (Rel_Bd hR hI.B) s hs c hc).mono (fun v w' qq => ⟨by rw [qq.1, Ra_stringPower hR hI.P], _, qq.2, by rw [← hσ]; exact ⟨hI, hR⟩⟩)⟩
theorem p_bypassedModules (hI : Inv σ) (hR : Rel σ τ) (s : Int) (hs : -2147483648 ≤ s ∧ s ≤ 2147483647) (c : Int) (hc : -2147483648 ≤ c ∧ c ≤ 2147483647) : Pr D cy l ad bd σ τ yX5_bypassedModules cX5_bypassedModules 3 rm_X5_bypassedModules yX6_bypassedModules cX6_bypassedModules 5 rm_X6_bypassedModules .int [.int (zI s), .int (zI c)] (.int (a_bypassedModules σ s c)) := by
  exact ⟨_, fun X => (c_X5_bypassedModules hI.B hI.L s hs c hc).mono (fun v w' qq => ⟨qq.1, _, qq.2, rfl⟩), fun σ' hσ X => (c_X6_bypassedModules (Rel_Bd hR hI.B) s hs c hc).mono (fun v w' qq => ⟨by rw [qq.1, Ra_bypassedModules hR hI.P], _, qq.2, by rw [← hσ]; exact ⟨hI, hR⟩⟩)⟩
theorem p_peakCount (hI : Inv σ) (hR : Rel σ τ) (s : Int) (hs : -2147483648 ≤ s ∧ s ≤ 2147483647) : Pr D cy l ad bd σ τ yX5_peakCount cX5_peakCount 5 rm_X5_peakCount yX6_peakCount cX6_peakCount 4 rm_X6_peakCount .int [.int (zI s)] (.int (zI (a_peakCount σ s))) := by
  exact ⟨_, fun X => (c_X5_peakCount hI.B hI.L s hs).mono (fun v w' qq => ⟨qq.1, _, qq.2, rfl⟩), fun σ' hσ X => (c_X6_peakCount (Rel_Bd hR hI.B) s hs).mono (fun v w' q => by obtain ⟨τ', q1, q2, q3⟩ := q; exact ⟨by rw [q1, Ra_peakCount hR hI.P], τ', q2, by rw [← hσ]; exact ⟨hI, Rel_Sx hR q3⟩⟩)⟩
theorem p_peakCurrent (hI : Inv σ) (hR : Rel σ τ) (s : Int) (hs : -2147483648 ≤ s ∧ s ≤ 2147483647) (k : Int) (hk : -2147483648 ≤ k ∧ k ≤ 2147483647) : Pr D cy l ad bd σ τ yX5_peakCurrent cX5_peakCurrent 6 rm_X5_peakCurrent yX6_peakCurrent cX6_peakCurrent 5 rm_X6_peakCurrent .int [.int (zI s), .int (zI k)] (.int (zI (a_peakCurrent σ s k))) := by
  exact ⟨_, fun X => (c_X5_peakCurrent hI.B hI.L s hs k hk).mono (fun v w' qq => ⟨qq.1, _, qq.2, rfl⟩), fun σ' hσ X => (c_X6_peakCurrent (Rel_Bd hR hI.B) s hs k hk).mono (fun v w' q => by obtain ⟨τ', q1, q2, q3⟩ := q; exact ⟨by rw [q1, Ra_peakCurrent hR hI.P], τ', q2, by rw [← hσ]; exact ⟨hI, Rel_Sx hR q3⟩⟩)⟩
theorem p_bestCurrent (hI : Inv σ) (hR : Rel σ τ) (s : Int) (hs : -2147483648 ≤ s ∧ s ≤ 2147483647) : Pr D cy l ad bd σ τ yX5_bestCurrent cX5_bestCurrent 2 rm_X5_bestCurrent yX6_bestCurrent cX6_bestCurrent 2 rm_X6_bestCurrent .int [.int (zI s)] (.int (zI (a_bestCurrent σ s))) := by
  exact ⟨_, fun X => (c_X5_bestCurrent hI.B hI.L s hs).mono (fun v w' qq => ⟨qq.1, _, qq.2, rfl⟩), fun σ' hσ X => (c_X6_bestCurrent (Rel_Bd hR hI.B) s hs).mono (fun v w' q => by obtain ⟨τ', q1, q2, q3⟩ := q; exact ⟨by rw [q1, Ra_bestCurrent hR hI.P], τ', q2, by rw [← hσ]; exact ⟨hI, Rel_Sx hR q3⟩⟩)⟩
theorem p_bestPower (hI : Inv σ) (hR : Rel σ τ) (s : Int) (hs : -2147483648 ≤ s ∧ s ≤ 2147483647) : Pr D cy l ad bd σ τ yX5_bestPower cX5_bestPower 2 rm_X5_bestPower yX6_bestPower cX6_bestPower 2 rm_X6_bestPower .long [.int (zI s)] (.long (zJ (a_bestPower σ s))) := by
  exact ⟨_, fun X => (c_X5_bestPower hI.B hI.L s hs).mono (fun v w' qq => ⟨qq.1, _, qq.2, rfl⟩), fun σ' hσ X => (c_X6_bestPower (Rel_Bd hR hI.B) s hs).mono (fun v w' q => by obtain ⟨τ', q1, q2, q3⟩ := q; exact ⟨by rw [q1, Ra_bestPower hR hI.P], τ', q2, by rw [← hσ]; exact ⟨hI, Rel_Sx hR q3⟩⟩)⟩
theorem p_perturbAndObserve (hI : Inv σ) (hR : Rel σ τ) (s : Int) (hs : -2147483648 ≤ s ∧ s ≤ 2147483647) (a : Int) (ha : -2147483648 ≤ a ∧ a ≤ 2147483647) (t : Int) (ht : -2147483648 ≤ t ∧ t ≤ 2147483647) (it : Int) (hit : -2147483648 ≤ it ∧ it ≤ 2147483647) : Pr D cy l ad bd σ τ yX5_perturbAndObserve cX5_perturbAndObserve 11 rm_X5_perturbAndObserve yX6_perturbAndObserve cX6_perturbAndObserve 9 rm_X6_perturbAndObserve .int [.int (zI s), .int (zI a), .int (zI t), .int (zI it)] (.int (zI (a_perturb σ s a t it))) := by
  exact ⟨_, fun X => (c_X5_perturbAndObserve hI.B hI.L s hs a ha t ht it hit).mono (fun v w' qq => ⟨qq.1, _, qq.2, rfl⟩), fun σ' hσ X => (c_X6_perturbAndObserve (Rel_Bd hR hI.B) s hs a ha t ht it hit).mono (fun v w' q => by obtain ⟨τ', q1, q2, q3⟩ := q; exact ⟨by rw [q1, Ra_perturb hR hI.P], τ', q2, by rw [← hσ]; exact ⟨hI, Rel_Sx hR q3⟩⟩)⟩
theorem p_scanAndClimb (hI : Inv σ) (hR : Rel σ τ) (s : Int) (hs : -2147483648 ≤ s ∧ s ≤ 2147483647) (v : Int) (hv : -2147483648 ≤ v ∧ v ≤ 2147483647) : Pr D cy l ad bd σ τ yX5_scanAndClimb cX5_scanAndClimb 3 rm_X5_scanAndClimb yX6_scanAndClimb cX6_scanAndClimb 5 rm_X6_scanAndClimb .int [.int (zI s), .int (zI v)] (.int (zI (a_scan σ s v))) := by
  exact ⟨_, fun X => (c_X5_scanAndClimb hI.B hI.L s hs v hv).mono (fun v w' qq => ⟨qq.1, _, qq.2, rfl⟩), fun σ' hσ X => (c_X6_scanAndClimb (Rel_Bd hR hI.B) s hs v hv).mono (fun v w' q => by obtain ⟨τ', q1, q2, q3⟩ := q; exact ⟨by rw [q1, Ra_scan hR hI.P], τ', q2, by rw [← hσ]; exact ⟨hI, Rel_Sx hR q3⟩⟩)⟩
theorem p_arrayCurrent (hI : Inv σ) (hR : Rel σ τ) (v : Int) (hv : -2147483648 ≤ v ∧ v ≤ 2147483647) : Pr D cy l ad bd σ τ yX5_arrayCurrent cX5_arrayCurrent 2 rm_X5_arrayCurrent yX6_arrayCurrent cX6_arrayCurrent 2 rm_X6_arrayCurrent .int [.int (zI v)] (.int (zI (a_arrayCurrent σ v))) := by
  exact ⟨_, fun X => (c_X5_arrayCurrent hI.B hI.L v hv).mono (fun v w' qq => ⟨qq.1, _, qq.2, rfl⟩), fun σ' hσ X => (c_X6_arrayCurrent (Rel_Bd hR hI.B) v hv).mono (fun v w' q => by obtain ⟨τ', q1, q2, q3⟩ := q; exact ⟨by rw [q1, Ra_arrayCurrent hR hI.B hI.P], τ', q2, by rw [← hσ]; exact ⟨hI, Rel_Sx hR q3⟩⟩)⟩
theorem p_bestArrayVoltage (hI : Inv σ) (hR : Rel σ τ)  : Pr D cy l ad bd σ τ yX5_bestArrayVoltage cX5_bestArrayVoltage 1 rm_X5_bestArrayVoltage yX6_bestArrayVoltage cX6_bestArrayVoltage 3 rm_X6_bestArrayVoltage .int [] (.int (zI (bestV σ))) := by
  exact ⟨_, fun X => (c_X5_bestArrayVoltage hI.B hI.L ).mono (fun v w' qq => ⟨qq.1, _, qq.2, rfl⟩), fun σ' hσ X => (c_X6_bestArrayVoltage (Rel_Bd hR hI.B) ).mono (fun v w' q => by obtain ⟨τ', q1, q2, q3⟩ := q; exact ⟨by rw [q1, R_bestV hR hI.B hI.P], τ', q2, by rw [← hσ]; exact ⟨hI, Rel_Sx hR q3⟩⟩)⟩
theorem p_totalBestPower (hI : Inv σ) (hR : Rel σ τ)  : Pr D cy l ad bd σ τ yX5_totalBestPower cX5_totalBestPower 4 rm_X5_totalBestPower yX6_totalBestPower cX6_totalBestPower 1 rm_X6_totalBestPower .long [] (.long (zJ (a_total σ))) := by
  exact ⟨_, fun X => (c_X5_totalBestPower hI.B hI.L ).mono (fun v w' qq => ⟨qq.1, _, qq.2, rfl⟩), fun σ' hσ X => (c_X6_totalBestPower (Rel_Bd hR hI.B) ).mono (fun v w' q => by obtain ⟨τ', q1, q2, q3⟩ := q; exact ⟨by rw [q1, R_total hR hI.B hI.P], τ', q2, by rw [← hσ]; exact ⟨hI, Rel_Sx hR q3⟩⟩)⟩
theorem p_mismatchLoss (hI : Inv σ) (hR : Rel σ τ)  : Pr D cy l ad bd σ τ yX5_mismatchLoss cX5_mismatchLoss 4 rm_X5_mismatchLoss yX6_mismatchLoss cX6_mismatchLoss 4 rm_X6_mismatchLoss .long [] (.long (zJ (a_loss σ))) := by
  exact ⟨_, fun X => (c_X5_mismatchLoss hI.B hI.L ).mono (fun v w' qq => ⟨qq.1, _, qq.2, rfl⟩), fun σ' hσ X => (c_X6_mismatchLoss (Rel_Bd hR hI.B) ).mono (fun v w' q => by obtain ⟨τ', q1, q2, q3⟩ := q; exact ⟨by rw [q1, R_loss hR hI.B hI.P], τ', q2, by rw [← hσ]; exact ⟨hI, Rel_Sx hR q3⟩⟩)⟩
theorem p_bestSwapGain (hI : Inv σ) (hR : Rel σ τ)  : Pr D cy l ad bd σ τ yX5_bestSwapGain cX5_bestSwapGain 1 rm_X5_bestSwapGain yX6_bestSwapGain cX6_bestSwapGain 1 rm_X6_bestSwapGain .long [] (.long (zJ ((swT σ).1))) := by
  exact ⟨_, fun X => (c_X5_bestSwapGain hI.B hI.L hI.P).mono (fun v w' qq => ⟨qq.1, _, qq.2, rfl⟩), fun σ' hσ X => (c_X6_bestSwapGain (Rel_Bd hR hI.B) (Rel_Pos hR hI.P)).mono (fun v w' q => by obtain ⟨τ', q1, q2, q3⟩ := q; exact ⟨by rw [q1, R_sw hR hI.B hI.P], τ', q2, by rw [← hσ]; exact keep_swap hI hR q3⟩)⟩
theorem p_bestSwapLower (hI : Inv σ) (hR : Rel σ τ)  : Pr D cy l ad bd σ τ yX5_bestSwapLower cX5_bestSwapLower 1 rm_X5_bestSwapLower yX6_bestSwapLower cX6_bestSwapLower 1 rm_X6_bestSwapLower .int [] (.int (zI ((swT σ).2.1))) := by
  exact ⟨_, fun X => (c_X5_bestSwapLower hI.B hI.L hI.P).mono (fun v w' qq => ⟨qq.1, _, qq.2, rfl⟩), fun σ' hσ X => (c_X6_bestSwapLower (Rel_Bd hR hI.B) (Rel_Pos hR hI.P)).mono (fun v w' q => by obtain ⟨τ', q1, q2, q3⟩ := q; exact ⟨by rw [q1, R_sw hR hI.B hI.P], τ', q2, by rw [← hσ]; exact keep_swap hI hR q3⟩)⟩
theorem p_bestSwapHigher (hI : Inv σ) (hR : Rel σ τ)  : Pr D cy l ad bd σ τ yX5_bestSwapHigher cX5_bestSwapHigher 1 rm_X5_bestSwapHigher yX6_bestSwapHigher cX6_bestSwapHigher 1 rm_X6_bestSwapHigher .int [] (.int (zI ((swT σ).2.2))) := by
  exact ⟨_, fun X => (c_X5_bestSwapHigher hI.B hI.L hI.P).mono (fun v w' qq => ⟨qq.1, _, qq.2, rfl⟩), fun σ' hσ X => (c_X6_bestSwapHigher (Rel_Bd hR hI.B) (Rel_Pos hR hI.P)).mono (fun v w' q => by obtain ⟨τ', q1, q2, q3⟩ := q; exact ⟨by rw [q1, R_sw hR hI.B hI.P], τ', q2, by rw [← hσ]; exact keep_swap hI hR q3⟩)⟩
theorem p_regroup (hI : Inv σ) (hR : Rel σ τ)  : Pr D cy l ad bd σ τ yX5_regroup cX5_regroup 6 rm_X5_regroup yX6_regroup cX6_regroup 4 rm_X6_regroup .int [] (.int (zI (sumP (mvN σ (srtF σ)) (σ 0 1).toNat))) := by
  refine ⟨fun σ' => ∃ r9 r10, σ' = rgS σ (srtF σ) (σ 0 2) 0 r9 r10 ∧ RG σ (σ 0 1) r9 r10, fun X => (c_X5_regroup hI.B hI.L hI.2.2.2.2.2.2.2.1 hI.2.2.2.2.2.2.1 hI.2.2.2.2.2.2.2.2).mono (fun v w' q => ?_), fun σ' hσ X => ?_⟩
  · obtain ⟨r9, r10, q1, q2, q3⟩ := q
    exact ⟨q1, _, q2, r9, r10, rfl, q3⟩
  · obtain ⟨r9, r10, rfl, hg⟩ := hσ
    have hk := keep_reg hI hR hg
    refine (c_X6_regroup (st := σ 9) (po := σ 10) (st2 := r9) (po2 := r10) (Rel_Bd hR hI.B) (Rel_Pos hR hI.P) (fun j => by rw [hR.2.2.2.2.2.2.2.2.2.2.2]; exact hI.2.2.2.2.2.2.2.1 j) hk.2.2.2.2 hk.2.2.1).mono (fun v w' q => ?_)
    exact ⟨by rw [q.1, hk.2.2.2.1], _, q.2, hk.1, hk.2.1⟩
end PRS
