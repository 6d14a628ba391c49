/-! the class's world: 43 cells, by place; σ holds every number, ad every address
 σ 0: 0 drop, 1 moduleCount, 2 string count, 5 swapGain, 6 swapLower, 7 swapHigher; 1 rated, 2 open voltage, 3 irradiance, 4 resistance, 5 diode, 8 light current, 9 string, 10 position (by module); 6 count (by string); 7 members (12 * string + position); 11 powerBefore; 12 sorted -/
def modE (ad : Nat → Nat) (σ : Nat → Int → Int) (i : Int) : va_E := .inr (2, [.ref (ad 1), .int (zI (σ 1 i)), .int (zI (σ 2 i)), .int (zI (σ 3 i)), .int (zI (σ 8 i)), .int (zI (σ 4 i)), .int (zI (σ 5 i)), .int (zI (σ 9 i)), .int (zI (σ 10 i))])
def strE (ad : Nat → Nat) (σ : Nat → Int → Int) (k : Nat) (s : Int) : va_E := .inr (3, [.ref (ad 2), .ref (ad (k + 6)), .int (zI (σ 6 s))])
def memF (σ : Nat → Int → Int) (s : Int) : Int → Int := fun p => if p < 12 then σ 7 (12 * s + p) else 0
def memE (cy : Nat → ClassId) (σ : Nat → Int → Int) (s : Int) : va_E := .inl (cy 0, 12, .inl (fun j : Nat => zI (memF σ s j)))
def arrE (ad : Nat → Nat) (σ : Nat → Int → Int) : va_E := .inr (4, [.ref (ad 1), .ref (ad 2), .int (zI (σ 0 1)), .ref (ad 3), .ref (ad 4), .ref (ad 5), .long (zJ (σ 0 5)), .int (zI (σ 0 6)), .int (zI (σ 0 7)), .ref (ad 6)])
def cwE (cy : Nat → ClassId) (ad : Nat → Nat) (σ : Nat → Int → Int) (k : Nat) : va_E :=
  if k = 0 then arrE ad σ
  else if k = 1 then .inr (0, [.int (zI (σ 0 0))])
  else if k = 2 then .inl (cy 3, 24, .inr (.inr (.inr (.inr (fun j : Nat => some (ad (7 + j)))))))
  else if k = 3 then .inl (cy 4, 6, .inr (.inr (.inr (.inr (fun j : Nat => some (ad (31 + j)))))))
  else if k = 4 then .inr (1, [.ref (ad 3), .int (zI (σ 0 2))])
  else if k = 5 then .inl (cy 1, 6, .inr (.inl (fun j : Nat => zJ (σ 11 j))))
  else if k = 6 then .inl (cy 0, 24, .inl (fun j : Nat => zI (σ 12 j)))
  else if k < 31 then modE ad σ ((k : Int) - 7)
  else if k < 37 then strE ad σ k ((k : Int) - 31)
  else memE cy σ ((k : Int) - 37)
def CW (cy : Nat → ClassId) (ad : Nat → Nat) (σ : Nat → Int → Int) : va_W := (List.range 43).map (fun k => (ad k, cwE cy ad σ k))
section CWS
variable {cy : Nat → ClassId} {ad : Nat → Nat} {σ : Nat → Int → Int} {X : va_W}
theorem CW_len : (CW cy ad σ).length = 43 := by simp [CW]
theorem CW_at {k : Nat} (h : k < 43) : (CW cy ad σ ++ X)[k]? = some (ad k, cwE cy ad σ k) := by
  rw [List.getElem?_append_left (by rw [CW_len]; exact h)]
  simp [CW, h]
theorem CW_set {σ' : Nat → Int → Int} {k : Nat} {e : va_E} (h : k < 43) (he : e = cwE cy ad σ' k) (ho : ∀ j, j < 43 → j ≠ k → cwE cy ad σ' j = cwE cy ad σ j) : (CW cy ad σ ++ X).set k (ad k, e) = CW cy ad σ' ++ X := by
  rw [List.set_append_left _ _ (by rw [CW_len]; exact h)]
  congr 1
  apply List.ext_getElem?
  intro j
  rw [List.getElem?_set]
  by_cases hj : k = j
  · subst hj
    simp [CW, h, he]
  · rw [if_neg hj]
    by_cases h43 : j < 43
    · simp [CW, h43, ho j h43 (fun q => hj q.symm)]
    · simp [CW, h43]
theorem at_arr : (CW cy ad σ ++ X)[0]? = some (ad 0, .inr (4, [.ref (ad 1), .ref (ad 2), .int (zI (σ 0 1)), .ref (ad 3), .ref (ad 4), .ref (ad 5), .long (zJ (σ 0 5)), .int (zI (σ 0 6)), .int (zI (σ 0 7)), .ref (ad 6)])) := CW_at (by decide)
theorem at_dio : (CW cy ad σ ++ X)[1]? = some (ad 1, .inr (0, [.int (zI (σ 0 0))])) := CW_at (by decide)
theorem at_mods : (CW cy ad σ ++ X)[2]? = some (ad 2, .inl (cy 3, 24, .inr (.inr (.inr (.inr (fun j : Nat => some (ad (7 + j)))))))) := CW_at (by decide)
theorem at_strs : (CW cy ad σ ++ X)[3]? = some (ad 3, .inl (cy 4, 6, .inr (.inr (.inr (.inr (fun j : Nat => some (ad (31 + j)))))))) := CW_at (by decide)
theorem at_par : (CW cy ad σ ++ X)[4]? = some (ad 4, .inr (1, [.ref (ad 3), .int (zI (σ 0 2))])) := CW_at (by decide)
theorem at_pb : (CW cy ad σ ++ X)[5]? = some (ad 5, .inl (cy 1, 6, .inr (.inl (fun j : Nat => zJ (σ 11 j))))) := CW_at (by decide)
theorem at_srt : (CW cy ad σ ++ X)[6]? = some (ad 6, .inl (cy 0, 24, .inl (fun j : Nat => zI (σ 12 j)))) := CW_at (by decide)
theorem cwE_mod {k : Nat} (h1 : 7 ≤ k) (h2 : k < 31) : cwE cy ad σ k = modE ad σ ((k : Int) - 7) := by
  unfold cwE
  rw [if_neg (by omega), if_neg (by omega), if_neg (by omega), if_neg (by omega), if_neg (by omega), if_neg (by omega), if_neg (by omega), if_pos h2]
theorem cwE_str {k : Nat} (h1 : 31 ≤ k) (h2 : k < 37) : cwE cy ad σ k = strE ad σ k ((k : Int) - 31) := by
  unfold cwE
  rw [if_neg (by omega), if_neg (by omega), if_neg (by omega), if_neg (by omega), if_neg (by omega), if_neg (by omega), if_neg (by omega), if_neg (by omega), if_pos h2]
theorem cwE_mem {k : Nat} (h1 : 37 ≤ k) : cwE cy ad σ k = memE cy σ ((k : Int) - 37) := by
  unfold cwE
  rw [if_neg (by omega), if_neg (by omega), if_neg (by omega), if_neg (by omega), if_neg (by omega), if_neg (by omega), if_neg (by omega), if_neg (by omega), if_neg (by omega)]
theorem cwE_i {i : Int} (h : 0 ≤ i ∧ i < 24) : cwE cy ad σ (7 + i.toNat) = modE ad σ i := by
  rw [cwE_mod (by omega) (by omega)]
  congr 1
  omega
theorem cwE_s {s : Int} (h : 0 ≤ s ∧ s < 6) : cwE cy ad σ (31 + s.toNat) = strE ad σ (31 + s.toNat) s := by
  rw [cwE_str (by omega) (by omega)]
  congr 1
  omega
theorem cwE_m {s : Int} (h : 0 ≤ s ∧ s < 6) : cwE cy ad σ (37 + s.toNat) = memE cy σ s := by
  rw [cwE_mem (by omega)]
  congr 1
  omega
theorem at_mod {i : Int} (h : 0 ≤ i ∧ i < 24) : (CW cy ad σ ++ X)[7 + i.toNat]? = some (ad (7 + i.toNat), .inr (2, [.ref (ad 1), .int (zI (σ 1 i)), .int (zI (σ 2 i)), .int (zI (σ 3 i)), .int (zI (σ 8 i)), .int (zI (σ 4 i)), .int (zI (σ 5 i)), .int (zI (σ 9 i)), .int (zI (σ 10 i))])) := by
  rw [CW_at (by omega), cwE_i h]; rfl
theorem at_str {s : Int} (h : 0 ≤ s ∧ s < 6) : (CW cy ad σ ++ X)[31 + s.toNat]? = some (ad (31 + s.toNat), .inr (3, [.ref (ad 2), .ref (ad (37 + s.toNat)), .int (zI (σ 6 s))])) := by
  rw [CW_at (by omega), cwE_s h]
  unfold strE
  rw [show 31 + s.toNat + 6 = 37 + s.toNat by omega]
theorem at_mem {s : Int} (h : 0 ≤ s ∧ s < 6) : (CW cy ad σ ++ X)[37 + s.toNat]? = some (ad (37 + s.toNat), .inl (cy 0, 12, .inl (fun j : Nat => zI (memF σ s j)))) := by
  rw [CW_at (by omega), cwE_m h]; rfl
theorem memF_at {s p : Int} (h : p < 12) : memF σ s p = σ 7 (12 * s + p) := if_pos h
theorem cwE_o1 {i v : Int} (h : 0 ≤ i ∧ i < 24) {j : Nat} (hj : j ≠ 7 + i.toNat) : cwE cy ad (up σ 1 i v) j = cwE cy ad σ j := by
  by_cases h1 : 7 ≤ j ∧ j < 31
  · rw [cwE_mod h1.1 h1.2, cwE_mod h1.1 h1.2]
    unfold modE
    have hne : ((j : Int) - 7) ≠ i := by omega
    rw [up_r, zup_n _ _ hne, up_o _ _ _ (show (2 : Nat) ≠ 1 by decide), up_o _ _ _ (show (3 : Nat) ≠ 1 by decide), up_o _ _ _ (show (8 : Nat) ≠ 1 by decide), up_o _ _ _ (show (4 : Nat) ≠ 1 by decide), up_o _ _ _ (show (5 : Nat) ≠ 1 by decide), up_o _ _ _ (show (9 : Nat) ≠ 1 by decide), up_o _ _ _ (show (10 : Nat) ≠ 1 by decide)]
  · unfold cwE arrE strE memE memF
    by_cases h2 : j < 31
    · rw [show ∀ a b : va_E, (if j < 31 then a else b) = a from fun a b => if_pos h2]
      have h7 : j < 7 := by omega
      match j, h7 with
      | 0, _ => rfl
      | 1, _ => rfl
      | 2, _ => rfl
      | 3, _ => rfl
      | 4, _ => rfl
      | 5, _ => rfl
      | 6, _ => rfl
    · rw [show ∀ a b : va_E, (if j < 31 then a else b) = b from fun a b => if_neg h2, show ∀ a b : va_E, (if j < 31 then a else b) = b from fun a b => if_neg h2]
      rw [up_o _ _ _ (show (0 : Nat) ≠ 1 by decide), up_o _ _ _ (show (11 : Nat) ≠ 1 by decide), up_o _ _ _ (show (12 : Nat) ≠ 1 by decide), up_o _ _ _ (show (6 : Nat) ≠ 1 by decide), up_o _ _ _ (show (7 : Nat) ≠ 1 by decide)]
theorem st_1 {i v : Int} (h : 0 ≤ i ∧ i < 24) : (CW cy ad σ ++ X).set (7 + i.toNat) (ad (7 + i.toNat), .inr (2, [.ref (ad 1), .int (zI v), .int (zI (σ 2 i)), .int (zI (σ 3 i)), .int (zI (σ 8 i)), .int (zI (σ 4 i)), .int (zI (σ 5 i)), .int (zI (σ 9 i)), .int (zI (σ 10 i))])) = CW cy ad (up σ 1 i v) ++ X := by
  refine CW_set (by omega) ?_ (fun j _ hj => cwE_o1 h hj)
  rw [cwE_i h]
  unfold modE
  rw [up_r, zup_s, up_o _ _ _ (show (2 : Nat) ≠ 1 by decide), up_o _ _ _ (show (3 : Nat) ≠ 1 by decide), up_o _ _ _ (show (8 : Nat) ≠ 1 by decide), up_o _ _ _ (show (4 : Nat) ≠ 1 by decide), up_o _ _ _ (show (5 : Nat) ≠ 1 by decide), up_o _ _ _ (show (9 : Nat) ≠ 1 by decide), up_o _ _ _ (show (10 : Nat) ≠ 1 by decide)]
theorem cwE_o2 {i v : Int} (h : 0 ≤ i ∧ i < 24) {j : Nat} (hj : j ≠ 7 + i.toNat) : cwE cy ad (up σ 2 i v) j = cwE cy ad σ j := by
  by_cases h1 : 7 ≤ j ∧ j < 31
  · rw [cwE_mod h1.1 h1.2, cwE_mod h1.1 h1.2]
    unfold modE
    have hne : ((j : Int) - 7) ≠ i := by omega
    rw [up_r, zup_n _ _ hne, up_o _ _ _ (show (1 : Nat) ≠ 2 by decide), up_o _ _ _ (show (3 : Nat) ≠ 2 by decide), up_o _ _ _ (show (8 : Nat) ≠ 2 by decide), up_o _ _ _ (show (4 : Nat) ≠ 2 by decide), up_o _ _ _ (show (5 : Nat) ≠ 2 by decide), up_o _ _ _ (show (9 : Nat) ≠ 2 by decide), up_o _ _ _ (show (10 : Nat) ≠ 2 by decide)]
  · unfold cwE arrE strE memE memF
    by_cases h2 : j < 31
    · rw [show ∀ a b : va_E, (if j < 31 then a else b) = a from fun a b => if_pos h2]
      have h7 : j < 7 := by omega
      match j, h7 with
      | 0, _ => rfl
      | 1, _ => rfl
      | 2, _ => rfl
      | 3, _ => rfl
      | 4, _ => rfl
      | 5, _ => rfl
      | 6, _ => rfl
    · rw [show ∀ a b : va_E, (if j < 31 then a else b) = b from fun a b => if_neg h2, show ∀ a b : va_E, (if j < 31 then a else b) = b from fun a b => if_neg h2]
      rw [up_o _ _ _ (show (0 : Nat) ≠ 2 by decide), up_o _ _ _ (show (11 : Nat) ≠ 2 by decide), up_o _ _ _ (show (12 : Nat) ≠ 2 by decide), up_o _ _ _ (show (6 : Nat) ≠ 2 by decide), up_o _ _ _ (show (7 : Nat) ≠ 2 by decide)]
theorem st_2 {i v : Int} (h : 0 ≤ i ∧ i < 24) : (CW cy ad σ ++ X).set (7 + i.toNat) (ad (7 + i.toNat), .inr (2, [.ref (ad 1), .int (zI (σ 1 i)), .int (zI v), .int (zI (σ 3 i)), .int (zI (σ 8 i)), .int (zI (σ 4 i)), .int (zI (σ 5 i)), .int (zI (σ 9 i)), .int (zI (σ 10 i))])) = CW cy ad (up σ 2 i v) ++ X := by
  refine CW_set (by omega) ?_ (fun j _ hj => cwE_o2 h hj)
  rw [cwE_i h]
  unfold modE
  rw [up_r, zup_s, up_o _ _ _ (show (1 : Nat) ≠ 2 by decide), up_o _ _ _ (show (3 : Nat) ≠ 2 by decide), up_o _ _ _ (show (8 : Nat) ≠ 2 by decide), up_o _ _ _ (show (4 : Nat) ≠ 2 by decide), up_o _ _ _ (show (5 : Nat) ≠ 2 by decide), up_o _ _ _ (show (9 : Nat) ≠ 2 by decide), up_o _ _ _ (show (10 : Nat) ≠ 2 by decide)]
theorem cwE_o3 {i v : Int} (h : 0 ≤ i ∧ i < 24) {j : Nat} (hj : j ≠ 7 + i.toNat) : cwE cy ad (up σ 3 i v) j = cwE cy ad σ j := by
  by_cases h1 : 7 ≤ j ∧ j < 31
  · rw [cwE_mod h1.1 h1.2, cwE_mod h1.1 h1.2]
    unfold modE
    have hne : ((j : Int) - 7) ≠ i := by omega
    rw [up_r, zup_n _ _ hne, up_o _ _ _ (show (1 : Nat) ≠ 3 by decide), up_o _ _ _ (show (2 : Nat) ≠ 3 by decide), up_o _ _ _ (show (8 : Nat) ≠ 3 by decide), up_o _ _ _ (show (4 : Nat) ≠ 3 by decide), up_o _ _ _ (show (5 : Nat) ≠ 3 by decide), up_o _ _ _ (show (9 : Nat) ≠ 3 by decide), up_o _ _ _ (show (10 : Nat) ≠ 3 by decide)]
  · unfold cwE arrE strE memE memF
    by_cases h2 : j < 31
    · rw [show ∀ a b : va_E, (if j < 31 then a else b) = a from fun a b => if_pos h2]
      have h7 : j < 7 := by omega
      match j, h7 with
      | 0, _ => rfl
      | 1, _ => rfl
      | 2, _ => rfl
      | 3, _ => rfl
      | 4, _ => rfl
      | 5, _ => rfl
      | 6, _ => rfl
    · rw [show ∀ a b : va_E, (if j < 31 then a else b) = b from fun a b => if_neg h2, show ∀ a b : va_E, (if j < 31 then a else b) = b from fun a b => if_neg h2]
      rw [up_o _ _ _ (show (0 : Nat) ≠ 3 by decide), up_o _ _ _ (show (11 : Nat) ≠ 3 by decide), up_o _ _ _ (show (12 : Nat) ≠ 3 by decide), up_o _ _ _ (show (6 : Nat) ≠ 3 by decide), up_o _ _ _ (show (7 : Nat) ≠ 3 by decide)]
theorem st_3 {i v : Int} (h : 0 ≤ i ∧ i < 24) : (CW cy ad σ ++ X).set (7 + i.toNat) (ad (7 + i.toNat), .inr (2, [.ref (ad 1), .int (zI (σ 1 i)), .int (zI (σ 2 i)), .int (zI v), .int (zI (σ 8 i)), .int (zI (σ 4 i)), .int (zI (σ 5 i)), .int (zI (σ 9 i)), .int (zI (σ 10 i))])) = CW cy ad (up σ 3 i v) ++ X := by
  refine CW_set (by omega) ?_ (fun j _ hj => cwE_o3 h hj)
  rw [cwE_i h]
  unfold modE
  rw [up_r, zup_s, up_o _ _ _ (show (1 : Nat) ≠ 3 by decide), up_o _ _ _ (show (2 : Nat) ≠ 3 by decide), up_o _ _ _ (show (8 : Nat) ≠ 3 by decide), up_o _ _ _ (show (4 : Nat) ≠ 3 by decide), up_o _ _ _ (show (5 : Nat) ≠ 3 by decide), up_o _ _ _ (show (9 : Nat) ≠ 3 by decide), up_o _ _ _ (show (10 : Nat) ≠ 3 by decide)]
theorem cwE_o8 {i v : Int} (h : 0 ≤ i ∧ i < 24) {j : Nat} (hj : j ≠ 7 + i.toNat) : cwE cy ad (up σ 8 i v) j = cwE cy ad σ j := by
  by_cases h1 : 7 ≤ j ∧ j < 31
  · rw [cwE_mod h1.1 h1.2, cwE_mod h1.1 h1.2]
    unfold modE
    have hne : ((j : Int) - 7) ≠ i := by omega
    rw [up_r, zup_n _ _ hne, up_o _ _ _ (show (1 : Nat) ≠ 8 by decide), up_o _ _ _ (show (2 : Nat) ≠ 8 by decide), up_o _ _ _ (show (3 : Nat) ≠ 8 by decide), up_o _ _ _ (show (4 : Nat) ≠ 8 by decide), up_o _ _ _ (show (5 : Nat) ≠ 8 by decide), up_o _ _ _ (show (9 : Nat) ≠ 8 by decide), up_o _ _ _ (show (10 : Nat) ≠ 8 by decide)]
  · unfold cwE arrE strE memE memF
    by_cases h2 : j < 31
    · rw [show ∀ a b : va_E, (if j < 31 then a else b) = a from fun a b => if_pos h2]
      have h7 : j < 7 := by omega
      match j, h7 with
      | 0, _ => rfl
      | 1, _ => rfl
      | 2, _ => rfl
      | 3, _ => rfl
      | 4, _ => rfl
      | 5, _ => rfl
      | 6, _ => rfl
    · rw [show ∀ a b : va_E, (if j < 31 then a else b) = b from fun a b => if_neg h2, show ∀ a b : va_E, (if j < 31 then a else b) = b from fun a b => if_neg h2]
      rw [up_o _ _ _ (show (0 : Nat) ≠ 8 by decide), up_o _ _ _ (show (11 : Nat) ≠ 8 by decide), up_o _ _ _ (show (12 : Nat) ≠ 8 by decide), up_o _ _ _ (show (6 : Nat) ≠ 8 by decide), up_o _ _ _ (show (7 : Nat) ≠ 8 by decide)]
theorem st_8 {i v : Int} (h : 0 ≤ i ∧ i < 24) : (CW cy ad σ ++ X).set (7 + i.toNat) (ad (7 + i.toNat), .inr (2, [.ref (ad 1), .int (zI (σ 1 i)), .int (zI (σ 2 i)), .int (zI (σ 3 i)), .int (zI v), .int (zI (σ 4 i)), .int (zI (σ 5 i)), .int (zI (σ 9 i)), .int (zI (σ 10 i))])) = CW cy ad (up σ 8 i v) ++ X := by
  refine CW_set (by omega) ?_ (fun j _ hj => cwE_o8 h hj)
  rw [cwE_i h]
  unfold modE
  rw [up_r, zup_s, up_o _ _ _ (show (1 : Nat) ≠ 8 by decide), up_o _ _ _ (show (2 : Nat) ≠ 8 by decide), up_o _ _ _ (show (3 : Nat) ≠ 8 by decide), up_o _ _ _ (show (4 : Nat) ≠ 8 by decide), up_o _ _ _ (show (5 : Nat) ≠ 8 by decide), up_o _ _ _ (show (9 : Nat) ≠ 8 by decide), up_o _ _ _ (show (10 : Nat) ≠ 8 by decide)]
theorem cwE_o4 {i v : Int} (h : 0 ≤ i ∧ i < 24) {j : Nat} (hj : j ≠ 7 + i.toNat) : cwE cy ad (up σ 4 i v) j = cwE cy ad σ j := by
  by_cases h1 : 7 ≤ j ∧ j < 31
  · rw [cwE_mod h1.1 h1.2, cwE_mod h1.1 h1.2]
    unfold modE
    have hne : ((j : Int) - 7) ≠ i := by omega
    rw [up_r, zup_n _ _ hne, up_o _ _ _ (show (1 : Nat) ≠ 4 by decide), up_o _ _ _ (show (2 : Nat) ≠ 4 by decide), up_o _ _ _ (show (3 : Nat) ≠ 4 by decide), up_o _ _ _ (show (8 : Nat) ≠ 4 by decide), up_o _ _ _ (show (5 : Nat) ≠ 4 by decide), up_o _ _ _ (show (9 : Nat) ≠ 4 by decide), up_o _ _ _ (show (10 : Nat) ≠ 4 by decide)]
  · unfold cwE arrE strE memE memF
    by_cases h2 : j < 31
    · rw [show ∀ a b : va_E, (if j < 31 then a else b) = a from fun a b => if_pos h2]
      have h7 : j < 7 := by omega
      match j, h7 with
      | 0, _ => rfl
      | 1, _ => rfl
      | 2, _ => rfl
      | 3, _ => rfl
      | 4, _ => rfl
      | 5, _ => rfl
      | 6, _ => rfl
    · rw [show ∀ a b : va_E, (if j < 31 then a else b) = b from fun a b => if_neg h2, show ∀ a b : va_E, (if j < 31 then a else b) = b from fun a b => if_neg h2]
      rw [up_o _ _ _ (show (0 : Nat) ≠ 4 by decide), up_o _ _ _ (show (11 : Nat) ≠ 4 by decide), up_o _ _ _ (show (12 : Nat) ≠ 4 by decide), up_o _ _ _ (show (6 : Nat) ≠ 4 by decide), up_o _ _ _ (show (7 : Nat) ≠ 4 by decide)]
theorem st_4 {i v : Int} (h : 0 ≤ i ∧ i < 24) : (CW cy ad σ ++ X).set (7 + i.toNat) (ad (7 + i.toNat), .inr (2, [.ref (ad 1), .int (zI (σ 1 i)), .int (zI (σ 2 i)), .int (zI (σ 3 i)), .int (zI (σ 8 i)), .int (zI v), .int (zI (σ 5 i)), .int (zI (σ 9 i)), .int (zI (σ 10 i))])) = CW cy ad (up σ 4 i v) ++ X := by
  refine CW_set (by omega) ?_ (fun j _ hj => cwE_o4 h hj)
  rw [cwE_i h]
  unfold modE
  rw [up_r, zup_s, up_o _ _ _ (show (1 : Nat) ≠ 4 by decide), up_o _ _ _ (show (2 : Nat) ≠ 4 by decide), up_o _ _ _ (show (3 : Nat) ≠ 4 by decide), up_o _ _ _ (show (8 : Nat) ≠ 4 by decide), up_o _ _ _ (show (5 : Nat) ≠ 4 by decide), up_o _ _ _ (show (9 : Nat) ≠ 4 by decide), up_o _ _ _ (show (10 : Nat) ≠ 4 by decide)]
theorem cwE_o5 {i v : Int} (h : 0 ≤ i ∧ i < 24) {j : Nat} (hj : j ≠ 7 + i.toNat) : cwE cy ad (up σ 5 i v) j = cwE cy ad σ j := by
  by_cases h1 : 7 ≤ j ∧ j < 31
  · rw [cwE_mod h1.1 h1.2, cwE_mod h1.1 h1.2]
    unfold modE
    have hne : ((j : Int) - 7) ≠ i := by omega
    rw [up_r, zup_n _ _ hne, up_o _ _ _ (show (1 : Nat) ≠ 5 by decide), up_o _ _ _ (show (2 : Nat) ≠ 5 by decide), up_o _ _ _ (show (3 : Nat) ≠ 5 by decide), up_o _ _ _ (show (8 : Nat) ≠ 5 by decide), up_o _ _ _ (show (4 : Nat) ≠ 5 by decide), up_o _ _ _ (show (9 : Nat) ≠ 5 by decide), up_o _ _ _ (show (10 : Nat) ≠ 5 by decide)]
  · unfold cwE arrE strE memE memF
    by_cases h2 : j < 31
    · rw [show ∀ a b : va_E, (if j < 31 then a else b) = a from fun a b => if_pos h2]
      have h7 : j < 7 := by omega
      match j, h7 with
      | 0, _ => rfl
      | 1, _ => rfl
      | 2, _ => rfl
      | 3, _ => rfl
      | 4, _ => rfl
      | 5, _ => rfl
      | 6, _ => rfl
    · rw [show ∀ a b : va_E, (if j < 31 then a else b) = b from fun a b => if_neg h2, show ∀ a b : va_E, (if j < 31 then a else b) = b from fun a b => if_neg h2]
      rw [up_o _ _ _ (show (0 : Nat) ≠ 5 by decide), up_o _ _ _ (show (11 : Nat) ≠ 5 by decide), up_o _ _ _ (show (12 : Nat) ≠ 5 by decide), up_o _ _ _ (show (6 : Nat) ≠ 5 by decide), up_o _ _ _ (show (7 : Nat) ≠ 5 by decide)]
theorem st_5 {i v : Int} (h : 0 ≤ i ∧ i < 24) : (CW cy ad σ ++ X).set (7 + i.toNat) (ad (7 + i.toNat), .inr (2, [.ref (ad 1), .int (zI (σ 1 i)), .int (zI (σ 2 i)), .int (zI (σ 3 i)), .int (zI (σ 8 i)), .int (zI (σ 4 i)), .int (zI v), .int (zI (σ 9 i)), .int (zI (σ 10 i))])) = CW cy ad (up σ 5 i v) ++ X := by
  refine CW_set (by omega) ?_ (fun j _ hj => cwE_o5 h hj)
  rw [cwE_i h]
  unfold modE
  rw [up_r, zup_s, up_o _ _ _ (show (1 : Nat) ≠ 5 by decide), up_o _ _ _ (show (2 : Nat) ≠ 5 by decide), up_o _ _ _ (show (3 : Nat) ≠ 5 by decide), up_o _ _ _ (show (8 : Nat) ≠ 5 by decide), up_o _ _ _ (show (4 : Nat) ≠ 5 by decide), up_o _ _ _ (show (9 : Nat) ≠ 5 by decide), up_o _ _ _ (show (10 : Nat) ≠ 5 by decide)]
theorem cwE_o9 {i v : Int} (h : 0 ≤ i ∧ i < 24) {j : Nat} (hj : j ≠ 7 + i.toNat) : cwE cy ad (up σ 9 i v) j = cwE cy ad σ j := by
  by_cases h1 : 7 ≤ j ∧ j < 31
  · rw [cwE_mod h1.1 h1.2, cwE_mod h1.1 h1.2]
    unfold modE
    have hne : ((j : Int) - 7) ≠ i := by omega
    rw [up_r, zup_n _ _ hne, up_o _ _ _ (show (1 : Nat) ≠ 9 by decide), up_o _ _ _ (show (2 : Nat) ≠ 9 by decide), up_o _ _ _ (show (3 : Nat) ≠ 9 by decide), up_o _ _ _ (show (8 : Nat) ≠ 9 by decide), up_o _ _ _ (show (4 : Nat) ≠ 9 by decide), up_o _ _ _ (show (5 : Nat) ≠ 9 by decide), up_o _ _ _ (show (10 : Nat) ≠ 9 by decide)]
  · unfold cwE arrE strE memE memF
    by_cases h2 : j < 31
    · rw [show ∀ a b : va_E, (if j < 31 then a else b) = a from fun a b => if_pos h2]
      have h7 : j < 7 := by omega
      match j, h7 with
      | 0, _ => rfl
      | 1, _ => rfl
      | 2, _ => rfl
      | 3, _ => rfl
      | 4, _ => rfl
      | 5, _ => rfl
      | 6, _ => rfl
    · rw [show ∀ a b : va_E, (if j < 31 then a else b) = b from fun a b => if_neg h2, show ∀ a b : va_E, (if j < 31 then a else b) = b from fun a b => if_neg h2]
      rw [up_o _ _ _ (show (0 : Nat) ≠ 9 by decide), up_o _ _ _ (show (11 : Nat) ≠ 9 by decide), up_o _ _ _ (show (12 : Nat) ≠ 9 by decide), up_o _ _ _ (show (6 : Nat) ≠ 9 by decide), up_o _ _ _ (show (7 : Nat) ≠ 9 by decide)]
theorem st_9 {i v : Int} (h : 0 ≤ i ∧ i < 24) : (CW cy ad σ ++ X).set (7 + i.toNat) (ad (7 + i.toNat), .inr (2, [.ref (ad 1), .int (zI (σ 1 i)), .int (zI (σ 2 i)), .int (zI (σ 3 i)), .int (zI (σ 8 i)), .int (zI (σ 4 i)), .int (zI (σ 5 i)), .int (zI v), .int (zI (σ 10 i))])) = CW cy ad (up σ 9 i v) ++ X := by
  refine CW_set (by omega) ?_ (fun j _ hj => cwE_o9 h hj)
  rw [cwE_i h]
  unfold modE
  rw [up_r, zup_s, up_o _ _ _ (show (1 : Nat) ≠ 9 by decide), up_o _ _ _ (show (2 : Nat) ≠ 9 by decide), up_o _ _ _ (show (3 : Nat) ≠ 9 by decide), up_o _ _ _ (show (8 : Nat) ≠ 9 by decide), up_o _ _ _ (show (4 : Nat) ≠ 9 by decide), up_o _ _ _ (show (5 : Nat) ≠ 9 by decide), up_o _ _ _ (show (10 : Nat) ≠ 9 by decide)]
theorem cwE_o10 {i v : Int} (h : 0 ≤ i ∧ i < 24) {j : Nat} (hj : j ≠ 7 + i.toNat) : cwE cy ad (up σ 10 i v) j = cwE cy ad σ j := by
  by_cases h1 : 7 ≤ j ∧ j < 31
  · rw [cwE_mod h1.1 h1.2, cwE_mod h1.1 h1.2]
    unfold modE
    have hne : ((j : Int) - 7) ≠ i := by omega
    rw [up_r, zup_n _ _ hne, up_o _ _ _ (show (1 : Nat) ≠ 10 by decide), up_o _ _ _ (show (2 : Nat) ≠ 10 by decide), up_o _ _ _ (show (3 : Nat) ≠ 10 by decide), up_o _ _ _ (show (8 : Nat) ≠ 10 by decide), up_o _ _ _ (show (4 : Nat) ≠ 10 by decide), up_o _ _ _ (show (5 : Nat) ≠ 10 by decide), up_o _ _ _ (show (9 : Nat) ≠ 10 by decide)]
  · unfold cwE arrE strE memE memF
    by_cases h2 : j < 31
    · rw [show ∀ a b : va_E, (if j < 31 then a else b) = a from fun a b => if_pos h2]
      have h7 : j < 7 := by omega
      match j, h7 with
      | 0, _ => rfl
      | 1, _ => rfl
      | 2, _ => rfl
      | 3, _ => rfl
      | 4, _ => rfl
      | 5, _ => rfl
      | 6, _ => rfl
    · rw [show ∀ a b : va_E, (if j < 31 then a else b) = b from fun a b => if_neg h2, show ∀ a b : va_E, (if j < 31 then a else b) = b from fun a b => if_neg h2]
      rw [up_o _ _ _ (show (0 : Nat) ≠ 10 by decide), up_o _ _ _ (show (11 : Nat) ≠ 10 by decide), up_o _ _ _ (show (12 : Nat) ≠ 10 by decide), up_o _ _ _ (show (6 : Nat) ≠ 10 by decide), up_o _ _ _ (show (7 : Nat) ≠ 10 by decide)]
theorem st_10 {i v : Int} (h : 0 ≤ i ∧ i < 24) : (CW cy ad σ ++ X).set (7 + i.toNat) (ad (7 + i.toNat), .inr (2, [.ref (ad 1), .int (zI (σ 1 i)), .int (zI (σ 2 i)), .int (zI (σ 3 i)), .int (zI (σ 8 i)), .int (zI (σ 4 i)), .int (zI (σ 5 i)), .int (zI (σ 9 i)), .int (zI v)])) = CW cy ad (up σ 10 i v) ++ X := by
  refine CW_set (by omega) ?_ (fun j _ hj => cwE_o10 h hj)
  rw [cwE_i h]
  unfold modE
  rw [up_r, zup_s, up_o _ _ _ (show (1 : Nat) ≠ 10 by decide), up_o _ _ _ (show (2 : Nat) ≠ 10 by decide), up_o _ _ _ (show (3 : Nat) ≠ 10 by decide), up_o _ _ _ (show (8 : Nat) ≠ 10 by decide), up_o _ _ _ (show (4 : Nat) ≠ 10 by decide), up_o _ _ _ (show (5 : Nat) ≠ 10 by decide), up_o _ _ _ (show (9 : Nat) ≠ 10 by decide)]
theorem st_6 {s v : Int} (h : 0 ≤ s ∧ s < 6) : (CW cy ad σ ++ X).set (31 + s.toNat) (ad (31 + s.toNat), .inr (3, [.ref (ad 2), .ref (ad (37 + s.toNat)), .int (zI v)])) = CW cy ad (up σ 6 s v) ++ X := by
  refine CW_set (by omega) ?_ (fun j hj43 hj => ?_)
  · rw [cwE_s h]
    unfold strE
    rw [up_r, zup_s, show 31 + s.toNat + 6 = 37 + s.toNat by omega]
  · by_cases h1 : 31 ≤ j ∧ j < 37
    · rw [cwE_str h1.1 h1.2, cwE_str h1.1 h1.2]
      unfold strE
      rw [up_r, zup_n _ _ (show (j : Int) - 31 ≠ s by omega)]
    · by_cases h2 : j < 31
      · by_cases h3 : 7 ≤ j
        · rw [cwE_mod h3 h2, cwE_mod h3 h2]; rfl
        · match j, (show j < 7 by omega) with
          | 0, _ => rfl
          | 1, _ => rfl
          | 2, _ => rfl
          | 3, _ => rfl
          | 4, _ => rfl
          | 5, _ => rfl
          | 6, _ => rfl
      · rw [cwE_mem (by omega), cwE_mem (by omega)]; rfl
theorem st_7 {s p v : Int} (h : 0 ≤ s ∧ s < 6) (hp : 0 ≤ p ∧ p < 12) : (CW cy ad σ ++ X).set (37 + s.toNat) (ad (37 + s.toNat), .inl (cy 0, 12, .inl (fun j : Nat => zI (zup (memF σ s) p v j)))) = CW cy ad (up σ 7 (12 * s + p) v) ++ X := by
  refine CW_set (by omega) ?_ (fun j hj43 hj => ?_)
  · rw [cwE_m h]
    unfold memE
    congr 4
    funext k
    congr 1
    unfold memF
    rw [up_r]
    unfold zup
    by_cases hk : (k : Int) = p
    · rw [if_pos hk, if_pos (by omega), if_pos (by omega)]
    · rw [if_neg hk]
      dsimp only
      by_cases hk2 : (k : Int) < 12
      · rw [if_pos hk2, if_pos hk2, if_neg (by omega)]
      · rw [if_neg hk2, if_neg hk2]
  · by_cases h1 : 37 ≤ j
    · rw [cwE_mem h1, cwE_mem h1]
      unfold memE
      congr 4
      funext k
      congr 1
      unfold memF
      rw [up_r]
      by_cases hk2 : (k : Int) < 12
      · rw [if_pos hk2, if_pos hk2, zup_n _ _ (by omega)]
      · rw [if_neg hk2, if_neg hk2]
    · by_cases h2 : j < 31
      · by_cases h3 : 7 ≤ j
        · rw [cwE_mod h3 h2, cwE_mod h3 h2]; rfl
        · match j, (show j < 7 by omega) with
          | 0, _ => rfl
          | 1, _ => rfl
          | 2, _ => rfl
          | 3, _ => rfl
          | 4, _ => rfl
          | 5, _ => rfl
          | 6, _ => rfl
      · rw [cwE_str (by omega) (by omega), cwE_str (by omega) (by omega)]; rfl
theorem st_0_1 {v : Int} : (CW cy ad σ ++ X).set 0 (ad 0, .inr (4, [.ref (ad 1), .ref (ad 2), .int (zI v), .ref (ad 3), .ref (ad 4), .ref (ad 5), .long (zJ (σ 0 5)), .int (zI (σ 0 6)), .int (zI (σ 0 7)), .ref (ad 6)])) = CW cy ad (up σ 0 1 v) ++ X := by
  refine CW_set (by decide) rfl (fun j hj43 hj => ?_)
  · by_cases h1 : 37 ≤ j
    · rw [cwE_mem h1, cwE_mem h1]; rfl
    · by_cases h2 : 31 ≤ j
      · rw [cwE_str h2 (by omega), cwE_str h2 (by omega)]; rfl
      · by_cases h3 : 7 ≤ j
        · rw [cwE_mod h3 (by omega), cwE_mod h3 (by omega)]; rfl
        · match j, (show j < 7 by omega), hj with
          | 0, _, hj => first | rfl | exact absurd rfl hj
          | 1, _, hj => first | rfl | exact absurd rfl hj
          | 2, _, hj => first | rfl | exact absurd rfl hj
          | 3, _, hj => first | rfl | exact absurd rfl hj
          | 4, _, hj => first | rfl | exact absurd rfl hj
          | 5, _, hj => first | rfl | exact absurd rfl hj
          | 6, _, hj => first | rfl | exact absurd rfl hj
theorem st_0_5 {v : Int} : (CW cy ad σ ++ X).set 0 (ad 0, .inr (4, [.ref (ad 1), .ref (ad 2), .int (zI (σ 0 1)), .ref (ad 3), .ref (ad 4), .ref (ad 5), .long (zJ v), .int (zI (σ 0 6)), .int (zI (σ 0 7)), .ref (ad 6)])) = CW cy ad (up σ 0 5 v) ++ X := by
  refine CW_set (by decide) rfl (fun j hj43 hj => ?_)
  · by_cases h1 : 37 ≤ j
    · rw [cwE_mem h1, cwE_mem h1]; rfl
    · by_cases h2 : 31 ≤ j
      · rw [cwE_str h2 (by omega), cwE_str h2 (by omega)]; rfl
      · by_cases h3 : 7 ≤ j
        · rw [cwE_mod h3 (by omega), cwE_mod h3 (by omega)]; rfl
        · match j, (show j < 7 by omega), hj with
          | 0, _, hj => first | rfl | exact absurd rfl hj
          | 1, _, hj => first | rfl | exact absurd rfl hj
          | 2, _, hj => first | rfl | exact absurd rfl hj
          | 3, _, hj => first | rfl | exact absurd rfl hj
          | 4, _, hj => first | rfl | exact absurd rfl hj
          | 5, _, hj => first | rfl | exact absurd rfl hj
          | 6, _, hj => first | rfl | exact absurd rfl hj
theorem st_0_6 {v : Int} : (CW cy ad σ ++ X).set 0 (ad 0, .inr (4, [.ref (ad 1), .ref (ad 2), .int (zI (σ 0 1)), .ref (ad 3), .ref (ad 4), .ref (ad 5), .long (zJ (σ 0 5)), .int (zI v), .int (zI (σ 0 7)), .ref (ad 6)])) = CW cy ad (up σ 0 6 v) ++ X := by
  refine CW_set (by decide) rfl (fun j hj43 hj => ?_)
  · by_cases h1 : 37 ≤ j
    · rw [cwE_mem h1, cwE_mem h1]; rfl
    · by_cases h2 : 31 ≤ j
      · rw [cwE_str h2 (by omega), cwE_str h2 (by omega)]; rfl
      · by_cases h3 : 7 ≤ j
        · rw [cwE_mod h3 (by omega), cwE_mod h3 (by omega)]; rfl
        · match j, (show j < 7 by omega), hj with
          | 0, _, hj => first | rfl | exact absurd rfl hj
          | 1, _, hj => first | rfl | exact absurd rfl hj
          | 2, _, hj => first | rfl | exact absurd rfl hj
          | 3, _, hj => first | rfl | exact absurd rfl hj
          | 4, _, hj => first | rfl | exact absurd rfl hj
          | 5, _, hj => first | rfl | exact absurd rfl hj
          | 6, _, hj => first | rfl | exact absurd rfl hj
theorem st_0_7 {v : Int} : (CW cy ad σ ++ X).set 0 (ad 0, .inr (4, [.ref (ad 1), .ref (ad 2), .int (zI (σ 0 1)), .ref (ad 3), .ref (ad 4), .ref (ad 5), .long (zJ (σ 0 5)), .int (zI (σ 0 6)), .int (zI v), .ref (ad 6)])) = CW cy ad (up σ 0 7 v) ++ X := by
  refine CW_set (by decide) rfl (fun j hj43 hj => ?_)
  · by_cases h1 : 37 ≤ j
    · rw [cwE_mem h1, cwE_mem h1]; rfl
    · by_cases h2 : 31 ≤ j
      · rw [cwE_str h2 (by omega), cwE_str h2 (by omega)]; rfl
      · by_cases h3 : 7 ≤ j
        · rw [cwE_mod h3 (by omega), cwE_mod h3 (by omega)]; rfl
        · match j, (show j < 7 by omega), hj with
          | 0, _, hj => first | rfl | exact absurd rfl hj
          | 1, _, hj => first | rfl | exact absurd rfl hj
          | 2, _, hj => first | rfl | exact absurd rfl hj
          | 3, _, hj => first | rfl | exact absurd rfl hj
          | 4, _, hj => first | rfl | exact absurd rfl hj
          | 5, _, hj => first | rfl | exact absurd rfl hj
          | 6, _, hj => first | rfl | exact absurd rfl hj
theorem st_0_0 {v : Int} : (CW cy ad σ ++ X).set 1 (ad 1, .inr (0, [.int (zI v)])) = CW cy ad (up σ 0 0 v) ++ X := by
  refine CW_set (by decide) rfl (fun j hj43 hj => ?_)
  · by_cases h1 : 37 ≤ j
    · rw [cwE_mem h1, cwE_mem h1]; rfl
    · by_cases h2 : 31 ≤ j
      · rw [cwE_str h2 (by omega), cwE_str h2 (by omega)]; rfl
      · by_cases h3 : 7 ≤ j
        · rw [cwE_mod h3 (by omega), cwE_mod h3 (by omega)]; rfl
        · match j, (show j < 7 by omega), hj with
          | 0, _, hj => first | rfl | exact absurd rfl hj
          | 1, _, hj => first | rfl | exact absurd rfl hj
          | 2, _, hj => first | rfl | exact absurd rfl hj
          | 3, _, hj => first | rfl | exact absurd rfl hj
          | 4, _, hj => first | rfl | exact absurd rfl hj
          | 5, _, hj => first | rfl | exact absurd rfl hj
          | 6, _, hj => first | rfl | exact absurd rfl hj
theorem st_0_2 {v : Int} : (CW cy ad σ ++ X).set 4 (ad 4, .inr (1, [.ref (ad 3), .int (zI v)])) = CW cy ad (up σ 0 2 v) ++ X := by
  refine CW_set (by decide) rfl (fun j hj43 hj => ?_)
  · by_cases h1 : 37 ≤ j
    · rw [cwE_mem h1, cwE_mem h1]; rfl
    · by_cases h2 : 31 ≤ j
      · rw [cwE_str h2 (by omega), cwE_str h2 (by omega)]; rfl
      · by_cases h3 : 7 ≤ j
        · rw [cwE_mod h3 (by omega), cwE_mod h3 (by omega)]; rfl
        · match j, (show j < 7 by omega), hj with
          | 0, _, hj => first | rfl | exact absurd rfl hj
          | 1, _, hj => first | rfl | exact absurd rfl hj
          | 2, _, hj => first | rfl | exact absurd rfl hj
          | 3, _, hj => first | rfl | exact absurd rfl hj
          | 4, _, hj => first | rfl | exact absurd rfl hj
          | 5, _, hj => first | rfl | exact absurd rfl hj
          | 6, _, hj => first | rfl | exact absurd rfl hj
theorem st_11 {i v : Int} : (CW cy ad σ ++ X).set 5 (ad 5, .inl (cy 1, 6, .inr (.inl (fun j : Nat => zJ (zup (σ 11) i v j))))) = CW cy ad (up σ 11 i v) ++ X := by
  refine CW_set (by decide) rfl (fun j hj43 hj => ?_)
  · by_cases h1 : 37 ≤ j
    · rw [cwE_mem h1, cwE_mem h1]; rfl
    · by_cases h2 : 31 ≤ j
      · rw [cwE_str h2 (by omega), cwE_str h2 (by omega)]; rfl
      · by_cases h3 : 7 ≤ j
        · rw [cwE_mod h3 (by omega), cwE_mod h3 (by omega)]; rfl
        · match j, (show j < 7 by omega), hj with
          | 0, _, hj => first | rfl | exact absurd rfl hj
          | 1, _, hj => first | rfl | exact absurd rfl hj
          | 2, _, hj => first | rfl | exact absurd rfl hj
          | 3, _, hj => first | rfl | exact absurd rfl hj
          | 4, _, hj => first | rfl | exact absurd rfl hj
          | 5, _, hj => first | rfl | exact absurd rfl hj
          | 6, _, hj => first | rfl | exact absurd rfl hj
theorem st_12 {i v : Int} : (CW cy ad σ ++ X).set 6 (ad 6, .inl (cy 0, 24, .inl (fun j : Nat => zI (zup (σ 12) i v j)))) = CW cy ad (up σ 12 i v) ++ X := by
  refine CW_set (by decide) rfl (fun j hj43 hj => ?_)
  · by_cases h1 : 37 ≤ j
    · rw [cwE_mem h1, cwE_mem h1]; rfl
    · by_cases h2 : 31 ≤ j
      · rw [cwE_str h2 (by omega), cwE_str h2 (by omega)]; rfl
      · by_cases h3 : 7 ≤ j
        · rw [cwE_mod h3 (by omega), cwE_mod h3 (by omega)]; rfl
        · match j, (show j < 7 by omega), hj with
          | 0, _, hj => first | rfl | exact absurd rfl hj
          | 1, _, hj => first | rfl | exact absurd rfl hj
          | 2, _, hj => first | rfl | exact absurd rfl hj
          | 3, _, hj => first | rfl | exact absurd rfl hj
          | 4, _, hj => first | rfl | exact absurd rfl hj
          | 5, _, hj => first | rfl | exact absurd rfl hj
          | 6, _, hj => first | rfl | exact absurd rfl hj
end CWS
