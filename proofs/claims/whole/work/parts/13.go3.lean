/-! small rows over the two worlds -/
section GO3
variable {D : va_G} {cy : Nat → ClassId} {l : Launch} {R : Room} {cc : ByteArray} {nL : Nat} {own : String} {ret : Option FieldType} {w0 : va_W} {Q : Option Value → va_W → Prop} {w : va_W} {pc : Nat} {lv lv' : List (Nat × Value)} {st : List Value}
theorem g_one {v : Value} (k : GO D cy l R cc nL own ret w0 Q w pc lv (v :: st)) : GO D cy l R cc nL own ret w0 Q w pc lv ((some v).toList ++ st) := k
theorem g_none (k : GO D cy l R cc nL own ret w0 Q w pc lv st) : GO D cy l R cc nL own ret w0 Q w pc lv ((none : Option Value).toList ++ st) := k
theorem g_topI {a b : Int} (h : a = b) (k : GO D cy l R cc nL own ret w0 Q w pc lv (.int (zI b) :: st)) : GO D cy l R cc nL own ret w0 Q w pc lv (.int (zI a) :: st) := by subst h; exact k
theorem g_topJ {a b : Int} (h : a = b) (k : GO D cy l R cc nL own ret w0 Q w pc lv (.long (zJ b) :: st)) : GO D cy l R cc nL own ret w0 Q w pc lv (.long (zJ a) :: st) := by subst h; exact k
theorem g_world {w' : va_W} (h : w = w') (k : GO D cy l R cc nL own ret w0 Q w' pc lv st) : GO D cy l R cc nL own ret w0 Q w pc lv st := by subst h; exact k
theorem g_lv (h : lv = lv') (k : GO D cy l R cc nL own ret w0 Q w pc lv' st) : GO D cy l R cc nL own ret w0 Q w pc lv st := by subst h; exact k
theorem g_ldc2 {idx : Nat} {z : Int} (hc : Cond.constantLong own idx (zJ z) ∈ gtb) (hd : decode cc pc = .ok (.ldc2_w idx, 3)) (k : GO D cy l R cc nL own ret w0 Q w (pc + 3) lv (.long (zJ z) :: st)) : GO D cy l R cc nL own ret w0 Q w pc lv st := by
  intro p e s m args below meth c H locs ls C hP hD hS hl
  exact lv_ldc2 C.1 C.2.1 C.2.2.2.2.2.1 (C.2.2.2.2.2.2.1 _ hc) hd (k p e s m args below meth c H locs ls C hP hD hS hl)
variable {ad : Nat → Nat} {σ : Nat → Int → Int} {X : va_W}
theorem g_mem {s p : Int} (hs : 0 ≤ s ∧ s < 6) (hp : 0 ≤ p ∧ p < 12) (hd : decode cc pc = .ok (.iaload, 1)) (kk : GO D cy l R cc nL own ret w0 Q (CW cy ad σ ++ X) (pc + 1) lv (.int (zI (σ 7 (12 * s + p))) :: st)) : GO D cy l R cc nL own ret w0 Q (CW cy ad σ ++ X) pc lv (.int (zI p) :: .ref (ad (37 + s.toNat)) :: st) := by
  refine g_iald (37 + s.toNat) (at_mem hs) (by omega) (by decide) hd ?_
  rw [memF_at hp.2]
  exact kk
theorem g_memst {s p v : Int} (hs : 0 ≤ s ∧ s < 6) (hp : 0 ≤ p ∧ p < 12) (hd : decode cc pc = .ok (.iastore, 1)) (kk : GO D cy l R cc nL own ret w0 Q (CW cy ad (up σ 7 (12 * s + p) v) ++ X) (pc + 1) lv st) : GO D cy l R cc nL own ret w0 Q (CW cy ad σ ++ X) pc lv (.int (zI v) :: .int (zI p) :: .ref (ad (37 + s.toNat)) :: st) :=
  g_iast (37 + s.toNat) (at_mem hs) (by omega) (by decide) (st_7 hs hp) hd kk
end GO3
/-- ends of contracts: a number, or a yes or no, the world as it was -/
def rdI (r : Int) (w : va_W) : Option Value → va_W → Prop := fun v w' => v = some (.int (zI r)) ∧ w' = w
def rdJ (r : Int) (w : va_W) : Option Value → va_W → Prop := fun v w' => v = some (.long (zJ r)) ∧ w' = w
def rdB (c : Prop) (w : va_W) : Option Value → va_W → Prop := fun v w' => (v = some (.int (zI 1)) ∧ w' = w ∧ c) ∨ (v = some (.int (zI 0)) ∧ w' = w ∧ ¬ c)
