section GOH
variable {D : va_G} {cy : Nat → ClassId} {l : Launch} {R : Room} {cc : ByteArray} {nL : Nat} {own : String} {ret : Option FieldType} {w0 : va_W} {Q : Option Value → va_W → Prop} {w : va_W} {pc : Nat} {lv lv' : List (Nat × Value)} {st : List Value}
theorem g_get {K : String} {T : u_T} {N ci idx : Nat} (hin : ∀ x ∈ u_ws K T N, x ∈ gtb) (hc : vwCl[ci]? = some (K, T, N)) (k : Nat) (hk : k < N) (hT : (T k).1 = K) (hlk : Cond.fieldLink own idx K (T k).2.1 (T k).2.2.1 ∈ gtb) (q0 : Nat) {a : Nat} {fs : List Value} {v : Value} (he : w[q0]? = some (a, .inr (ci, fs))) (hv : fs[k]? = some v) (hd : decode cc pc = .ok (.getfield idx, 3)) (kk : GO D cy l R cc nL own ret w0 Q w (pc + 3) lv (v :: st)) : GO D cy l R cc nL own ret w0 Q w pc lv (.ref a :: st) := by
  intro p e s m args below meth c H locs ls C hP hD hS hl
  exact va_get (D := D) (cl := vwCl) (C := K) (T := T) (N := N) C.1 C.2.1 C.2.2.2.2.2.2.1 hin C.2.2.2.2.2.1 C.2.2.2.2.2.2.2.1 hP q0 he hc k hk (C.2.2.2.2.2.2.1 _ hlk) (fun x h => by rw [hT] at h; exact h) hv hd (kk p e s m args below meth c H locs ls C hP hD hS hl)
theorem g_put {K : String} {T : u_T} {N ci idx : Nat} (hin : ∀ x ∈ u_ws K T N, x ∈ gtb) (ty0 : Nat → FieldType) (hty : ∀ k, k < N → parseFieldDescriptor (T k).2.2.1 = some (ty0 k)) (hnm : ∀ a, a < N → ∀ b, b < N → a ≠ b → (T a).2.1 ≠ (T b).2.1) (hc : vwCl[ci]? = some (K, T, N)) (k : Nat) (hk : k < N) (hT : (T k).1 = K) (hfin : (T k).2.2.2 = false) (hlk : Cond.fieldLink own idx K (T k).2.1 (T k).2.2.1 ∈ gtb) (q0 : Nat) {a : Nat} {fs : List Value} {v : Value} (he : w[q0]? = some (a, .inr (ci, fs))) (hn : narrow (ty0 k) v = v) (hf : fits (ty0 k) v = true) (hl9 : k < fs.length) {w' : va_W} (hw : w.set q0 (a, .inr (ci, fs.set k v)) = w') (hd : decode cc pc = .ok (.putfield idx, 3)) (kk : GO D cy l R cc nL own ret w0 Q w' (pc + 3) lv st) : GO D cy l R cc nL own ret w0 Q w pc lv (v :: .ref a :: st) := by
  intro p e s m args below meth c H locs ls C hP hD hS hl
  exact va_put (D := D) (cl := vwCl) (C := K) (T := T) (N := N) C.1 C.2.1 C.2.2.2.2.2.2.1 hin ty0 hty hnm C.2.2.2.2.2.1 C.2.2.2.2.2.2.2.1 hP hD hS q0 he hc k hk (C.2.2.2.2.2.2.1 _ hlk) (fun x h => by rw [hT] at h; exact h) hfin (hty k hk) hn hf hl9 hd (fun H1 locs1 hP1 hD1 hS1 => by rw [hw] at hP1 hD1; exact kk p e s m args below meth c H1 locs1 ls C hP1 hD1 hS1 hl)
theorem g_getN {K : String} {host : String} {T : u_T} {N ci idx : Nat} (hin : ∀ x ∈ u_ws K T N, x ∈ gtb) (hc : vwCl[ci]? = some (K, T, N)) (k : Nat) (hk : k < N) (hT : (T k).1 = K) (hlk : Cond.fieldLinkNest own idx K (T k).2.1 (T k).2.2.1 host ∈ gnt) (q0 : Nat) {a : Nat} {fs : List Value} {v : Value} (he : w[q0]? = some (a, .inr (ci, fs))) (hv : fs[k]? = some v) (hd : decode cc pc = .ok (.getfield idx, 3)) (kk : GO D cy l R cc nL own ret w0 Q w (pc + 3) lv (v :: st)) : GO D cy l R cc nL own ret w0 Q w pc lv (.ref a :: st) := by
  intro p e s m args below meth c H locs ls C hP hD hS hl
  exact va_getN (D := D) (cl := vwCl) (C := K) (T := T) (N := N) C.1 C.2.1 C.2.2.2.2.2.2.1 hin C.2.2.2.2.2.1 C.2.2.2.2.2.2.2.1 hP q0 he hc k hk (va_Nw.use rfl (C.2.2.2.2.2.2.2.2 _ hlk)) (fun x h => by rw [hT] at h; exact h) hv hd (kk p e s m args below meth c H locs ls C hP hD hS hl)
theorem g_putN {K : String} {host : String} {T : u_T} {N ci idx : Nat} (hin : ∀ x ∈ u_ws K T N, x ∈ gtb) (ty0 : Nat → FieldType) (hty : ∀ k, k < N → parseFieldDescriptor (T k).2.2.1 = some (ty0 k)) (hnm : ∀ a, a < N → ∀ b, b < N → a ≠ b → (T a).2.1 ≠ (T b).2.1) (hc : vwCl[ci]? = some (K, T, N)) (k : Nat) (hk : k < N) (hT : (T k).1 = K) (hfin : (T k).2.2.2 = false) (hlk : Cond.fieldLinkNest own idx K (T k).2.1 (T k).2.2.1 host ∈ gnt) (q0 : Nat) {a : Nat} {fs : List Value} {v : Value} (he : w[q0]? = some (a, .inr (ci, fs))) (hn : narrow (ty0 k) v = v) (hf : fits (ty0 k) v = true) (hl9 : k < fs.length) {w' : va_W} (hw : w.set q0 (a, .inr (ci, fs.set k v)) = w') (hd : decode cc pc = .ok (.putfield idx, 3)) (kk : GO D cy l R cc nL own ret w0 Q w' (pc + 3) lv st) : GO D cy l R cc nL own ret w0 Q w pc lv (v :: .ref a :: st) := by
  intro p e s m args below meth c H locs ls C hP hD hS hl
  exact va_putN (D := D) (cl := vwCl) (C := K) (T := T) (N := N) C.1 C.2.1 C.2.2.2.2.2.2.1 hin ty0 hty hnm C.2.2.2.2.2.1 C.2.2.2.2.2.2.2.1 hP hD hS q0 he hc k hk (va_Nw.use rfl (C.2.2.2.2.2.2.2.2 _ hlk)) (fun x h => by rw [hT] at h; exact h) hfin (hty k hk) hn hf hl9 hd (fun H1 locs1 hP1 hD1 hS1 => by rw [hw] at hP1 hD1; exact kk p e s m args below meth c H1 locs1 ls C hP1 hD1 hS1 hl)
theorem g_iald (q0 : Nat) {a : Nat} {n : Nat} {F : Int → Int} (he : w[q0]? = some (a, .inl (cy 0, n, .inl (fun j : Nat => zI (F j))))) {i : Int} (hi : 0 ≤ i ∧ i < n) (hn : n ≤ 100000) (hd : decode cc pc = .ok (.iaload, 1)) (kk : GO D cy l R cc nL own ret w0 Q w (pc + 1) lv (.int (zI (F i)) :: st)) : GO D cy l R cc nL own ret w0 Q w pc lv (.int (zI i) :: .ref a :: st) := by
  intro p e s m args below meth c H locs ls C hP hD hS hl
  refine va_iald C.1 C.2.1 C.2.2.2.2.2.2.2.1 hP q0 0 he rfl (zI_in hi.1 hi.2 (by omega)) hd ?_
  have e1 : ((i.toNat : Nat) : Int) = i := by omega
  rw [zI_clamp hi.1 (by omega), e1]
  exact kk p e s m args below meth c H locs ls C hP hD hS hl
theorem g_zald (q0 : Nat) {a : Nat} {n : Nat} {F : Int → Int} (he : w[q0]? = some (a, .inl (cy 2, n, .inl (fun j : Nat => zI (F j))))) {i : Int} (hi : 0 ≤ i ∧ i < n) (hn : n ≤ 100000) (hd : decode cc pc = .ok (.baload, 1)) (kk : GO D cy l R cc nL own ret w0 Q w (pc + 1) lv (.int (zI (F i)) :: st)) : GO D cy l R cc nL own ret w0 Q w pc lv (.int (zI i) :: .ref a :: st) := by
  intro p e s m args below meth c H locs ls C hP hD hS hl
  refine va_zald C.1 C.2.1 C.2.2.2.2.2.2.2.1 hP q0 2 he rfl (zI_in hi.1 hi.2 (by omega)) hd ?_
  have e1 : ((i.toNat : Nat) : Int) = i := by omega
  rw [zI_clamp hi.1 (by omega), e1]
  exact kk p e s m args below meth c H locs ls C hP hD hS hl
theorem g_lald (q0 : Nat) {a : Nat} {n : Nat} {F : Int → Int} (he : w[q0]? = some (a, .inl (cy 1, n, .inr (.inl (fun j : Nat => zJ (F j)))))) {i : Int} (hi : 0 ≤ i ∧ i < n) (hn : n ≤ 100000) (hd : decode cc pc = .ok (.laload, 1)) (kk : GO D cy l R cc nL own ret w0 Q w (pc + 1) lv (.long (zJ (F i)) :: st)) : GO D cy l R cc nL own ret w0 Q w pc lv (.int (zI i) :: .ref a :: st) := by
  intro p e s m args below meth c H locs ls C hP hD hS hl
  refine va_lald C.1 C.2.1 C.2.2.2.2.2.2.2.1 hP q0 1 he rfl (zI_in hi.1 hi.2 (by omega)) hd ?_
  have e1 : ((i.toNat : Nat) : Int) = i := by omega
  rw [zI_clamp hi.1 (by omega), e1]
  exact kk p e s m args below meth c H locs ls C hP hD hS hl
theorem g_aald (q0 t0 : Nat) {K : String} {cA : ClassId} {a : Nat} {n : Nat} {F : Nat → Option Nat} (he : w[q0]? = some (a, .inl (cA, n, .inr (.inr (.inr (.inr F)))))) (ht : (gT cy)[t0]? = some (cA, .object K)) {i : Int} (hi : 0 ≤ i ∧ i < n) (hn : n ≤ 100000) {r : Nat} (hF : F i.toNat = some r) (hd : decode cc pc = .ok (.aaload, 1)) (kk : GO D cy l R cc nL own ret w0 Q w (pc + 1) lv (.ref r :: st)) : GO D cy l R cc nL own ret w0 Q w pc lv (.int (zI i) :: .ref a :: st) := by
  intro p e s m args below meth c H locs ls C hP hD hS hl
  refine va_aldq C.1 C.2.1 C.2.2.2.2.2.2.2.1 hP q0 t0 he ht (zI_in hi.1 hi.2 (by omega)) hd ?_
  rw [zI_clamp hi.1 (by omega), hF]
  exact kk p e s m args below meth c H locs ls C hP hD hS hl
theorem g_iast (q0 : Nat) {a : Nat} {n : Nat} {F : Int → Int} (he : w[q0]? = some (a, .inl (cy 0, n, .inl (fun j : Nat => zI (F j))))) {i v : Int} (hi : 0 ≤ i ∧ i < n) (hn : n ≤ 100000) {w' : va_W} (hw : w.set q0 (a, .inl (cy 0, n, .inl (fun j : Nat => zI (zup F i v j)))) = w') (hd : decode cc pc = .ok (.iastore, 1)) (kk : GO D cy l R cc nL own ret w0 Q w' (pc + 1) lv st) : GO D cy l R cc nL own ret w0 Q w pc lv (.int (zI v) :: .int (zI i) :: .ref a :: st) := by
  intro p e s m args below meth c H locs ls C hP hD hS hl
  exact va_iast C.1 C.2.1 C.2.2.2.2.2.2.2.1 hP hD hS q0 0 he rfl (zI_in hi.1 hi.2 (by omega)) hd (fun H1 locs1 hP1 hD1 hS1 => by rw [zI_clamp hi.1 (by omega), zup_row32 F hi.1 v, hw] at hP1 hD1; exact kk p e s m args below meth c H1 locs1 ls C hP1 hD1 hS1 hl)
theorem g_zast (q0 : Nat) {a : Nat} {n : Nat} {F : Int → Int} (he : w[q0]? = some (a, .inl (cy 2, n, .inl (fun j : Nat => zI (F j))))) {i v : Int} (hi : 0 ≤ i ∧ i < n) (hn : n ≤ 100000) (hv : v = 0 ∨ v = 1) {w' : va_W} (hw : w.set q0 (a, .inl (cy 2, n, .inl (fun j : Nat => zI (zup F i v j)))) = w') (hd : decode cc pc = .ok (.bastore, 1)) (kk : GO D cy l R cc nL own ret w0 Q w' (pc + 1) lv st) : GO D cy l R cc nL own ret w0 Q w pc lv (.int (zI v) :: .int (zI i) :: .ref a :: st) := by
  intro p e s m args below meth c H locs ls C hP hD hS hl
  have e1 : vp_nar .boolean (zI v) = zI v := by rcases hv with rfl | rfl <;> decide
  exact va_zast C.1 C.2.1 C.2.2.2.2.2.2.2.1 hP hD hS q0 2 he rfl (zI_in hi.1 hi.2 (by omega)) hd (fun H1 locs1 hP1 hD1 hS1 => by rw [e1, zI_clamp hi.1 (by omega), zup_row32 F hi.1 v, hw] at hP1 hD1; exact kk p e s m args below meth c H1 locs1 ls C hP1 hD1 hS1 hl)
theorem g_last (q0 : Nat) {a : Nat} {n : Nat} {F : Int → Int} (he : w[q0]? = some (a, .inl (cy 1, n, .inr (.inl (fun j : Nat => zJ (F j)))))) {i v : Int} (hi : 0 ≤ i ∧ i < n) (hn : n ≤ 100000) {w' : va_W} (hw : w.set q0 (a, .inl (cy 1, n, .inr (.inl (fun j : Nat => zJ (zup F i v j))))) = w') (hd : decode cc pc = .ok (.lastore, 1)) (kk : GO D cy l R cc nL own ret w0 Q w' (pc + 1) lv st) : GO D cy l R cc nL own ret w0 Q w pc lv (.long (zJ v) :: .int (zI i) :: .ref a :: st) := by
  intro p e s m args below meth c H locs ls C hP hD hS hl
  exact va_last C.1 C.2.1 C.2.2.2.2.2.2.2.1 hP hD hS q0 1 he rfl (zI_in hi.1 hi.2 (by omega)) hd (fun H1 locs1 hP1 hD1 hS1 => by rw [zI_clamp hi.1 (by omega), zup_row64 F hi.1 v, hw] at hP1 hD1; exact kk p e s m args below meth c H1 locs1 ls C hP1 hD1 hS1 hl)
theorem g_max {a b : Int} {idx : Nat} (hlk : Cond.methodLink own idx Lib.Math.max.name ∈ gtb) (hst : Cond.static Lib.Math.max.name ∈ gtb) (hi : Cond.initialized "java/lang/Math" ∈ gtb) (hco : Cond.code Lib.Math.max.name Lib.Math.max.code 2 (some .int) ∈ gtb) (hR : 1 ≤ R.frames) (hRl : (st.map fun v => v.category).sum + 13 ≤ R.locals) (ha : -2147483648 ≤ a ∧ a ≤ 2147483647) (hb : -2147483648 ≤ b ∧ b ≤ 2147483647) (hd : decode cc pc = .ok (.invokestatic idx, 3)) (kk : GO D cy l R cc nL own ret w0 Q w (pc + 3) lv (.int (zI (max a b)) :: st)) : GO D cy l R cc nL own ret w0 Q w pc lv (.int (zI b) :: .int (zI a) :: st) := by
  intro p e s m args below meth c H locs ls C hP hD hS hl
  have e1 : (if zI a < zI b then zI b else zI a) = zI (max a b) := zI_max ha hb
  refine va_mmax C.1 C.2.1 (by rw [hl.1]; exact C.2.2.1) C.2.2.2.2.2.1 (C.2.2.2.2.2.2.1 _ hlk) (C.2.2.2.2.2.2.1 _ hst) (C.2.2.2.2.2.2.1 _ hi) (C.2.2.2.2.2.2.1 _ hco) hR hRl (Nat.zero_le _) (Nat.zero_le _) hd ?_
  rw [e1]
  exact kk p e s m args below meth c H locs ls C hP hD hS hl
theorem g_min {a b : Int} {idx : Nat} (hlk : Cond.methodLink own idx Lib.Math.min.name ∈ gtb) (hst : Cond.static Lib.Math.min.name ∈ gtb) (hi : Cond.initialized "java/lang/Math" ∈ gtb) (hco : Cond.code Lib.Math.min.name Lib.Math.min.code 2 (some .int) ∈ gtb) (hR : 1 ≤ R.frames) (hRl : (st.map fun v => v.category).sum + 13 ≤ R.locals) (ha : -2147483648 ≤ a ∧ a ≤ 2147483647) (hb : -2147483648 ≤ b ∧ b ≤ 2147483647) (hd : decode cc pc = .ok (.invokestatic idx, 3)) (kk : GO D cy l R cc nL own ret w0 Q w (pc + 3) lv (.int (zI (min a b)) :: st)) : GO D cy l R cc nL own ret w0 Q w pc lv (.int (zI b) :: .int (zI a) :: st) := by
  intro p e s m args below meth c H locs ls C hP hD hS hl
  have e1 : (if zI b < zI a then zI b else zI a) = zI (min a b) := by
    by_cases h : b < a
    · rw [if_pos ((zI_lt hb ha).mpr h)]; congr 1; omega
    · rw [if_neg (fun q => h ((zI_lt hb ha).mp q))]; congr 1; omega
  refine va_mmin C.1 C.2.1 (by rw [hl.1]; exact C.2.2.1) C.2.2.2.2.2.1 (C.2.2.2.2.2.2.1 _ hlk) (C.2.2.2.2.2.2.1 _ hst) (C.2.2.2.2.2.2.1 _ hi) (C.2.2.2.2.2.2.1 _ hco) hR hRl (Nat.zero_le _) (Nat.zero_le _) hd ?_
  rw [e1]
  exact kk p e s m args below meth c H locs ls C hP hD hS hl
theorem g_maxl {a b : Int} {idx : Nat} (hlk : Cond.methodLink own idx Lib.MathLoose.max_long.x ∈ gtb) (hst : Cond.static Lib.MathLoose.max_long.x ∈ gtb) (hi : Cond.initialized "java/lang/Math" ∈ gtb) (hco : Cond.code Lib.MathLoose.max_long.x Lib.MathLoose.max_long.code 4 (some .long) ∈ gtb) (hR : 1 ≤ R.frames) (hRl : (st.map fun v => v.category).sum + 15 ≤ R.locals) (ha : -9223372036854775808 ≤ a ∧ a ≤ 9223372036854775807) (hb : -9223372036854775808 ≤ b ∧ b ≤ 9223372036854775807) (hd : decode cc pc = .ok (.invokestatic idx, 3)) (kk : GO D cy l R cc nL own ret w0 Q w (pc + 3) lv (.long (zJ (max a b)) :: st)) : GO D cy l R cc nL own ret w0 Q w pc lv (.long (zJ b) :: .long (zJ a) :: st) := by
  intro p e s m args below meth c H locs ls C hP hD hS hl
  have e1 : (if zJ b < zJ a then zJ a else zJ b) = zJ (max a b) := by
    by_cases h : b < a
    · rw [if_pos ((zJ_lt hb ha).mpr h)]; congr 1; omega
    · rw [if_neg (fun q => h ((zJ_lt hb ha).mp q))]; congr 1; omega
  refine va_mmax_long C.1 C.2.1 (by rw [hl.1]; exact C.2.2.1) C.2.2.2.2.2.1 (C.2.2.2.2.2.2.1 _ hlk) (C.2.2.2.2.2.2.1 _ hst) (C.2.2.2.2.2.2.1 _ hi) (C.2.2.2.2.2.2.1 _ hco) hR hRl (Nat.zero_le _) (Nat.zero_le _) hd ?_
  rw [e1]
  exact kk p e s m args below meth c H locs ls C hP hD hS hl
end GOH
