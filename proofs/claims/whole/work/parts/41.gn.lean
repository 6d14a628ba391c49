/-! constructors: a walk that counts its cells -/
def gZ (U : State) : Prop := va_AO "PvArray$PvModule" U ∧ va_AO "PvArray$PvString" U
theorem gZ.moved {u U : State} (h : u.vm.Alike U.vm) (hz : gZ u) : gZ U := ⟨va_AO.moved h hz.1, va_AO.moved h hz.2⟩
def GN (D : va_G) (cy : Nat → ClassId) (l : Launch) (R : Room) (cc : ByteArray) (nL : Nat) (own : String) (mc ms : Nat) (w0 : va_W) (Q : va_W → Prop) (w : va_W) (kc ks : Nat) (pc : Nat) (lv : List (Nat × Value)) (st : List Value) : Prop :=
  ∀ (p : Program) (e : Env) (s : State) (m : MethodId) (args : Array Value) (below : List Frame) (meth : Method) (c : Code) (H : Heap) (locs : List Loc) (ls : Array Slot),
    gC D cy cc nL own none p s m args meth c → meth.name = "<init>" → gZ s → va_P D vwCl w H → va_D (va_A w0 s.heap.size) w → va_S (va_A w0 s.heap.size) s.heap H locs → lv_has ls nL lv →
    W p l e R s m args below meth c H locs kc ks (MQ below (gQ D w0 (fun v w' => v = none ∧ Q w')) args s mc ms (va_A w0 s.heap.size)) (F0 m pc ls st)
def ConN (D : va_G) (cy : Nat → ClassId) (l : Launch) (y : MethodName) (cc : ByteArray) (nL : Nat) (rm : Room) (mc ms : Nat) (av : List Value) (w0 : va_W) (Q : va_W → Prop) : Prop :=
  ∀ sz : Nat, Met l y (.code y cc nL none :: gtb) rm (va_Pc av (fun U => U.heap.size = sz ∧ va_P D vwCl w0 U.heap ∧ (gK D cy U ∧ gZ U) ∧ va_D (fun _ => True) w0)) (gQ D w0 (fun v w' => v = none ∧ Q w')) mc ms (va_A w0 sz)
theorem ConN.of {D : va_G} {cy : Nat → ClassId} {l : Launch} {y : MethodName} {cc : ByteArray} {nL : Nat} {rm : Room} {mc ms : Nat} {av : List Value} {w0 : va_W} {Q : va_W → Prop} {lv : List (Nat × Value)}
    (hy : plainName y.cls = true) (hnm : y.name = "<init>") (hn : (lg_sl av).length ≤ nL) (hlv : lv_args 0 av = lv) (k : GN D cy l rm cc nL y.cls mc ms w0 Q w0 0 0 0 lv []) : ConN D cy l y cc nL rm mc ms av w0 Q := by
  intro sz
  refine Met.ofW (cc := cc) (maxL := nL) (ret := none) hy rfl ?_
  intro p e s m args below meth c s₁ B hml hv
  obtain ⟨rfl, hsz, hP, hK, hD0⟩ := hv
  subst hsz
  have hts := atoms_spec (ws := .code y cc nL none :: gtb) B.pre
  have hin : meth.name = "<init>" := (name_of_methodNamed B.named B.method).1.trans hnm
  have hl := lv_entry av (n := nL) hn
  rw [lg_entry_eq]
  rw [hlv] at hl
  exact k p e s m _ below meth c s.heap [] _ ⟨B.exec, B.bytes, hml, B.returns, B.notSynchronized, findClass_of_methodNamed B.named, fun x hx => hts x (List.mem_cons_of_mem _ hx), hK.1⟩ hin hK.2 hP hD0.self va_S.rf hl
/-- two worlds with the same cells in another order -/
theorem gP_perm {D : va_G} {w w' : va_W} {H : Heap} (π : Nat → Nat) (h : ∀ k q, w'[k]? = some q → w[π k]? = some q) (hP : va_P D vwCl w H) : va_P D vwCl w' H := fun k q hk => hP (π k) q (h k q hk)
theorem gD_perm {A : Nat → Prop} {w w' : va_W} (π : Nat → Nat) (h : ∀ k q, w'[k]? = some q → w[π k]? = some q) (hi : ∀ i j, i < w'.length → j < w'.length → π i = π j → i = j) (hD : va_D A w) : va_D A w' := by
  refine ⟨fun i j p q h1 h2 e => ?_, fun k q hk => hD.2 (π k) q (h k q hk)⟩
  have := hD.1 (π i) (π j) p q (h i p h1) (h j q h2) e
  exact hi i j (List.getElem?_eq_some_iff.mp h1).1 (List.getElem?_eq_some_iff.mp h2).1 this
/-- the last cell goes in front of the frame -/
theorem gm_look (L Y : va_W) (c : Nat × va_E) (k : Nat) (hk : k < ((L ++ [c]) ++ Y).length) : ((L ++ [c]) ++ Y)[k]? = ((L ++ Y) ++ [c])[if k < L.length then k else if k = L.length then (L ++ Y).length else k - 1]? := by
  by_cases h1 : k < L.length
  · rw [if_pos h1, List.getElem?_append_left (by simp; omega), List.getElem?_append_left h1, List.getElem?_append_left (by simp; omega), List.getElem?_append_left h1]
  · rw [if_neg h1]
    by_cases h2 : k = L.length
    · rw [if_pos h2, h2, List.getElem?_append_left (by simp), List.getElem?_append_right (by omega), List.getElem?_append_right (by omega)]
      simp
    · rw [if_neg h2, List.getElem?_append_right (by simp; omega)]
      by_cases h3 : k - 1 < (L ++ Y).length
      · rw [List.getElem?_append_left h3, List.getElem?_append_right (by omega)]
        congr 1
        simp
        omega
      · simp at h3 hk
        omega
theorem gm_P {D : va_G} {L Y : va_W} {c : Nat × va_E} {H : Heap} (hP : va_P D vwCl ((L ++ Y) ++ [c]) H) : va_P D vwCl ((L ++ [c]) ++ Y) H := gP_perm _ (fun k q h => by rw [← gm_look L Y c k (List.getElem?_eq_some_iff.mp h).1]; exact h) hP
theorem gm_D {A : Nat → Prop} {L Y : va_W} {c : Nat × va_E} (hD : va_D A ((L ++ Y) ++ [c])) : va_D A ((L ++ [c]) ++ Y) := by
  refine gD_perm (fun k => if k < L.length then k else if k = L.length then (L ++ Y).length else k - 1) (fun k q h => by rw [← gm_look L Y c k (List.getElem?_eq_some_iff.mp h).1]; exact h) (fun i j h1 h2 h => ?_) hD
  simp at h1 h2 h
  split at h <;> split at h <;> (try split at h) <;> (try split at h) <;> omega
section GNR
variable {D : va_G} {cy : Nat → ClassId} {l : Launch} {R : Room} {cc : ByteArray} {nL : Nat} {own : String} {mc ms : Nat} {w0 : va_W} {Q : va_W → Prop} {w : va_W} {kc ks pc : Nat} {lv lv' : List (Nat × Value)} {st : List Value}
theorem n_iconst {n : Int} (hd : decode cc pc = .ok (.iconst n, 1)) (k : GN D cy l R cc nL own mc ms w0 Q w kc ks (pc + 1) lv (.int (zI n) :: st)) : GN D cy l R cc nL own mc ms w0 Q w kc ks pc lv st := by
  intro p e s m args below meth c H locs ls C hi hz hP hD hS hl
  exact lv_iconst C.1 C.2.1 hd rfl (k p e s m args below meth c H locs ls C hi hz hP hD hS hl)
theorem n_bipush {n : Int} (hd : decode cc pc = .ok (.bipush n, 2)) (hn : -128 ≤ n ∧ n ≤ 127) (k : GN D cy l R cc nL own mc ms w0 Q w kc ks (pc + 2) lv (.int (zI n) :: st)) : GN D cy l R cc nL own mc ms w0 Q w kc ks pc lv st := by
  intro p e s m args below meth c H locs ls C hi hz hP hD hS hl
  exact lv_bipush C.1 C.2.1 hd (Int8.toInt32_ofInt (by show (-128 : Int) ≤ n; omega) (by show n ≤ (127 : Int); omega)) (k p e s m args below meth c H locs ls C hi hz hP hD hS hl)
theorem n_sipush {n : Int} (hd : decode cc pc = .ok (.sipush n, 3)) (hn : -32768 ≤ n ∧ n ≤ 32767) (k : GN D cy l R cc nL own mc ms w0 Q w kc ks (pc + 3) lv (.int (zI n) :: st)) : GN D cy l R cc nL own mc ms w0 Q w kc ks pc lv st := by
  intro p e s m args below meth c H locs ls C hi hz hP hD hS hl
  exact lv_sipush C.1 C.2.1 hd (Int16.toInt32_ofInt (by show (-32768 : Int) ≤ n; omega) (by show n ≤ (32767 : Int); omega)) (k p e s m args below meth c H locs ls C hi hz hP hD hS hl)
theorem n_lconst {n : Fin 2} {z : Int} (hd : decode cc pc = .ok (.lconst n, 1)) (hz : z = ((n : Nat) : Int)) (k : GN D cy l R cc nL own mc ms w0 Q w kc ks (pc + 1) lv (.long (zJ z) :: st)) : GN D cy l R cc nL own mc ms w0 Q w kc ks pc lv st := by
  intro p e s m args below meth c H locs ls C hi hzz hP hD hS hl
  subst hz
  exact lv_lconst C.1 C.2.1 hd (by simp [zJ, Int64.ofInt_eq_ofNat]) (k p e s m args below meth c H locs ls C hi hzz hP hD hS hl)
theorem n_iload_n {i : Fin 4} {x : Int32} (hd : decode cc pc = .ok (.iload_n i, 1)) (q : Nat) (hv : lv[q]? = some ((i : Nat), .int x)) (k : GN D cy l R cc nL own mc ms w0 Q w kc ks (pc + 1) lv (.int x :: st)) : GN D cy l R cc nL own mc ms w0 Q w kc ks pc lv st := by
  intro p e s m args below meth c H locs ls C hi hz hP hD hS hl
  exact lv_iload_n C.1 C.2.1 hd rfl (lv_at hl q hv) (k p e s m args below meth c H locs ls C hi hz hP hD hS hl)
theorem n_aload_n {i : Fin 4} {x : Nat} (hd : decode cc pc = .ok (.aload_n i, 1)) (q : Nat) (hv : lv[q]? = some ((i : Nat), .ref x)) (k : GN D cy l R cc nL own mc ms w0 Q w kc ks (pc + 1) lv (.ref x :: st)) : GN D cy l R cc nL own mc ms w0 Q w kc ks pc lv st := by
  intro p e s m args below meth c H locs ls C hi hz hP hD hS hl
  exact lv_aload_n C.1 C.2.1 hd rfl (lv_at hl q hv) (k p e s m args below meth c H locs ls C hi hz hP hD hS hl)
theorem n_istore_n {i : Fin 4} {x : Int32} (hd : decode cc pc = .ok (.istore_n i, 1)) (hn : (i : Nat) < nL) (hv : ((i : Nat), Value.int x) :: lv.filter (fun q => !(q.1 == (i : Nat)) && !(q.1 + 1 == (i : Nat) && q.2.category == 2)) = lv') (k : GN D cy l R cc nL own mc ms w0 Q w kc ks (pc + 1) lv' st) : GN D cy l R cc nL own mc ms w0 Q w kc ks pc lv (.int x :: st) := by
  intro p e s m args below meth c H locs ls C hi hz hP hD hS hl
  exact lv_istore_n C.1 C.2.1 hd rfl hl hn hv (fun ls' hl' => k p e s m args below meth c H locs ls' C hi hz hP hD hS hl')
theorem n_iinc {i : Nat} {n z : Int} (hd : decode cc pc = .ok (.iinc i n, 3)) (hn : i < nL) (q : Nat) (hq : lv[q]? = some (i, .int (zI z))) (hv : (i, Value.int (zI (z + n))) :: lv.filter (fun q => !(q.1 == i) && !(q.1 + 1 == i && q.2.category == 2)) = lv') (k : GN D cy l R cc nL own mc ms w0 Q w kc ks (pc + 3) lv' st) : GN D cy l R cc nL own mc ms w0 Q w kc ks pc lv st := by
  intro p e s m args below meth c H locs ls C hi hz hP hD hS hl
  exact lv_iinc C.1 C.2.1 hd hl hq (zI_add z n) hn hv (fun ls' hl' => k p e s m args below meth c H locs ls' C hi hz hP hD hS hl')
theorem n_sub (q : List Nat) (hv : lv_pick lv q = lv') (k : GN D cy l R cc nL own mc ms w0 Q w kc ks pc lv' st) : GN D cy l R cc nL own mc ms w0 Q w kc ks pc lv st := by
  intro p e s m args below meth c H locs ls C hi hz hP hD hS hl
  exact k p e s m args below meth c H locs ls C hi hz hP hD hS (lv_sub hl q hv)
theorem n_dup {v : Value} (hd : decode cc pc = .ok (.dup, 1)) (hc : v.category = 1) (k : GN D cy l R cc nL own mc ms w0 Q w kc ks (pc + 1) lv (v :: v :: st)) : GN D cy l R cc nL own mc ms w0 Q w kc ks pc lv (v :: st) := by
  intro p e s m args below meth c H locs ls C hi hz hP hD hS hl
  exact lv_dup C.1 C.2.1 hd hc (k p e s m args below meth c H locs ls C hi hz hP hD hS hl)
theorem n_goto {off : Int} (tgt : Nat) (hd : decode cc pc = .ok (.goto off, 3)) (ht : (pc : Int) + off = (tgt : Int)) (k : GN D cy l R cc nL own mc ms w0 Q w kc ks tgt lv st) : GN D cy l R cc nL own mc ms w0 Q w kc ks pc lv st := by
  intro p e s m args below meth c H locs ls C hi hz hP hD hS hl
  exact lv_goto C.1 C.2.1 hd ht (k p e s m args below meth c H locs ls C hi hz hP hD hS hl)
theorem n_icmp_ge {a b off : Int} (tgt : Nat) (hd : decode cc pc = .ok (.if_icmp .ge off, 3)) (ht : (pc : Int) + off = (tgt : Int)) (ha : -2147483648 ≤ a ∧ a ≤ 2147483647) (hb : -2147483648 ≤ b ∧ b ≤ 2147483647) (kt : b ≤ a → GN D cy l R cc nL own mc ms w0 Q w kc ks tgt lv st) (kf : a < b → GN D cy l R cc nL own mc ms w0 Q w kc ks (pc + 3) lv st) : GN D cy l R cc nL own mc ms w0 Q w kc ks pc lv (.int (zI b) :: .int (zI a) :: st) := by
  intro p e s m args below meth c H locs ls C hi hz hP hD hS hl
  exact lv_icmp_ge C.1 C.2.1 hd ht (fun h => kt ((zI_le hb ha).mp h) p e s m args below meth c H locs ls C hi hz hP hD hS hl) (fun h => kf (Int.not_le.mp (fun q => h ((zI_le hb ha).mpr q))) p e s m args below meth c H locs ls C hi hz hP hD hS hl)
theorem n_world {w' : va_W} (h : w = w') (k : GN D cy l R cc nL own mc ms w0 Q w' kc ks pc lv st) : GN D cy l R cc nL own mc ms w0 Q w kc ks pc lv st := by subst h; exact k
theorem n_lv (h : lv = lv') (k : GN D cy l R cc nL own mc ms w0 Q w kc ks pc lv' st) : GN D cy l R cc nL own mc ms w0 Q w kc ks pc lv st := by subst h; exact k
theorem n_ret (hd : decode cc pc = .ok (.return_, 1)) (h1 : kc ≤ mc) (h2 : ks ≤ ms) (hq : Q w) : GN D cy l R cc nL own mc ms w0 Q w kc ks pc lv [] := by
  intro p e s m args below meth c H locs ls C hi hz hP hD hS hl
  exact W.widen h1 h2 (W.vret C.1 C.2.1 C.2.2.2.1 (fun t ht hW => ⟨none, w, rfl, ⟨rfl, hq⟩, by rw [ht]; exact hP, hD, hS.F ht⟩) hS.2.2 hd C.2.2.2.2.1)
theorem n_get {K : String} {T : u_T} {N ci idx : Nat} (hin : ∀ x ∈ u_ws K T N, x ∈ gtb) (hc : vwCl[ci]? = some (K, T, N)) (k : Nat) (hk : k < N) (hT : (T k).1 = K) (hlk : Cond.fieldLink own idx K (T k).2.1 (T k).2.2.1 ∈ gtb) (q0 : Nat) {a : Nat} {fs : List Value} {v : Value} (he : w[q0]? = some (a, .inr (ci, fs))) (hv : fs[k]? = some v) (hd : decode cc pc = .ok (.getfield idx, 3)) (kk : GN D cy l R cc nL own mc ms w0 Q w kc ks (pc + 3) lv (v :: st)) : GN D cy l R cc nL own mc ms w0 Q w kc ks pc lv (.ref a :: st) := by
  intro p e s m args below meth c H locs ls C hi hz hP hD hS hl
  exact va_get (D := D) (cl := vwCl) (C := K) (T := T) (N := N) C.1 C.2.1 C.2.2.2.2.2.2.1 hin C.2.2.2.2.2.1 C.2.2.2.2.2.2.2.1 hP q0 he hc k hk (C.2.2.2.2.2.2.1 _ hlk) (fun x h => by rw [hT] at h; exact h) hv hd (kk p e s m args below meth c H locs ls C hi hz hP hD hS hl)
theorem n_put {K : String} {T : u_T} {N ci idx : Nat} (hin : ∀ x ∈ u_ws K T N, x ∈ gtb) (ty0 : Nat → FieldType) (hty : ∀ k, k < N → parseFieldDescriptor (T k).2.2.1 = some (ty0 k)) (hnm : ∀ a, a < N → ∀ b, b < N → a ≠ b → (T a).2.1 ≠ (T b).2.1) (hc : vwCl[ci]? = some (K, T, N)) (k : Nat) (hk : k < N) (hT : (T k).1 = K) (hlk : Cond.fieldLink own idx K (T k).2.1 (T k).2.2.1 ∈ gtb) (hown : (T k).2.2.2 = false ∨ (T k).1 = own) (q0 : Nat) {a : Nat} {fs : List Value} {v : Value} (he : w[q0]? = some (a, .inr (ci, fs))) (hn : narrow (ty0 k) v = v) (hf : fits (ty0 k) v = true) (hl9 : k < fs.length) {w' : va_W} (hw : w.set q0 (a, .inr (ci, fs.set k v)) = w') (hd : decode cc pc = .ok (.putfield idx, 3)) (kk : GN D cy l R cc nL own mc ms w0 Q w' kc ks (pc + 3) lv st) : GN D cy l R cc nL own mc ms w0 Q w kc ks pc lv (v :: .ref a :: st) := by
  intro p e s m args below meth c H locs ls C hi hz hP hD hS hl
  cases hfin : (T k).2.2.2 with
  | false => exact va_put (D := D) (cl := vwCl) (C := K) (T := T) (N := N) C.1 C.2.1 C.2.2.2.2.2.2.1 hin ty0 hty hnm C.2.2.2.2.2.1 C.2.2.2.2.2.2.2.1 hP hD hS q0 he hc k hk (C.2.2.2.2.2.2.1 _ hlk) (fun x h => by rw [hT] at h; exact h) hfin (hty k hk) hn hf hl9 hd (fun H1 locs1 hP1 hD1 hS1 => by rw [hw] at hP1 hD1; exact kk p e s m args below meth c H1 locs1 ls C hi hz hP1 hD1 hS1 hl)
  | true => exact va_putF (D := D) (cl := vwCl) (C := K) (T := T) (N := N) C.1 C.2.1 C.2.2.2.2.2.2.1 hin ty0 hty hnm C.2.2.2.2.2.1 C.2.2.2.2.2.2.2.1 hP hD hS q0 he hc k hk (C.2.2.2.2.2.2.1 _ hlk) (fun x h => by rw [hT] at h; exact h) hfin hi (hown.resolve_left (by rw [hfin]; decide)) (hty k hk) hn hf hl9 hd (fun H1 locs1 hP1 hD1 hS1 => by rw [hw] at hP1 hD1; exact kk p e s m args below meth c H1 locs1 ls C hi hz hP1 hD1 hS1 hl)
theorem n_objInit {idx a : Nat} (hlk : Cond.methodLink own idx Lib.objectInit ∈ gtb) (hin : Cond.instanceMethod Lib.objectInit ∈ gtb) (hco : Cond.code Lib.objectInit ⟨#[0xb1]⟩ 1 none ∈ gtb) (hR : 1 ≤ R.frames) (hRl : (st.map fun v => v.category).sum + 12 ≤ R.locals) (hd : decode cc pc = .ok (.invokespecial idx, 3)) (kk : GN D cy l R cc nL own mc ms w0 Q w kc ks (pc + 3) lv st) : GN D cy l R cc nL own mc ms w0 Q w kc ks pc lv (.ref a :: st) := by
  intro p e s m args below meth c H locs ls C hi hz hP hD hS hl
  refine W.objInit C.1 C.2.1 C.2.2.2.2.2.1 (C.2.2.2.2.2.2.1 _ hlk) (C.2.2.2.2.2.2.1 _ hin) (C.2.2.2.2.2.2.1 _ hco) rfl (by rw [C.2.2.1]; exact hl.1) rfl hd hR (by show 2 * 0 + _ + 12 ≤ _; omega) ?_
  exact W.eq (g2 := F0 m (pc + 3) ls st) rfl (kk p e s m args below meth c H locs ls C hi hz hP hD hS hl)
theorem n_new {K : String} {T : u_T} {N ci idx : Nat} {L Y : va_W} (hin : ∀ x ∈ u_ws K T N, x ∈ gtb) (ty0 : Nat → FieldType) (hty : ∀ k, k < N → parseFieldDescriptor (T k).2.2.1 = some (ty0 k)) (hcl : Cond.classLink own idx K ∈ gtb) (hinst : Cond.instantiable K N ∈ gtb) (hini : Cond.initialized K ∈ gtb) (hc : vwCl[ci]? = some (K, T, N)) {fs : List Value} (hfs : ∀ j, j < N → defaultValue (ty0 j) = vp_V fs j) (h1 : kc + 1 ≤ R.cells) (h2 : ks + N ≤ R.slots) (hd : decode cc pc = .ok (.new idx, 3))
    (kk : ∀ q : Nat, GN D cy l R cc nL own mc ms w0 Q ((L ++ [(q, .inr (ci, fs))]) ++ Y) (kc + 1) (ks + N) (pc + 3) lv (.ref q :: st)) : GN D cy l R cc nL own mc ms w0 Q (L ++ Y) kc ks pc lv st := by
  intro p e s m args below meth c H locs ls C hi hz hP hD hS hl
  have ht := C.2.2.2.2.2.2.1
  exact va_new (D := D) (cl := vwCl) C.1 C.2.1 ht hin ty0 hty C.2.2.2.2.2.1 (ht _ hcl) (ht _ hinst) (ht _ hini) C.2.2.2.2.2.2.2.1 hP hD hS (fun q h => Or.inr h) hc hfs h1 h2 hd (fun q H1 hP1 hD1 hS1 => kk q p e s m args below meth c H1 locs ls C hi hz (gm_P hP1) (gm_D hD1) hS1 hl)
theorem n_newa {atype : ArrayType} {ty : FieldType} {t0 : Nat} {L Y : va_W} {n : Int} {N : Nat} {a0 : vp_A} (harr : Cond.arrayClass (newarray.typeOf atype) ∈ gtb) (hty : newarray.typeOf atype = ty) (hpr : ∀ K, ty ≠ .object K) (ht0 : (gT cy)[t0]? = some (cy t0, ty)) (ha : ∀ cA : ClassId, vp_cell cA a0 = arrV cA N (fun _ => defaultValue ty)) (hn : 0 ≤ n ∧ n ≤ 100000) (hN : n.toNat = N) (hb : N * componentBytes ty ≤ 536870912) (h1 : kc + 1 ≤ R.cells) (h2 : ks + N ≤ R.slots) (hd : decode cc pc = .ok (.newarray atype, 2))
    (kk : ∀ q : Nat, GN D cy l R cc nL own mc ms w0 Q ((L ++ [(q, .inl (cy t0, a0))]) ++ Y) (kc + 1) (ks + N) (pc + 2) lv (.ref q :: st)) : GN D cy l R cc nL own mc ms w0 Q (L ++ Y) kc ks pc lv (.int (zI n) :: st) := by
  intro p e s m args below meth c H locs ls C hi hz hP hD hS hl
  have ht := C.2.2.2.2.2.2.1
  refine va_newa (D := D) (cl := vwCl) C.1 C.2.1 (ht _ harr) hty C.2.2.2.2.2.2.2.1 hP hD hS (fun q h => Or.inr h) ha (by rw [zI_0, zI_lt ⟨by omega, by omega⟩ ⟨by omega, by omega⟩]; omega) (by rw [zI_clamp hn.1 (by omega)]; exact hN) hb h1 h2 hd (fun q cA H1 hK1 hP1 hD1 hS1 => ?_)
  have e1 : cA = cy t0 := by
    have q1 := (hK1.2 (gT cy).length (cA, ty) (by rw [List.getElem?_append_right (Nat.le_refl _)]; simp)).2
    have q2 := (C.2.2.2.2.2.2.2.1.2 t0 _ ht0).2
    cases ty with
    | object K => exact absurd rfl (hpr K)
    | _ => exact Option.some.inj (q1.symm.trans q2)
  subst e1
  exact kk q p e s m args below meth c H1 locs ls C hi hz (gm_P hP1) (gm_D hD1) hS1 hl
theorem n_newq {K : String} {idx t0 : Nat} {L Y : va_W} {n : Int} {N : Nat} (hcl : Cond.classLink own idx K ∈ gtb) (hov : ∀ s, gZ s → va_AO K s) (ht0 : (gT cy)[t0]? = some (cy t0, .object K)) (hn : 0 ≤ n ∧ n ≤ 100000) (hN : n.toNat = N) (hb : N * 4 ≤ 536870912) (h1 : kc + 1 ≤ R.cells) (h2 : ks + N ≤ R.slots) (hd : decode cc pc = .ok (.anewarray idx, 3))
    (kk : ∀ q : Nat, GN D cy l R cc nL own mc ms w0 Q ((L ++ [(q, .inl (cy t0, N, .inr (.inr (.inr (.inr (fun _ => none))))))]) ++ Y) (kc + 1) (ks + N) (pc + 3) lv (.ref q :: st)) : GN D cy l R cc nL own mc ms w0 Q (L ++ Y) kc ks pc lv (.int (zI n) :: st) := by
  intro p e s m args below meth c H locs ls C hi hz hP hD hS hl
  have ht := C.2.2.2.2.2.2.1
  refine va_newq (D := D) (cl := vwCl) C.1 C.2.1 C.2.2.2.2.2.1 (ht _ hcl) (hov s hz) C.2.2.2.2.2.2.2.1 hP hD hS (fun q h => Or.inr h) (by rw [zI_0, zI_lt ⟨by omega, by omega⟩ ⟨by omega, by omega⟩]; omega) (by rw [zI_clamp hn.1 (by omega)]; exact hN) hb h1 h2 hd (fun q cA H1 hK1 hP1 hD1 hS1 => ?_)
  have e1 : cA = cy t0 := by
    obtain ⟨kA, comp, -, -, -, q1⟩ := (hK1.2 (gT cy).length (cA, .object K) (by rw [List.getElem?_append_right (Nat.le_refl _)]; simp)).2
    obtain ⟨kB, comq, -, -, -, q2⟩ := (C.2.2.2.2.2.2.2.1.2 t0 _ ht0).2
    exact Option.some.inj (q1.symm.trans q2)
  subst e1
  exact kk q p e s m args below meth c H1 locs ls C hi hz (gm_P hP1) (gm_D hD1) hS1 hl
theorem n_aast (q0 t0 qk ci : Nat) {r : vw_C} {a n v : Nat} {vs : List Value} {f : Nat → Option Nat} (ha : w[q0]? = some (a, .inl (cy t0, n, .inr (.inr (.inr (.inr f)))))) (ht0 : (gT cy)[t0]? = some (cy t0, .object r.1)) (hv : w[qk]? = some (v, .inr (ci, vs))) (hc : vwCl[ci]? = some r) {i : Int} (hi0 : 0 ≤ i ∧ i < n) (hn : n ≤ 100000) {w' : va_W} (hw : w.set q0 (a, .inl (cy t0, n, .inr (.inr (.inr (.inr (va_up f i.toNat (some v))))))) = w') (hd : decode cc pc = .ok (.aastore, 1)) (kk : GN D cy l R cc nL own mc ms w0 Q w' kc ks (pc + 1) lv st) : GN D cy l R cc nL own mc ms w0 Q w kc ks pc lv (.ref v :: .int (zI i) :: .ref a :: st) := by
  intro p e s m args below meth c H locs ls C hi hz hP hD hS hl
  refine va_astq (D := D) (cl := vwCl) C.1 C.2.1 C.2.2.2.2.2.2.2.1 hP hD hS q0 t0 qk ci ha ht0 hv hc (zI_in hi0.1 hi0.2 (by omega)) hd (fun H1 locs1 hP1 hD1 hS1 => ?_)
  rw [zI_clamp hi0.1 (by omega), hw] at hP1 hD1
  exact kk p e s m args below meth c H1 locs1 ls C hi hz hP1 hD1 hS1 hl
def LkI (own : String) (idx : Nat) (host : String) (y : MethodName) (bc : ByteArray) (nB : Nat) (n : Nat) : Prop := Cond.methodLinkNest own idx y host ∈ gnt ∧ Cond.instanceMethod y ∈ gtb ∧ Cond.initialized y.cls ∈ gtb ∧ Cond.code y bc nB none ∈ gtb ∧ y.name = "<init>" ∧ y.cls ≠ "java/lang/invoke/MethodHandle" ∧ y.cls ≠ "java/lang/invoke/VarHandle" ∧ (parseMethodDescriptor y.desc).map (fun d => d.parameters.length) = some n
theorem n_call {y : MethodName} {host : String} {bc : ByteArray} {nB n idx mc2 ms2 : Nat} {rm : Room} {As rest : List Value} {b : Nat} {Q' : va_W → Prop} {st0 : List Value} (hL : LkI own idx host y bc nB n) (hM : ConN D cy l y bc nB rm mc2 ms2 (.ref b :: As) w Q') (hrm : rm.cells = mc2 ∧ rm.slots = ms2 ∧ rm.frames + 1 ≤ R.frames ∧ 8 + (nB + 11) + rm.locals ≤ R.locals) (hf : kc + mc2 ≤ R.cells ∧ ks + ms2 ≤ R.slots)
    (hn : As.length = n) (hst : st0 = As.reverse ++ .ref b :: rest) (hcat : (rest.map fun v => v.category).sum ≤ 8) (hd : decode cc pc = .ok (.invokespecial idx, 3)) (kk : ∀ w' : va_W, Q' w' → GN D cy l R cc nL own mc ms w0 Q w' (kc + mc2) (ks + ms2) (pc + 3) lv rest) : GN D cy l R cc nL own mc ms w0 Q w kc ks pc lv st0 := by
  intro p e s m args below meth c H locs ls C hi hz hP hD hS hl
  have C' := C
  obtain ⟨hx, hb, hml, hr, hlk, hown, hts, hK⟩ := C'
  obtain ⟨k1, k2, k3, k4, k5, k6⟩ := hL
  have hr := va_runIN (Ts := lw_tbl.filter goodWord) (As := As) (rest := rest) (R := R) (below := below) (meth := meth) (locs := locs) (cells := kc) (slots := ks) (g := F0 m pc ls st0) ⟨hx, hb, hml, hown, hts⟩ (hM H.size) ⟨va_cnB n hts (lw_goodIn (lw_cons k4)) rfl hrm.1 hrm.2.1 (hK.2 _ k1) (hts _ k3) k6 hrm.2.2, k5, hts _ k2⟩ ⟨fun a U g mk q => by obtain ⟨q0, q1, qP, qK, qD⟩ := q; exact ⟨q0, q1, qP, ⟨gK.same (s := U) (U := U.calling g mk a) rfl qK.1, gZ.moved (u := U) (U := U.calling g mk a) (Vm.Alike.refl U.vm) qK.2⟩, qD⟩, fun U hU hW => ⟨rfl, by rw [hU], by rw [hU]; exact hP, ⟨gK.warm hW hK, gZ.moved hW.alike hz⟩, gD_weaken hD (fun _ _ => trivial)⟩⟩ rfl hn hl.1 hst (lv_room hcat) hd hf (p := p) (l := l) (e := e) (H := H)
  intro T hT X
  obtain ⟨v, st₀, t, T', L, h0, X', hL', e1, e2, ⟨v', w', hv, ⟨hv2, hq⟩, hP', hD', hF⟩, stp⟩ := hr T hT X
  cases hv
  subst hv2
  rw [h0] at hD'
  have hA : ∀ q, va_A w H.size q → va_A w0 s.heap.size q := by
    intro q h
    rcases h with ⟨k, ee, h⟩ | h
    · exact hD.2 k (q, ee) h
    · exact Or.inr (Nat.le_trans hS.1 h)
  have hzz : H.size ≤ T'.heap.size := by rw [e1, ← h0]; exact hF.1
  have hk : ∀ q : Nat, q < H.size → ¬ va_A w H.size q → T'.heap[q]? = H[q]? := by
    intro q h1 h2
    have h3 := hF.2 q (by rw [h0]; exact h1) (by rw [h0]; exact h2)
    rw [e1, h3, h0]
  obtain ⟨t2, a1, b1⟩ := kk w' hq p e s m args below meth c T'.heap (locs ++ L) ls C hi hz (by rw [e1]; exact hP') (gD_weaken hD' hA)
    ⟨Nat.le_trans hS.1 hzz, fun q h1 h2 => by rw [hk q (Nat.lt_of_lt_of_le h1 hS.1) (fun z => h2 (hA q z))]; exact hS.2.1 q h1 h2, fun q hq => by
      rcases List.mem_append.mp hq with h | h
      · exact hS.2.2 q h
      · exact hA _ (hL' q h)⟩ hl T' rfl X'
  exact ⟨t2, stp t2 a1, b1⟩
end GNR
