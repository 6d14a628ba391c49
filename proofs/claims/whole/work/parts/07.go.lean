/-! a method's walk with its whole machine tucked away: world, place, locals, stack -/
def gT (cy : Nat → ClassId) : List (ClassId × FieldType) := [(cy 0, .int), (cy 1, .long), (cy 2, .boolean), (cy 3, .object "PvArray$PvModule"), (cy 4, .object "PvArray$PvString")]
def gtb : List Cond := lw_tbl.filter goodWord
def gisN : Cond → Bool
  | .fieldLinkNest .. => true
  | .methodLinkNest .. => true
  | .declares _ => true
  | _ => false
def gnt : List Cond := lw_tbl.filter gisN
def gK (D : va_G) (cy : Nat → ClassId) (U : State) : Prop := va_K D vwCl (gT cy) U ∧ ∀ x ∈ gnt, va_Nw x U
theorem gisN_warm {x : Cond} (hx : gisN x = true) {s U : State} (hW : s.WarmedH U.vm) (h : va_Nw x s) : va_Nw x U := by
  cases x with
  | fieldLinkNest a i b n d hh => exact va_Nw.warmF hW h
  | methodLinkNest a i y hh => exact va_Nw.warmM hW h
  | declares y => exact va_Nw.warmD hW h
  | _ => cases hx
theorem gisN_same {x : Cond} (hx : gisN x = true) {s U : State} (hW : s.vm = U.vm) (h : va_Nw x s) : va_Nw x U := by
  cases x with
  | fieldLinkNest a i b n d hh => exact va_Nw.same rfl hW h
  | methodLinkNest a i y hh => exact va_Nw.same rfl hW h
  | declares y => exact va_Nw.same rfl hW h
  | _ => cases hx
theorem gK.warm {D : va_G} {cy : Nat → ClassId} {s U : State} (hW : s.WarmedH U.vm) (h : gK D cy s) : gK D cy U := ⟨va_K.moved hW.alike h.1, fun x hx => gisN_warm (List.mem_filter.mp hx).2 hW (h.2 x hx)⟩
theorem gK.same {D : va_G} {cy : Nat → ClassId} {s U : State} (hW : s.vm = U.vm) (h : gK D cy s) : gK D cy U := ⟨va_K.moved (by rw [hW]; exact Vm.Alike.refl U.vm) h.1, fun x hx => gisN_same (List.mem_filter.mp hx).2 hW (h.2 x hx)⟩
def gQ (D : va_G) (w0 : va_W) (Q : Option Value → va_W → Prop) : Array Value → State → Outcome → State → Prop := fun _ st oc t => ∃ (v : Option Value) (w' : va_W), oc = .returned v ∧ Q v w' ∧ va_P D vwCl w' t.heap ∧ va_D (va_A w0 st.heap.size) w' ∧ va_F (va_A w0 st.heap.size) st t
def gC (D : va_G) (cy : Nat → ClassId) (cc : ByteArray) (nL : Nat) (own : String) (ret : Option FieldType) (p : Program) (s : State) (m : MethodId) (args : Array Value) (meth : Method) (c : Code) : Prop :=
  p.tables.exec = Jvm.exec ∧ c.code = cc ∧ c.maxLocals = nL ∧ meth.sig.returnType = ret ∧ meth.locks = false ∧ s.vm.findClass own = some m.cls ∧ (∀ x ∈ gtb, x.before args s = true) ∧ gK D cy s
def GO (D : va_G) (cy : Nat → ClassId) (l : Launch) (R : Room) (cc : ByteArray) (nL : Nat) (own : String) (ret : Option FieldType) (w0 : va_W) (Q : Option Value → va_W → Prop) (w : va_W) (pc : Nat) (lv : List (Nat × Value)) (st : List Value) : Prop :=
  ∀ (p : Program) (e : Env) (s : State) (m : MethodId) (args : Array Value) (below : List Frame) (meth : Method) (c : Code) (H : Heap) (locs : List Loc) (ls : Array Slot),
    gC D cy cc nL own ret p s m args meth c → va_P D vwCl w H → va_D (va_A w0 s.heap.size) w → va_S (va_A w0 s.heap.size) s.heap H locs → lv_has ls nL lv →
    W p l e R s m args below meth c H locs 0 0 (MQ below (gQ D w0 Q) args s 0 0 (va_A w0 s.heap.size)) (F0 m pc ls st)
/-- a method's contract: from the world w0, with these arguments, it returns v and the world w' with Q v w' -/
def Con (D : va_G) (cy : Nat → ClassId) (l : Launch) (y : MethodName) (cc : ByteArray) (nL : Nat) (ret : Option FieldType) (rm : Room) (av : List Value) (w0 : va_W) (Q : Option Value → va_W → Prop) : Prop :=
  ∀ sz : Nat, Met l y (.code y cc nL ret :: gtb) rm (va_Pc av (fun U => U.heap.size = sz ∧ va_P D vwCl w0 U.heap ∧ gK D cy U ∧ va_D (fun _ => True) w0)) (gQ D w0 Q) 0 0 (va_A w0 sz)
theorem gD_weaken {A B : Nat → Prop} {w : va_W} (h : va_D A w) (hAB : ∀ q, A q → B q) : va_D B w := ⟨h.1, fun k q hk => hAB _ (h.2 k q hk)⟩
theorem Con.of {D : va_G} {cy : Nat → ClassId} {l : Launch} {y : MethodName} {cc : ByteArray} {nL : Nat} {ret : Option FieldType} {rm : Room} {av : List Value} {w0 : va_W} {Q : Option Value → va_W → Prop} {lv : List (Nat × Value)}
    (hy : plainName y.cls = true) (hn : (lg_sl av).length ≤ nL) (hlv : lv_args 0 av = lv) (k : GO D cy l rm cc nL y.cls ret w0 Q w0 0 lv []) : Con D cy l y cc nL ret rm av w0 Q := by
  intro sz
  refine Met.ofW (cc := cc) (maxL := nL) (ret := ret) hy rfl ?_
  intro p e s m args below meth c s₁ B hml hv
  obtain ⟨rfl, hsz, hP, hK, hD0⟩ := hv
  subst hsz
  have hts := atoms_spec (ws := .code y cc nL ret :: gtb) B.pre
  have hl := lv_entry av (n := nL) hn
  rw [lg_entry_eq]
  rw [hlv] at hl
  exact k p e s m _ below meth c s.heap [] _ ⟨B.exec, B.bytes, hml, B.returns, B.notSynchronized, findClass_of_methodNamed B.named, fun x hx => hts x (List.mem_cons_of_mem _ hx), hK⟩ hP hD0.self va_S.rf hl
section GOR
variable {D : va_G} {cy : Nat → ClassId} {l : Launch} {R : Room} {cc : ByteArray} {nL : Nat} {own : String} {ret : Option FieldType} {w0 : va_W} {Q : Option Value → va_W → Prop} {w : va_W} {pc : Nat} {lv lv' : List (Nat × Value)} {st : List Value}
theorem g_iconst {n : Int} (hd : decode cc pc = .ok (.iconst n, 1)) (k : GO D cy l R cc nL own ret w0 Q w (pc + 1) lv (.int (zI n) :: st)) : GO D cy l R cc nL own ret w0 Q w pc lv st := by
  intro p e s m args below meth c H locs ls C hP hD hS hl
  exact lv_iconst C.1 C.2.1 hd rfl (k p e s m args below meth c H locs ls C hP hD hS hl)
theorem g_bipush {n : Int} (hd : decode cc pc = .ok (.bipush n, 2)) (hn : -128 ≤ n ∧ n ≤ 127) (k : GO D cy l R cc nL own ret w0 Q w (pc + 2) lv (.int (zI n) :: st)) : GO D cy l R cc nL own ret w0 Q w pc lv st := by
  intro p e s m args below meth c H locs ls C hP hD hS hl
  exact lv_bipush C.1 C.2.1 hd (Int8.toInt32_ofInt (by show (-128 : Int) ≤ n; omega) (by show n ≤ (127 : Int); omega)) (k p e s m args below meth c H locs ls C hP hD hS hl)
theorem g_sipush {n : Int} (hd : decode cc pc = .ok (.sipush n, 3)) (hn : -32768 ≤ n ∧ n ≤ 32767) (k : GO D cy l R cc nL own ret w0 Q w (pc + 3) lv (.int (zI n) :: st)) : GO D cy l R cc nL own ret w0 Q w pc lv st := by
  intro p e s m args below meth c H locs ls C hP hD hS hl
  exact lv_sipush C.1 C.2.1 hd (Int16.toInt32_ofInt (by show (-32768 : Int) ≤ n; omega) (by show n ≤ (32767 : Int); omega)) (k p e s m args below meth c H locs ls C hP hD hS hl)
theorem g_lconst {n : Fin 2} {z : Int} (hd : decode cc pc = .ok (.lconst n, 1)) (hz : z = ((n : Nat) : Int)) (k : GO D cy l R cc nL own ret w0 Q w (pc + 1) lv (.long (zJ z) :: st)) : GO D cy l R cc nL own ret w0 Q w pc lv st := by
  intro p e s m args below meth c H locs ls C hP hD hS hl
  subst hz
  exact lv_lconst C.1 C.2.1 hd (by simp [zJ, Int64.ofInt_eq_ofNat]) (k p e s m args below meth c H locs ls C hP hD hS hl)
theorem g_iload_n {i : Fin 4} {x : Int32} (hd : decode cc pc = .ok (.iload_n i, 1)) (q : Nat) (hv : lv[q]? = some ((i : Nat), .int x)) (k : GO D cy l R cc nL own ret w0 Q w (pc + 1) lv (.int x :: st)) : GO D cy l R cc nL own ret w0 Q w pc lv st := by
  intro p e s m args below meth c H locs ls C hP hD hS hl
  exact lv_iload_n C.1 C.2.1 hd rfl (lv_at hl q hv) (k p e s m args below meth c H locs ls C hP hD hS hl)
theorem g_iload {i : Nat} {x : Int32} (hd : decode cc pc = .ok (.iload i, 2)) (q : Nat) (hv : lv[q]? = some (i, .int x)) (k : GO D cy l R cc nL own ret w0 Q w (pc + 2) lv (.int x :: st)) : GO D cy l R cc nL own ret w0 Q w pc lv st := by
  intro p e s m args below meth c H locs ls C hP hD hS hl
  exact lv_iload C.1 C.2.1 hd (lv_at hl q hv) (k p e s m args below meth c H locs ls C hP hD hS hl)
theorem g_lload_n {i : Fin 4} {x : Int64} (hd : decode cc pc = .ok (.lload_n i, 1)) (q : Nat) (hv : lv[q]? = some ((i : Nat), .long x)) (k : GO D cy l R cc nL own ret w0 Q w (pc + 1) lv (.long x :: st)) : GO D cy l R cc nL own ret w0 Q w pc lv st := by
  intro p e s m args below meth c H locs ls C hP hD hS hl
  exact lv_lload_n C.1 C.2.1 hd rfl (lv_at hl q hv) (k p e s m args below meth c H locs ls C hP hD hS hl)
theorem g_lload {i : Nat} {x : Int64} (hd : decode cc pc = .ok (.lload i, 2)) (q : Nat) (hv : lv[q]? = some (i, .long x)) (k : GO D cy l R cc nL own ret w0 Q w (pc + 2) lv (.long x :: st)) : GO D cy l R cc nL own ret w0 Q w pc lv st := by
  intro p e s m args below meth c H locs ls C hP hD hS hl
  exact lv_lload C.1 C.2.1 hd (lv_at hl q hv) (k p e s m args below meth c H locs ls C hP hD hS hl)
theorem g_aload_n {i : Fin 4} {x : Nat} (hd : decode cc pc = .ok (.aload_n i, 1)) (q : Nat) (hv : lv[q]? = some ((i : Nat), .ref x)) (k : GO D cy l R cc nL own ret w0 Q w (pc + 1) lv (.ref x :: st)) : GO D cy l R cc nL own ret w0 Q w pc lv st := by
  intro p e s m args below meth c H locs ls C hP hD hS hl
  exact lv_aload_n C.1 C.2.1 hd rfl (lv_at hl q hv) (k p e s m args below meth c H locs ls C hP hD hS hl)
theorem g_aload {i : Nat} {x : Nat} (hd : decode cc pc = .ok (.aload i, 2)) (q : Nat) (hv : lv[q]? = some (i, .ref x)) (k : GO D cy l R cc nL own ret w0 Q w (pc + 2) lv (.ref x :: st)) : GO D cy l R cc nL own ret w0 Q w pc lv st := by
  intro p e s m args below meth c H locs ls C hP hD hS hl
  exact lv_aload C.1 C.2.1 hd (lv_at hl q hv) (k p e s m args below meth c H locs ls C hP hD hS hl)
theorem g_istore_n {i : Fin 4} {x : Int32} (hd : decode cc pc = .ok (.istore_n i, 1)) (hn : (i : Nat) < nL) (hv : ((i : Nat), Value.int x) :: lv.filter (fun q => !(q.1 == (i : Nat)) && !(q.1 + 1 == (i : Nat) && q.2.category == 2)) = lv') (k : GO D cy l R cc nL own ret w0 Q w (pc + 1) lv' st) : GO D cy l R cc nL own ret w0 Q w pc lv (.int x :: st) := by
  intro p e s m args below meth c H locs ls C hP hD hS hl
  exact lv_istore_n C.1 C.2.1 hd rfl hl hn hv (fun ls' hl' => k p e s m args below meth c H locs ls' C hP hD hS hl')
theorem g_istore {i : Nat} {x : Int32} (hd : decode cc pc = .ok (.istore i, 2)) (hn : i < nL) (hv : (i, Value.int x) :: lv.filter (fun q => !(q.1 == i) && !(q.1 + 1 == i && q.2.category == 2)) = lv') (k : GO D cy l R cc nL own ret w0 Q w (pc + 2) lv' st) : GO D cy l R cc nL own ret w0 Q w pc lv (.int x :: st) := by
  intro p e s m args below meth c H locs ls C hP hD hS hl
  exact lv_istore C.1 C.2.1 hd hl hn hv (fun ls' hl' => k p e s m args below meth c H locs ls' C hP hD hS hl')
theorem g_lstore_n {i : Fin 4} {x : Int64} (hd : decode cc pc = .ok (.lstore_n i, 1)) (hn : (i : Nat) + 1 < nL) (hv : ((i : Nat), Value.long x) :: lv.filter (fun q => !(q.1 == (i : Nat)) && (!(q.1 == (i : Nat) + 1) && !(q.1 + 1 == (i : Nat) && q.2.category == 2))) = lv') (k : GO D cy l R cc nL own ret w0 Q w (pc + 1) lv' st) : GO D cy l R cc nL own ret w0 Q w pc lv (.long x :: st) := by
  intro p e s m args below meth c H locs ls C hP hD hS hl
  exact lv_lstore_n C.1 C.2.1 hd rfl hl hn hv (fun ls' hl' => k p e s m args below meth c H locs ls' C hP hD hS hl')
theorem g_lstore {i : Nat} {x : Int64} (hd : decode cc pc = .ok (.lstore i, 2)) (hn : i + 1 < nL) (hv : (i, Value.long x) :: lv.filter (fun q => !(q.1 == i) && (!(q.1 == i + 1) && !(q.1 + 1 == i && q.2.category == 2))) = lv') (k : GO D cy l R cc nL own ret w0 Q w (pc + 2) lv' st) : GO D cy l R cc nL own ret w0 Q w pc lv (.long x :: st) := by
  intro p e s m args below meth c H locs ls C hP hD hS hl
  exact lv_lstore C.1 C.2.1 hd hl hn hv (fun ls' hl' => k p e s m args below meth c H locs ls' C hP hD hS hl')
theorem g_astore_n {i : Fin 4} {x : Nat} (hd : decode cc pc = .ok (.astore_n i, 1)) (hn : (i : Nat) < nL) (hv : ((i : Nat), Value.ref x) :: lv.filter (fun q => !(q.1 == (i : Nat)) && !(q.1 + 1 == (i : Nat) && q.2.category == 2)) = lv') (k : GO D cy l R cc nL own ret w0 Q w (pc + 1) lv' st) : GO D cy l R cc nL own ret w0 Q w pc lv (.ref x :: st) := by
  intro p e s m args below meth c H locs ls C hP hD hS hl
  exact lv_astore_n C.1 C.2.1 hd rfl hl hn hv (fun ls' hl' => k p e s m args below meth c H locs ls' C hP hD hS hl')
theorem g_astore {i : Nat} {x : Nat} (hd : decode cc pc = .ok (.astore i, 2)) (hn : i < nL) (hv : (i, Value.ref x) :: lv.filter (fun q => !(q.1 == i) && !(q.1 + 1 == i && q.2.category == 2)) = lv') (k : GO D cy l R cc nL own ret w0 Q w (pc + 2) lv' st) : GO D cy l R cc nL own ret w0 Q w pc lv (.ref x :: st) := by
  intro p e s m args below meth c H locs ls C hP hD hS hl
  exact lv_astore C.1 C.2.1 hd hl hn hv (fun ls' hl' => k p e s m args below meth c H locs ls' C hP hD hS hl')
theorem g_iinc {i : Nat} {n z : Int} (hd : decode cc pc = .ok (.iinc i n, 3)) (hn : i < nL) (q : Nat) (hq : lv[q]? = some (i, .int (zI z))) (hv : (i, Value.int (zI (z + n))) :: lv.filter (fun q => !(q.1 == i) && !(q.1 + 1 == i && q.2.category == 2)) = lv') (k : GO D cy l R cc nL own ret w0 Q w (pc + 3) lv' st) : GO D cy l R cc nL own ret w0 Q w pc lv st := by
  intro p e s m args below meth c H locs ls C hP hD hS hl
  exact lv_iinc C.1 C.2.1 hd hl hq (zI_add z n) hn hv (fun ls' hl' => k p e s m args below meth c H locs ls' C hP hD hS hl')
/-- fewer locals, or in another order -/
theorem g_sub (ks : List Nat) (hv : lv_pick lv ks = lv') (k : GO D cy l R cc nL own ret w0 Q w pc lv' st) : GO D cy l R cc nL own ret w0 Q w pc lv st := by
  intro p e s m args below meth c H locs ls C hP hD hS hl
  exact k p e s m args below meth c H locs ls C hP hD hS (lv_sub hl ks hv)
theorem g_iadd {a b : Int} (hd : decode cc pc = .ok (.iadd, 1)) (k : GO D cy l R cc nL own ret w0 Q w (pc + 1) lv (.int (zI (a + b)) :: st)) : GO D cy l R cc nL own ret w0 Q w pc lv (.int (zI b) :: .int (zI a) :: st) := by
  intro p e s m args below meth c H locs ls C hP hD hS hl
  exact lv_iadd C.1 C.2.1 hd (by rw [zI_add]; exact k p e s m args below meth c H locs ls C hP hD hS hl)
theorem g_isub {a b : Int} (hd : decode cc pc = .ok (.isub, 1)) (k : GO D cy l R cc nL own ret w0 Q w (pc + 1) lv (.int (zI (a - b)) :: st)) : GO D cy l R cc nL own ret w0 Q w pc lv (.int (zI b) :: .int (zI a) :: st) := by
  intro p e s m args below meth c H locs ls C hP hD hS hl
  exact lv_isub C.1 C.2.1 hd (by rw [zI_sub]; exact k p e s m args below meth c H locs ls C hP hD hS hl)
theorem g_imul {a b : Int} (hd : decode cc pc = .ok (.imul, 1)) (k : GO D cy l R cc nL own ret w0 Q w (pc + 1) lv (.int (zI (a * b)) :: st)) : GO D cy l R cc nL own ret w0 Q w pc lv (.int (zI b) :: .int (zI a) :: st) := by
  intro p e s m args below meth c H locs ls C hP hD hS hl
  exact lv_imul C.1 C.2.1 hd (by rw [zI_mul]; exact k p e s m args below meth c H locs ls C hP hD hS hl)
theorem g_idiv {a b : Int} (hd : decode cc pc = .ok (.idiv, 1)) (ha : 0 ≤ a ∧ a ≤ 2147483647) (hb : 0 < b ∧ b ≤ 2147483647) (k : GO D cy l R cc nL own ret w0 Q w (pc + 1) lv (.int (zI (a / b)) :: st)) : GO D cy l R cc nL own ret w0 Q w pc lv (.int (zI b) :: .int (zI a) :: st) := by
  intro p e s m args below meth c H locs ls C hP hD hS hl
  exact lv_idiv C.1 C.2.1 hd (zI_ne0 ⟨by omega, by omega⟩ (by omega)) (by rw [zI_div ha hb]; exact k p e s m args below meth c H locs ls C hP hD hS hl)
theorem g_ineg {a : Int} (hd : decode cc pc = .ok (.ineg, 1)) (k : GO D cy l R cc nL own ret w0 Q w (pc + 1) lv (.int (zI (-a)) :: st)) : GO D cy l R cc nL own ret w0 Q w pc lv (.int (zI a) :: st) := by
  intro p e s m args below meth c H locs ls C hP hD hS hl
  exact lv_ineg C.1 C.2.1 hd (by rw [zI_neg]; exact k p e s m args below meth c H locs ls C hP hD hS hl)
theorem g_ior {a b : Int32} (hd : decode cc pc = .ok (.ior, 1)) (k : GO D cy l R cc nL own ret w0 Q w (pc + 1) lv (.int (a ||| b) :: st)) : GO D cy l R cc nL own ret w0 Q w pc lv (.int b :: .int a :: st) := by
  intro p e s m args below meth c H locs ls C hP hD hS hl
  exact lv_ior C.1 C.2.1 hd (k p e s m args below meth c H locs ls C hP hD hS hl)
theorem g_ladd {a b : Int} (hd : decode cc pc = .ok (.ladd, 1)) (k : GO D cy l R cc nL own ret w0 Q w (pc + 1) lv (.long (zJ (a + b)) :: st)) : GO D cy l R cc nL own ret w0 Q w pc lv (.long (zJ b) :: .long (zJ a) :: st) := by
  intro p e s m args below meth c H locs ls C hP hD hS hl
  exact lv_ladd C.1 C.2.1 hd (by rw [zJ_add]; exact k p e s m args below meth c H locs ls C hP hD hS hl)
theorem g_lsub {a b : Int} (hd : decode cc pc = .ok (.lsub, 1)) (k : GO D cy l R cc nL own ret w0 Q w (pc + 1) lv (.long (zJ (a - b)) :: st)) : GO D cy l R cc nL own ret w0 Q w pc lv (.long (zJ b) :: .long (zJ a) :: st) := by
  intro p e s m args below meth c H locs ls C hP hD hS hl
  exact lv_lsub C.1 C.2.1 hd (by rw [zJ_sub]; exact k p e s m args below meth c H locs ls C hP hD hS hl)
theorem g_lmul {a b : Int} (hd : decode cc pc = .ok (.lmul, 1)) (k : GO D cy l R cc nL own ret w0 Q w (pc + 1) lv (.long (zJ (a * b)) :: st)) : GO D cy l R cc nL own ret w0 Q w pc lv (.long (zJ b) :: .long (zJ a) :: st) := by
  intro p e s m args below meth c H locs ls C hP hD hS hl
  exact lv_lmul C.1 C.2.1 hd (by rw [zJ_mul]; exact k p e s m args below meth c H locs ls C hP hD hS hl)
theorem g_ldiv {a b : Int} (hd : decode cc pc = .ok (.ldiv, 1)) (ha : 0 ≤ a ∧ a ≤ 9223372036854775807) (hb : 0 < b ∧ b ≤ 9223372036854775807) (k : GO D cy l R cc nL own ret w0 Q w (pc + 1) lv (.long (zJ (a / b)) :: st)) : GO D cy l R cc nL own ret w0 Q w pc lv (.long (zJ b) :: .long (zJ a) :: st) := by
  intro p e s m args below meth c H locs ls C hP hD hS hl
  exact lv_ldiv C.1 C.2.1 hd (zJ_ne0 ⟨by omega, by omega⟩ (by omega)) (by rw [zJ_div ha hb]; exact k p e s m args below meth c H locs ls C hP hD hS hl)
theorem g_i2l {a : Int} (hd : decode cc pc = .ok (.i2l, 1)) (ha : -2147483648 ≤ a ∧ a ≤ 2147483647) (k : GO D cy l R cc nL own ret w0 Q w (pc + 1) lv (.long (zJ a) :: st)) : GO D cy l R cc nL own ret w0 Q w pc lv (.int (zI a) :: st) := by
  intro p e s m args below meth c H locs ls C hP hD hS hl
  exact lv_i2l C.1 C.2.1 hd (zI_i2l ha.1 ha.2) (k p e s m args below meth c H locs ls C hP hD hS hl)
theorem g_l2i {a : Int} (hd : decode cc pc = .ok (.l2i, 1)) (k : GO D cy l R cc nL own ret w0 Q w (pc + 1) lv (.int (zI a) :: st)) : GO D cy l R cc nL own ret w0 Q w pc lv (.long (zJ a) :: st) := by
  intro p e s m args below meth c H locs ls C hP hD hS hl
  exact lv_l2i C.1 C.2.1 hd (zJ_l2i a) (k p e s m args below meth c H locs ls C hP hD hS hl)
theorem g_dup {v : Value} (hd : decode cc pc = .ok (.dup, 1)) (hc : v.category = 1) (k : GO D cy l R cc nL own ret w0 Q w (pc + 1) lv (v :: v :: st)) : GO D cy l R cc nL own ret w0 Q w pc lv (v :: st) := by
  intro p e s m args below meth c H locs ls C hP hD hS hl
  exact lv_dup C.1 C.2.1 hd hc (k p e s m args below meth c H locs ls C hP hD hS hl)
theorem g_pop {v : Value} (hd : decode cc pc = .ok (.pop, 1)) (hc : v.category = 1) (k : GO D cy l R cc nL own ret w0 Q w (pc + 1) lv st) : GO D cy l R cc nL own ret w0 Q w pc lv (v :: st) := by
  intro p e s m args below meth c H locs ls C hP hD hS hl
  exact lv_pop C.1 C.2.1 hd hc (k p e s m args below meth c H locs ls C hP hD hS hl)
theorem g_dup2 {v u : Value} (hd : decode cc pc = .ok (.dup2, 1)) (hc : v.category = 1) (hc2 : u.category = 1) (k : GO D cy l R cc nL own ret w0 Q w (pc + 1) lv (v :: u :: v :: u :: st)) : GO D cy l R cc nL own ret w0 Q w pc lv (v :: u :: st) := by
  intro p e s m args below meth c H locs ls C hP hD hS hl
  exact lv_dup2_11 C.1 C.2.1 hd hc hc2 (k p e s m args below meth c H locs ls C hP hD hS hl)
theorem g_goto {off : Int} (tgt : Nat) (hd : decode cc pc = .ok (.goto off, 3)) (ht : (pc : Int) + off = (tgt : Int)) (k : GO D cy l R cc nL own ret w0 Q w tgt lv st) : GO D cy l R cc nL own ret w0 Q w pc lv st := by
  intro p e s m args below meth c H locs ls C hP hD hS hl
  exact lv_goto C.1 C.2.1 hd ht (k p e s m args below meth c H locs ls C hP hD hS hl)
theorem g_lcmp {a b : Int} (hd : decode cc pc = .ok (.lcmp, 1)) (ha : -9223372036854775808 ≤ a ∧ a ≤ 9223372036854775807) (hb : -9223372036854775808 ≤ b ∧ b ≤ 9223372036854775807) (k : GO D cy l R cc nL own ret w0 Q w (pc + 1) lv (.int (zI (if a < b then -1 else if a = b then 0 else 1)) :: st)) : GO D cy l R cc nL own ret w0 Q w pc lv (.long (zJ b) :: .long (zJ a) :: st) := by
  intro p e s m args below meth c H locs ls C hP hD hS hl
  refine W.lcmp C.1 C.2.1 hd ?_
  have e1 : lg_cmp (zJ a) (zJ b) = zI (if a < b then -1 else if a = b then 0 else 1) := by
    unfold lg_cmp
    simp only [zJ_lt ha hb, zJ_lt hb ha, zJ_inj ha hb, zJ_inj hb ha]
    by_cases h1 : a < b
    · have h2 : ¬ b < a := by omega
      have h3 : ¬ a = b := by omega
      simp [h1, h2, h3]; rfl
    · by_cases h3 : a = b
      · simp [h3]; rfl
      · have h2 : b < a := by omega
        simp [h1, h2, h3]; rfl
  rw [e1]
  exact k p e s m args below meth c H locs ls C hP hD hS hl
end GOR
