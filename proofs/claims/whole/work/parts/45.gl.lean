def R_law : String := "PvArrayLaw"
def lw_P (b : Addr) (xs : List Int32) (args : Array Value) (s : State) : Prop := args = #[.ref b] ∧ s.IntsAt b xs ∧ xs.length ≤ 2560 ∧ (Jvm.Cond.and given_1 narrow_1).before args s = true
def lw_Q (_ : Array Value) (s : State) (o : Outcome) (t : State) : Prop := o = .returned (some (.int 1)) ∧ Framed s o t [] 600000 7302250
def lw_Z (below : List Frame) (a : Array Value) (s : State) : State → Prop := fun t => ∃ o, t.status = .running ∧ Ended t below o ∧ lw_Q a s o t
/-- the law's own end, with 1 on the stack, nothing written that was there before, its room as the claim has it -/
theorem lw_ret {p : Program} {l : Launch} {e : Env} {s : State} {m : MethodId} {below : List Frame} {meth : Method} {c : Code} {b : Nat} (hx : p.tables.exec = Jvm.exec) (hb : c.code = code) (hr : meth.sig.returnType = ret) (hlocks : meth.locks = false) {pc : Nat} {H : Heap} {ls : Array Slot} (hdg : decode code pc = .ok (.ireturn, 1)) : W p l e room_1 s m #[Value.ref b] below meth c H [] 600000 7302250 (lw_Z below #[Value.ref b] s) (F0 m pc ls [.int 1]) := by
  intro T hT X
  obtain ⟨fs, hret, hrun, hended, hW, hframe⟩ := X.leave (v := some (.int 1)) (hlocks := hlocks) (fun h => by rw [hr] at h; cases h)
  have hmeth' : T.vm.method? m = some meth := X.method'
  refine ⟨T.setFrames fs, ?_, .returned (some (.int 1)), hrun, hended, rfl, ⟨_, rfl⟩, hW, hframe⟩
  jvm_step X.here [X.here.top, hx, hb, hdg, hmeth', hr, ret, narrow_b1]
  (try refine ⟨rfl, ?_⟩); (try refine ⟨rfl, ?_⟩)
  first | (intro acts; rw [hret _ acts rfl rfl rfl]) | rw [hret _ _ rfl rfl rfl]
  exact Steps.refl _
/-- what holds at the law's entry: the machine, the code, the tables' words (any of lw_tbl by 'hts w (by decide +kernel)'), the script of L ints xs at the cell b, what the Statement gives of the start (any of its parts by flat_of_before) -/
def lw_At (p : Program) (s : State) (m : MethodId) (meth : Method) (c : Code) (b L : Nat) (xs : Nat → Int32) : Prop :=
  p.tables.exec = Jvm.exec ∧ c.code = code ∧ meth.sig.returnType = ret ∧ c.maxLocals = 4 ∧ s.vm.findClass R_law = some m.cls ∧ (∀ w ∈ lw_tbl, w.before #[Value.ref b] s = true) ∧ va_X b L xs s s.heap ∧ b < s.heap.size ∧ meth.locks = false ∧ (Jvm.Cond.and given_1 narrow_1).before #[Value.ref b] s = true
/-! the law's own walk: world, cells, place, locals, stack -/
def GL (D : va_G) (cy : Nat → ClassId) (l : Launch) (b Ln : Nat) (xs : Nat → Int32) (w : va_W) (kc ks pc : Nat) (lv : List (Nat × Value)) (st : List Value) : Prop :=
  ∀ (p : Program) (e : Env) (s : State) (m : MethodId) (below : List Frame) (meth : Method) (c : Code) (H : Heap) (locs : List Loc) (ls : Array Slot),
    lw_At p s m meth c b Ln xs → gK D cy s → gZ s → va_P D vwCl w H → va_D (va_A [] s.heap.size) w → va_S (va_A [] s.heap.size) s.heap H locs → lv_has ls 4 lv →
    W p l e room_1 s m #[Value.ref b] below meth c H locs kc ks (lw_Z below #[Value.ref b] s) (F0 m pc ls st)
section GLR
variable {D : va_G} {cy : Nat → ClassId} {l : Launch} {b Ln : Nat} {xs : Nat → Int32} {w : va_W} {kc ks pc : Nat} {lv lv' : List (Nat × Value)} {st : List Value}
theorem lw_At.gtb {p : Program} {s : State} {m : MethodId} {meth : Method} {c : Code} (C : lw_At p s m meth c b Ln xs) : ∀ x ∈ gtb, x.before #[Value.ref b] s = true := fun x hx => C.2.2.2.2.2.1 x (List.mem_filter.mp hx).1
theorem lw_At.bA {p : Program} {s : State} {m : MethodId} {meth : Method} {c : Code} (C : lw_At p s m meth c b Ln xs) : ¬ va_A [] s.heap.size b := by
  have := C.2.2.2.2.2.2.2.1
  intro h
  rcases h with ⟨k, ee, h⟩ | h
  · cases h
  · omega

theorem l_iconst {n : Int} (hd : decode code pc = .ok (.iconst n, 1)) (k : GL D cy l b Ln xs w kc ks (pc + 1) lv (.int (zI n) :: st)) : GL D cy l b Ln xs w kc ks pc lv st := by
  intro p e s m below meth c H locs ls C hK hz hP hD hS hl
  exact lv_iconst C.1 C.2.1 hd rfl (k p e s m below meth c H locs ls C hK hz hP hD hS hl)
theorem l_bipush {n : Int} (hd : decode code pc = .ok (.bipush n, 2)) (hn : -128 ≤ n ∧ n ≤ 127) (k : GL D cy l b Ln xs w kc ks (pc + 2) lv (.int (zI n) :: st)) : GL D cy l b Ln xs w kc ks pc lv st := by
  intro p e s m below meth c H locs ls C hK hz hP hD hS hl
  exact lv_bipush C.1 C.2.1 hd (Int8.toInt32_ofInt (by show (-128 : Int) ≤ n; omega) (by show n ≤ (127 : Int); omega)) (k p e s m below meth c H locs ls C hK hz hP hD hS hl)
theorem l_iload_n {i : Fin 4} {x : Int32} (hd : decode code pc = .ok (.iload_n i, 1)) (q : Nat) (hv : lv[q]? = some ((i : Nat), .int x)) (k : GL D cy l b Ln xs w kc ks (pc + 1) lv (.int x :: st)) : GL D cy l b Ln xs w kc ks pc lv st := by
  intro p e s m below meth c H locs ls C hK hz hP hD hS hl
  exact lv_iload_n C.1 C.2.1 hd rfl (lv_at hl q hv) (k p e s m below meth c H locs ls C hK hz hP hD hS hl)
theorem l_aload_n {i : Fin 4} {x : Nat} (hd : decode code pc = .ok (.aload_n i, 1)) (q : Nat) (hv : lv[q]? = some ((i : Nat), .ref x)) (k : GL D cy l b Ln xs w kc ks (pc + 1) lv (.ref x :: st)) : GL D cy l b Ln xs w kc ks pc lv st := by
  intro p e s m below meth c H locs ls C hK hz hP hD hS hl
  exact lv_aload_n C.1 C.2.1 hd rfl (lv_at hl q hv) (k p e s m below meth c H locs ls C hK hz hP hD hS hl)
theorem l_istore_n {i : Fin 4} {x : Int32} (hd : decode code pc = .ok (.istore_n i, 1)) (hn : (i : Nat) < 4) (hv : ((i : Nat), Value.int x) :: lv.filter (fun q => !(q.1 == (i : Nat)) && !(q.1 + 1 == (i : Nat) && q.2.category == 2)) = lv') (k : GL D cy l b Ln xs w kc ks (pc + 1) lv' st) : GL D cy l b Ln xs w kc ks pc lv (.int x :: st) := by
  intro p e s m below meth c H locs ls C hK hz hP hD hS hl
  exact lv_istore_n C.1 C.2.1 hd rfl hl hn hv (fun ls' hl' => k p e s m below meth c H locs ls' C hK hz hP hD hS hl')
theorem l_astore_n {i : Fin 4} {x : Nat} (hd : decode code pc = .ok (.astore_n i, 1)) (hn : (i : Nat) < 4) (hv : ((i : Nat), Value.ref x) :: lv.filter (fun q => !(q.1 == (i : Nat)) && !(q.1 + 1 == (i : Nat) && q.2.category == 2)) = lv') (k : GL D cy l b Ln xs w kc ks (pc + 1) lv' st) : GL D cy l b Ln xs w kc ks pc lv (.ref x :: st) := by
  intro p e s m below meth c H locs ls C hK hz hP hD hS hl
  exact lv_astore_n C.1 C.2.1 hd rfl hl hn hv (fun ls' hl' => k p e s m below meth c H locs ls' C hK hz hP hD hS hl')
theorem l_iinc {i : Nat} {n z : Int} (hd : decode code pc = .ok (.iinc i n, 3)) (hn : i < 4) (q : Nat) (hq : lv[q]? = some (i, .int (zI z))) (hv : (i, Value.int (zI (z + n))) :: lv.filter (fun q => !(q.1 == i) && !(q.1 + 1 == i && q.2.category == 2)) = lv') (k : GL D cy l b Ln xs w kc ks (pc + 3) lv' st) : GL D cy l b Ln xs w kc ks pc lv st := by
  intro p e s m below meth c H locs ls C hK hz hP hD hS hl
  exact lv_iinc C.1 C.2.1 hd hl hq (zI_add z n) hn hv (fun ls' hl' => k p e s m below meth c H locs ls' C hK hz hP hD hS hl')
theorem l_sub (q : List Nat) (hv : lv_pick lv q = lv') (k : GL D cy l b Ln xs w kc ks pc lv' st) : GL D cy l b Ln xs w kc ks pc lv st := by
  intro p e s m below meth c H locs ls C hK hz hP hD hS hl
  exact k p e s m below meth c H locs ls C hK hz hP hD hS (lv_sub hl q hv)
theorem l_dup {v : Value} (hd : decode code pc = .ok (.dup, 1)) (hc : v.category = 1) (k : GL D cy l b Ln xs w kc ks (pc + 1) lv (v :: v :: st)) : GL D cy l b Ln xs w kc ks pc lv (v :: st) := by
  intro p e s m below meth c H locs ls C hK hz hP hD hS hl
  exact lv_dup C.1 C.2.1 hd hc (k p e s m below meth c H locs ls C hK hz hP hD hS hl)
theorem l_goto {off : Int} (tgt : Nat) (hd : decode code pc = .ok (.goto off, 3)) (ht : (pc : Int) + off = (tgt : Int)) (k : GL D cy l b Ln xs w kc ks tgt lv st) : GL D cy l b Ln xs w kc ks pc lv st := by
  intro p e s m below meth c H locs ls C hK hz hP hD hS hl
  exact lv_goto C.1 C.2.1 hd ht (k p e s m below meth c H locs ls C hK hz hP hD hS hl)
theorem l_iadd {a c : Int} (hd : decode code pc = .ok (.iadd, 1)) (k : GL D cy l b Ln xs w kc ks (pc + 1) lv (.int (zI (a + c)) :: st)) : GL D cy l b Ln xs w kc ks pc lv (.int (zI c) :: .int (zI a) :: st) := by
  intro p e s m below meth c H locs ls C hK hz hP hD hS hl
  exact lv_iadd C.1 C.2.1 hd (by rw [zI_add]; exact k p e s m below meth c H locs ls C hK hz hP hD hS hl)
theorem l_isub {a c : Int} (hd : decode code pc = .ok (.isub, 1)) (k : GL D cy l b Ln xs w kc ks (pc + 1) lv (.int (zI (a - c)) :: st)) : GL D cy l b Ln xs w kc ks pc lv (.int (zI c) :: .int (zI a) :: st) := by
  intro p e s m below meth c H locs ls C hK hz hP hD hS hl
  exact lv_isub C.1 C.2.1 hd (by rw [zI_sub]; exact k p e s m below meth c H locs ls C hK hz hP hD hS hl)
theorem l_iand {a c : Int32} (hd : decode code pc = .ok (.iand, 1)) (k : GL D cy l b Ln xs w kc ks (pc + 1) lv (.int (a &&& c) :: st)) : GL D cy l b Ln xs w kc ks pc lv (.int c :: .int a :: st) := by
  intro p e s m below meth c H locs ls C hK hz hP hD hS hl
  exact lv_iand C.1 C.2.1 hd (k p e s m below meth c H locs ls C hK hz hP hD hS hl)
theorem l_icmp_gt {a d off : Int} (tgt : Nat) (hd : decode code pc = .ok (.if_icmp .gt off, 3)) (ht : (pc : Int) + off = (tgt : Int)) (ha : -2147483648 ≤ a ∧ a ≤ 2147483647) (hb : -2147483648 ≤ d ∧ d ≤ 2147483647) (kt : d < a → GL D cy l b Ln xs w kc ks tgt lv st) (kf : a ≤ d → GL D cy l b Ln xs w kc ks (pc + 3) lv st) : GL D cy l b Ln xs w kc ks pc lv (.int (zI d) :: .int (zI a) :: st) := by
  intro p e s m below meth c H locs ls C hK hz hP hD hS hl
  exact lv_icmp_gt C.1 C.2.1 hd ht (fun h => kt ((zI_lt hb ha).mp h) p e s m below meth c H locs ls C hK hz hP hD hS hl) (fun h => kf (Int.not_lt.mp (fun q => h ((zI_lt hb ha).mpr q))) p e s m below meth c H locs ls C hK hz hP hD hS hl)
theorem l_same {x : Int32} {off : Int} (tgt : Nat) (hd : decode code pc = .ok (.if_icmp .eq off, 3)) (ht : (pc : Int) + off = (tgt : Int)) (kt : GL D cy l b Ln xs w kc ks tgt lv st) : GL D cy l b Ln xs w kc ks pc lv (.int x :: .int x :: st) := by
  intro p e s m below meth c H locs ls C hK hz hP hD hS hl
  exact lv_icmp_eq C.1 C.2.1 hd ht (fun _ => kt p e s m below meth c H locs ls C hK hz hP hD hS hl) (fun h => absurd rfl h)
theorem l_sameJ {x : Int64} {off : Int} (tgt : Nat) (hd : decode code pc = .ok (.lcmp, 1)) (hd2 : decode code (pc + 1) = .ok (.ifCond .eq off, 3)) (ht : ((pc + 1 : Nat) : Int) + off = (tgt : Int)) (kt : GL D cy l b Ln xs w kc ks tgt lv st) : GL D cy l b Ln xs w kc ks pc lv (.long x :: .long x :: st) := by
  intro p e s m below meth c H locs ls C hK hz hP hD hS hl
  refine W.lcmp C.1 C.2.1 hd ?_
  exact lv_if_eq C.1 C.2.1 hd2 ht (fun _ => kt p e s m below meth c H locs ls C hK hz hP hD hS hl) (fun h => absurd (by simp [lg_cmp]) h)
theorem l_if_eq {x : Int32} {off : Int} (tgt : Nat) (hd : decode code pc = .ok (.ifCond .eq off, 3)) (ht : (pc : Int) + off = (tgt : Int)) (kt : x = 0 → GL D cy l b Ln xs w kc ks tgt lv st) (kf : ¬ x = 0 → GL D cy l b Ln xs w kc ks (pc + 3) lv st) : GL D cy l b Ln xs w kc ks pc lv (.int x :: st) := by
  intro p e s m below meth c H locs ls C hK hz hP hD hS hl
  exact lv_if_eq C.1 C.2.1 hd ht (fun h => kt h p e s m below meth c H locs ls C hK hz hP hD hS hl) (fun h => kf h p e s m below meth c H locs ls C hK hz hP hD hS hl)
theorem l_table {dflt lo hi : Int} {offs : Array Int} {len : Nat} {x : Int32} {off : Int} {tgt : Nat} (hdg : decode code pc = .ok (.tableswitch dflt lo hi offs, len)) (h1 : ¬ x.toInt < lo) (h2 : ¬ hi < x.toInt) (ho : offs[(x.toInt - lo).toNat]? = some off) (ht : (pc : Int) + off = (tgt : Int)) (k : GL D cy l b Ln xs w kc ks tgt lv st) : GL D cy l b Ln xs w kc ks pc lv (.int x :: st) := by
  intro p e s m below meth c H locs ls C hK hz hP hD hS hl
  exact lv_tableIn C.1 C.2.1 hdg h1 h2 ho ht (k p e s m below meth c H locs ls C hK hz hP hD hS hl)
theorem l_sld {i : Int32} (hin : vp_in i Ln) (hd : decode code pc = .ok (.iaload, 1)) (k : GL D cy l b Ln xs w kc ks (pc + 1) lv (.int (xs i.toNatClampNeg) :: st)) : GL D cy l b Ln xs w kc ks pc lv (.int i :: .ref b :: st) := by
  intro p e s m below meth c H locs ls C hK hz hP hD hS hl
  exact va_sld C.1 C.2.1 C.2.2.2.2.2.2.1 C.2.2.2.2.2.2.2.1 C.bA hS hin hd (k p e s m below meth c H locs ls C hK hz hP hD hS hl)
theorem l_slen (hd : decode code pc = .ok (.arraylength, 1)) (k : GL D cy l b Ln xs w kc ks (pc + 1) lv (.int (Int32.ofNat Ln) :: st)) : GL D cy l b Ln xs w kc ks pc lv (.ref b :: st) := by
  intro p e s m below meth c H locs ls C hK hz hP hD hS hl
  exact va_slen C.1 C.2.1 C.2.2.2.2.2.2.1 C.2.2.2.2.2.2.2.1 C.bA hS hd (k p e s m below meth c H locs ls C hK hz hP hD hS hl)
theorem l_ret (hd : decode code pc = .ok (.ireturn, 1))  : GL D cy l b Ln xs w 600000 7302250 pc lv [.int 1] := by
  intro p e s m below meth c H locs ls C hK hz hP hD hS hl
  refine va_forget (fun q hq => ?_) (lw_ret C.1 C.2.1 C.2.2.1 C.2.2.2.2.2.2.2.2.1 hd)
  rcases hS.2.2 q hq with ⟨k, ee, h⟩ | h
  · cases h
  · exact h
theorem l_widen {kc' ks' : Nat} (h1 : kc ≤ kc') (h2 : ks ≤ ks') (k : GL D cy l b Ln xs w kc' ks' pc lv st) : GL D cy l b Ln xs w kc ks pc lv st := by
  intro p e s m below meth c H locs ls C hK hz hP hD hS hl
  exact W.widen h1 h2 (k p e s m below meth c H locs ls C hK hz hP hD hS hl)
theorem l_world {w' : va_W} (h : w = w') (k : GL D cy l b Ln xs w' kc ks pc lv st) : GL D cy l b Ln xs w kc ks pc lv st := by subst h; exact k
theorem l_perm {w' : va_W} (π : Nat → Nat) (h : ∀ k q, w'[k]? = some q → w[π k]? = some q) (hi : ∀ i j, i < w'.length → j < w'.length → π i = π j → i = j) (k : GL D cy l b Ln xs w' kc ks pc lv st) : GL D cy l b Ln xs w kc ks pc lv st := by
  intro p e s m below meth c H locs ls C hK hz hP hD hS hl
  exact k p e s m below meth c H locs ls C hK hz (gP_perm π h hP) (gD_perm π h hi hD) hS hl
theorem l_callV {y : MethodName} {bc : ByteArray} {nB n idx : Nat} {rt : Option FieldType} {rm : Room} {As rest : List Value} {a : Nat} {Q' : Option Value → va_W → Prop} {st0 : List Value} (hL : LkV RL idx y bc nB rt n) (hM : Con D cy l y bc nB rt rm (.ref a :: As) w Q') (hrm : rm.cells = 0 ∧ rm.slots = 0 ∧ rm.frames + 1 ≤ room_1.frames ∧ 8 + (nB + 11) + rm.locals ≤ room_1.locals) (hf : kc + 0 ≤ 600000 ∧ ks + 0 ≤ 7302250) (q0 ci : Nat) {q : vw_C} {fs : List Value} (hc : vwCl[ci]? = some q) (hq : q.1 = y.cls) (he : w[q0]? = some (a, .inr (ci, fs)))
    (hn : As.length = n) (hst : st0 = As.reverse ++ .ref a :: rest) (hcat : (rest.map fun v => v.category).sum ≤ 8) (hd : decode code pc = .ok (.invokevirtual idx, 3)) (kk : ∀ (v : Option Value) (w' : va_W), Q' v w' → GL D cy l b Ln xs w' kc ks (pc + 3) lv (v.toList ++ rest)) : GL D cy l b Ln xs w kc ks pc lv st0 := by
  intro p e s m below meth c H locs ls C hK hz hP hD hS hl
  have hrecv := va_recv hK.1 hP hc he
  rw [hq] at hrecv
  have hts := C.gtb
  have hr := va_runV (Ts := gtb) (As := As) (rest := rest) (R := room_1) (below := below) (meth := meth) (locs := locs) (cells := kc) (slots := ks) (g := F0 m pc ls st0) (p := p) (l := l) (e := e) (H := H) ⟨C.1, C.2.1, C.2.2.2.1, C.2.2.2.2.1, hts⟩ (hM H.size) (cwV n hts (lw_goodIn (by unfold wsV; exact lw_appc (by have h := hL.1; unfold wsV at h; exact h))) rfl hrm.1 hrm.2.1 ⟨rfl, hL.2⟩ hrm.2.2) ⟨g_blind, hrecv, fun U hU hW => g_pre hK hP hD hU hW⟩ rfl hn hl.1 hst (lv_room hcat) hd hf
  intro T hT X
  obtain ⟨v, st₀, t, T', L, h0, X', hL', e1, e2, ⟨v', w', hv, hq, hP', hD', hF⟩, stp⟩ := hr T hT X
  cases hv
  rw [h0] at hD'
  have hA : ∀ q, va_A w H.size q → va_A [] s.heap.size q := by
    intro q h
    rcases h with ⟨k, ee, h⟩ | h
    · exact hD.2 k (q, ee) h
    · exact Or.inr (Nat.le_trans hS.1 h)
  have hzz : H.size ≤ T'.heap.size := by rw [e1, ← h0]; exact hF.1
  have hk : ∀ q : Nat, q < H.size → ¬ va_A w H.size q → T'.heap[q]? = H[q]? := by
    intro q h1 h2
    have h3 := hF.2 q (by rw [h0]; exact h1) (by rw [h0]; exact h2)
    rw [e1, h3, h0]
  obtain ⟨t2, a1, b1⟩ := kk v w' hq p e s m below meth c T'.heap (locs ++ L) ls C hK hz (by rw [e1]; exact hP') (gD_weaken hD' hA)
    ⟨Nat.le_trans hS.1 hzz, fun q h1 h2 => by rw [hk q (Nat.lt_of_lt_of_le h1 hS.1) (fun z => h2 (hA q z))]; exact hS.2.1 q h1 h2, fun q hq => by
      rcases List.mem_append.mp hq with h | h
      · exact hS.2.2 q h
      · exact hA _ (hL' q h)⟩ hl T' rfl X'
  exact ⟨t2, stp t2 a1, b1⟩
theorem l_new {K : String} {T : u_T} {N ci idx : Nat} {L Y : va_W} (hin : ∀ x ∈ u_ws K T N, x ∈ gtb) (ty0 : Nat → FieldType) (hty : ∀ k, k < N → parseFieldDescriptor (T k).2.2.1 = some (ty0 k)) (hcl : Cond.classLink RL idx K ∈ gtb) (hinst : Cond.instantiable K N ∈ gtb) (hini : Cond.initialized K ∈ gtb) (hc : vwCl[ci]? = some (K, T, N)) {fs : List Value} (hfs : ∀ j, j < N → defaultValue (ty0 j) = vp_V fs j) (h1 : kc + 1 ≤ 600000) (h2 : ks + N ≤ 7302250) (hd : decode code pc = .ok (.new idx, 3))
    (kk : ∀ q : Nat, GL D cy l b Ln xs ((L ++ [(q, .inr (ci, fs))]) ++ Y) (kc + 1) (ks + N) (pc + 3) lv (.ref q :: st)) : GL D cy l b Ln xs (L ++ Y) kc ks pc lv st := by
  intro p e s m below meth c H locs ls C hK hz hP hD hS hl
  have ht := C.gtb
  exact va_new (D := D) (cl := vwCl) C.1 C.2.1 ht hin ty0 hty C.2.2.2.2.1 (ht _ hcl) (ht _ hinst) (ht _ hini) hK.1 hP hD hS (fun q h => Or.inr h) hc hfs h1 h2 hd (fun q H1 hP1 hD1 hS1 => kk q p e s m below meth c H1 locs ls C hK hz (gm_P hP1) (gm_D hD1) hS1 hl)
theorem l_init {y : MethodName} {bc : ByteArray} {nB n idx mc2 ms2 : Nat} {rm : Room} {As rest : List Value} {a : Nat} {Q' : va_W → Prop} {st0 : List Value} (k1 : Cond.methodLink RL idx y ∈ gtb) (k2 : Cond.instanceMethod y ∈ gtb) (k3 : Cond.initialized y.cls ∈ gtb) (k4 : Cond.code y bc nB none ∈ gtb) (k5 : y.name = "<init>") (k6 : y.cls ≠ "java/lang/invoke/MethodHandle" ∧ y.cls ≠ "java/lang/invoke/VarHandle" ∧ (parseMethodDescriptor y.desc).map (fun d => d.parameters.length) = some n) (hM : ConN D cy l y bc nB rm mc2 ms2 (.ref a :: As) w Q') (hrm : rm.cells = mc2 ∧ rm.slots = ms2 ∧ rm.frames + 1 ≤ room_1.frames ∧ 8 + (nB + 11) + rm.locals ≤ room_1.locals) (hf : kc + mc2 ≤ 600000 ∧ ks + ms2 ≤ 7302250)
    (hn : As.length = n) (hst : st0 = As.reverse ++ .ref a :: rest) (hcat : (rest.map fun v => v.category).sum ≤ 8) (hd : decode code pc = .ok (.invokespecial idx, 3)) (kk : ∀ w' : va_W, Q' w' → GL D cy l b Ln xs w' (kc + mc2) (ks + ms2) (pc + 3) lv rest) : GL D cy l b Ln xs w kc ks pc lv st0 := by
  intro p e s m below meth c H locs ls C hK hz hP hD hS hl
  have hts := C.gtb
  have hr := va_runI (Ts := gtb) (As := As) (rest := rest) (R := room_1) (below := below) (meth := meth) (locs := locs) (cells := kc) (slots := ks) (g := F0 m pc ls st0) (p := p) (l := l) (e := e) (H := H) ⟨C.1, C.2.1, C.2.2.2.1, C.2.2.2.2.1, hts⟩ (hM H.size) (cwI n hts (lw_goodIn (lw_cons k4)) rfl hrm.1 hrm.2.1 (hts _ k3) (hts _ k1) (hts _ k2) k5 k6 hrm.2.2) ⟨fun a U g mk q => by obtain ⟨q0, q1, qP, qK, qD⟩ := q; exact ⟨q0, q1, qP, ⟨gK.same (s := U) (U := U.calling g mk a) rfl qK.1, gZ.moved (u := U) (U := U.calling g mk a) (Vm.Alike.refl U.vm) qK.2⟩, qD⟩, fun U hU hW => ⟨rfl, by rw [hU], by rw [hU]; exact hP, ⟨gK.warm hW hK, gZ.moved hW.alike hz⟩, gD_weaken hD (fun _ _ => trivial)⟩⟩ rfl hn hl.1 hst (lv_room hcat) hd hf
  intro T hT X
  obtain ⟨v, st₀, t, T', L, h0, X', hL', e1, e2, ⟨v', w', hv, ⟨hv2, hq⟩, hP', hD', hF⟩, stp⟩ := hr T hT X
  cases hv
  subst hv2
  rw [h0] at hD'
  have hA : ∀ q, va_A w H.size q → va_A [] s.heap.size q := by
    intro q h
    rcases h with ⟨k, ee, h⟩ | h
    · exact hD.2 k (q, ee) h
    · exact Or.inr (Nat.le_trans hS.1 h)
  have hzz : H.size ≤ T'.heap.size := by rw [e1, ← h0]; exact hF.1
  have hk : ∀ q : Nat, q < H.size → ¬ va_A w H.size q → T'.heap[q]? = H[q]? := by
    intro q h1 h2
    have h3 := hF.2 q (by rw [h0]; exact h1) (by rw [h0]; exact h2)
    rw [e1, h3, h0]
  obtain ⟨t2, a1, b1⟩ := kk w' hq p e s m below meth c T'.heap (locs ++ L) ls C hK hz (by rw [e1]; exact hP') (gD_weaken hD' hA)
    ⟨Nat.le_trans hS.1 hzz, fun q h1 h2 => by rw [hk q (Nat.lt_of_lt_of_le h1 hS.1) (fun z => h2 (hA q z))]; exact hS.2.1 q h1 h2, fun q hq => by
      rcases List.mem_append.mp hq with h | h
      · exact hS.2.2 q h
      · exact hA _ (hL' q h)⟩ hl T' rfl X'
  exact ⟨t2, stp t2 a1, b1⟩
end GLR
