/-! the class's own constructor -/
def V (n : Nat) (c : Nat → Nat × va_E) : va_W := (List.range n).map c
theorem V_len {n : Nat} {c : Nat → Nat × va_E} : (V n c).length = n := by simp [V]
theorem V_at {n : Nat} {c : Nat → Nat × va_E} {Y : va_W} {k : Nat} {e : Nat × va_E} (h : k < n) (he : c k = e) : (V n c ++ Y)[k]? = some e := by
  rw [List.getElem?_append_left (by rw [V_len]; exact h)]
  simp [V, h, he]
theorem V_at2 {n : Nat} {c : Nat → Nat × va_E} {R Y : va_W} {k : Nat} {e : Nat × va_E} (h : k < n) (he : c k = e) : ((V n c ++ R) ++ Y)[k]? = some e := by
  rw [List.append_assoc]
  exact V_at h he
theorem V_set {n : Nat} {c : Nat → Nat × va_E} {Y : va_W} {k : Nat} {e : Nat × va_E} (h : k < n) : (V n c ++ Y).set k e = V n (va_up c k e) ++ Y := by
  rw [List.set_append_left _ _ (by rw [V_len]; exact h)]
  congr 1
  apply List.ext_getElem?
  intro j
  rw [List.getElem?_set]
  by_cases hj : k = j
  · subst hj
    simp [V, h, va_up]
  · rw [if_neg hj]
    by_cases hn : j < n
    · simp [V, hn, va_up]
      exact fun q => absurd q.symm hj
    · simp [V, hn]
theorem V_new {n : Nat} {c : Nat → Nat × va_E} {Y : va_W} {e : Nat × va_E} : (V n c ++ [e]) ++ Y = V (n + 1) (va_up c n e) ++ Y := by
  congr 1
  apply List.ext_getElem?
  intro j
  rcases Nat.lt_trichotomy j n with h | h | h
  · rw [List.getElem?_append_left (by rw [V_len]; exact h)]
    simp [V, h, Nat.lt_succ_of_lt h, va_up, Nat.ne_of_lt h]
  · subst h
    rw [List.getElem?_append_right (by rw [V_len]; exact Nat.le_refl _), V_len]
    simp [V, va_up]
  · rw [List.getElem?_append_right (by rw [V_len]; omega), V_len]
    have h1 : ¬ j < n + 1 := by omega
    have h2 : j - n ≠ 0 := by omega
    simp [V, h1, h2]
theorem n_cnt {D : va_G} {cy : Nat → ClassId} {l : Launch} {R : Room} {cc : ByteArray} {nL : Nat} {own : String} {mc ms : Nat} {w0 : va_W} {Q : va_W → Prop} {w : va_W} {kc ks kc' ks' pc : Nat} {lv : List (Nat × Value)} {st : List Value} (h1 : kc = kc') (h2 : ks = ks') (k : GN D cy l R cc nL own mc ms w0 Q w kc' ks' pc lv st) : GN D cy l R cc nL own mc ms w0 Q w kc ks pc lv st := by
  subst h1 h2; exact k
theorem gP_re {D : va_G} {w w' : va_W} {H : Heap} (π : Nat → Nat) (h : ∀ k q', w'[k]? = some q' → ∃ q, w[π k]? = some q ∧ q.1 = q'.1 ∧ (va_at D vwCl q H → va_at D vwCl q' H)) (hP : va_P D vwCl w H) : va_P D vwCl w' H := fun k q' hk => by
  obtain ⟨q, h1, _, h3⟩ := h k q' hk
  exact h3 (hP _ _ h1)
theorem gD_re {A : Nat → Prop} {w w' : va_W} (π : Nat → Nat) (h : ∀ k q', w'[k]? = some q' → ∃ q, w[π k]? = some q ∧ q.1 = q'.1) (hi : ∀ i j, i < w'.length → j < w'.length → π i = π j → i = j) (hD : va_D A w) : va_D A w' := by
  refine ⟨fun i j p q h1 h2 e => ?_, fun k q' hk => ?_⟩
  · obtain ⟨p0, a1, a2⟩ := h i p h1
    obtain ⟨q0, b1, b2⟩ := h j q h2
    have := hD.1 (π i) (π j) p0 q0 a1 b1 (by rw [a2, b2, e])
    exact hi i j (List.getElem?_eq_some_iff.mp h1).1 (List.getElem?_eq_some_iff.mp h2).1 this
  · obtain ⟨q0, b1, b2⟩ := h k q' hk
    rw [← b2]
    exact hD.2 _ _ b1
theorem n_re {D : va_G} {cy : Nat → ClassId} {l : Launch} {R : Room} {cc : ByteArray} {nL : Nat} {own : String} {mc ms : Nat} {w0 : va_W} {Q : va_W → Prop} {w w' : va_W} {kc ks pc : Nat} {lv : List (Nat × Value)} {st : List Value} (π : Nat → Nat) (h : ∀ (H : Heap) k q', w'[k]? = some q' → ∃ q, w[π k]? = some q ∧ q.1 = q'.1 ∧ (va_at D vwCl q H → va_at D vwCl q' H)) (hi : ∀ i j, i < w'.length → j < w'.length → π i = π j → i = j) (k : GN D cy l R cc nL own mc ms w0 Q w' kc ks pc lv st) : GN D cy l R cc nL own mc ms w0 Q w kc ks pc lv st := by
  intro p e s m args below meth c H locs ls C hin hz hP hD hS hl
  exact k p e s m args below meth c H locs ls C hin hz (gP_re π (h H) hP) (gD_re π (fun k q' hk => (h H k q' hk).elim fun q hq => ⟨q, hq.1, hq.2.1⟩) hi hD) hS hl
/-- a row of references counts only below its length -/
theorem at_q {D : va_G} {H : Heap} {b n : Nat} {cA : ClassId} {f g : Nat → Option Nat} (h : ∀ j, j < n → f j = g j) : va_at D vwCl (b, .inl (cA, n, .inr (.inr (.inr (.inr f))))) H → va_at D vwCl (b, .inl (cA, n, .inr (.inr (.inr (.inr g))))) H := by
  intro k
  have e : vp_cell cA (n, .inr (.inr (.inr (.inr f)))) = vp_cell cA (n, .inr (.inr (.inr (.inr g)))) := by
    rw [vp_cell_q, vp_cell_q]
    unfold arrV
    congr 2
    funext j
    show va_rf (f j.val) = va_rf (g j.val)
    rw [h j.val j.isLt]
  exact k.trans (congrArg some e)
section GNR2
variable {D : va_G} {cy : Nat → ClassId} {l : Launch} {R : Room} {cc : ByteArray} {nL : Nat} {own : String} {mc ms : Nat} {w0 : va_W} {Q : va_W → Prop} {w : va_W} {kc ks pc : Nat} {lv lv' : List (Nat × Value)} {st : List Value}
theorem n_iload {i : Nat} {x : Int32} (hd : decode cc pc = .ok (.iload i, 2)) (q : Nat) (hv : lv[q]? = some (i, .int x)) (k : GN D cy l R cc nL own mc ms w0 Q w kc ks (pc + 2) lv (.int x :: st)) : GN D cy l R cc nL own mc ms w0 Q w kc ks pc lv st := by
  intro p e s m args below meth c H locs ls C hi hz hP hD hS hl
  exact lv_iload C.1 C.2.1 hd (lv_at hl q hv) (k p e s m args below meth c H locs ls C hi hz hP hD hS hl)
theorem n_istore {i : Nat} {x : Int32} (hd : decode cc pc = .ok (.istore i, 2)) (hn : i < nL) (hv : (i, Value.int x) :: lv.filter (fun q => !(q.1 == i) && !(q.1 + 1 == i && q.2.category == 2)) = lv') (k : GN D cy l R cc nL own mc ms w0 Q w kc ks (pc + 2) lv' st) : GN D cy l R cc nL own mc ms w0 Q w kc ks pc lv (.int x :: st) := by
  intro p e s m args below meth c H locs ls C hi hz hP hD hS hl
  exact lv_istore C.1 C.2.1 hd hl hn hv (fun ls' hl' => k p e s m args below meth c H locs ls' C hi hz hP hD hS hl')
theorem n_astore_n {i : Fin 4} {x : Nat} (hd : decode cc pc = .ok (.astore_n i, 1)) (hn : (i : Nat) < nL) (hv : ((i : Nat), Value.ref x) :: lv.filter (fun q => !(q.1 == (i : Nat)) && !(q.1 + 1 == (i : Nat) && q.2.category == 2)) = lv') (k : GN D cy l R cc nL own mc ms w0 Q w kc ks (pc + 1) lv' st) : GN D cy l R cc nL own mc ms w0 Q w kc ks pc lv (.ref x :: st) := by
  intro p e s m args below meth c H locs ls C hi hz hP hD hS hl
  exact lv_astore_n C.1 C.2.1 hd rfl hl hn hv (fun ls' hl' => k p e s m args below meth c H locs ls' C hi hz hP hD hS hl')
end GNR2
theorem up_self {α : Type} (f : Nat → α) (k : Nat) (v : α) : va_up f k v k = v := if_pos rfl
theorem qE_eq {b n : Nat} {cA : ClassId} {f g : Nat → Option Nat} (h : ∀ j, f j = g j) : ((b, .inl (cA, n, .inr (.inr (.inr (.inr f))))) : Nat × va_E) = (b, .inl (cA, n, .inr (.inr (.inr (.inr g))))) := by rw [funext h]
def σ0 : Nat → Int → Int := fun f i => if f = 0 ∧ i = 0 then 7 else if f = 0 ∧ (i = 6 ∨ i = 7) then -1005 else if f = 5 then 1 else 0
def xE (d am at_ pb sr : Nat) (pa : Value) : va_E := .inr (4, [.ref d, .ref am, .int (zI 0), .ref at_, pa, .ref pb, .long (zJ 0), .int (zI (-1005)), .int (zI (-1005)), .ref sr])
def mE (d : Nat) : va_E := .inr (2, [.ref d, .int (zI 0), .int (zI 0), .int (zI 0), .int (zI 0), .int (zI 0), .int (zI 1), .int (zI 0), .int (zI 0)])
def I0 (cy : Nat → ClassId) (a d pb sr : Nat) (e : va_E) (c : Nat → Nat × va_E) : Prop := c 0 = (a, e) ∧ c 3 = (d, .inr (0, [.int (zI 7)])) ∧ c 1 = (pb, .inl (cy 1, 6, .inr (.inl (fun _ : Nat => zJ 0)))) ∧ c 2 = (sr, .inl (cy 0, 24, .inl (fun _ : Nat => zI 0)))
def I1 (cy : Nat → ClassId) (am d k : Nat) (c : Nat → Nat × va_E) : Prop := c 4 = (am, .inl (cy 3, 24, .inr (.inr (.inr (.inr (fun j => if j < k then some (c (5 + j)).1 else none)))))) ∧ ∀ i, i < k → (c (5 + i)).2 = mE d
def I2 (cy : Nat → ClassId) (am at_ k : Nat) (c : Nat → Nat × va_E) : Prop := c 29 = (at_, .inl (cy 4, 6, .inr (.inr (.inr (.inr (fun j => if j < k then some (c (30 + 2 * j)).1 else none)))))) ∧ ∀ i, i < k → (c (30 + 2 * i)).2 = .inr (3, [.ref am, .ref (c (31 + 2 * i)).1, .int (zI 0)]) ∧ (c (31 + 2 * i)).2 = .inl (cy 0, 12, .inl (fun _ : Nat => zI 0))
theorem I1_step {cy : Nat → ClassId} {am d k : Nat} {c : Nat → Nat × va_E} (q : Nat) (e0 : Nat × va_E) (h : I1 cy am d k c) : I1 cy am d (k + 1) (va_up (va_up (va_up c (5 + k) e0) (5 + k) (q, mE d)) 4 (am, .inl (cy 3, 24, .inr (.inr (.inr (.inr (va_up (fun j => if j < k then some (c (5 + j)).1 else none) k (some q)))))))) := by
  have hx : ∀ j, va_up (va_up (va_up c (5 + k) e0) (5 + k) (q, mE d)) 4 (am, .inl (cy 3, 24, .inr (.inr (.inr (.inr (va_up (fun j => if j < k then some (c (5 + j)).1 else none) k (some q))))))) (5 + j) = if j = k then (q, mE d) else c (5 + j) := by
    intro j
    unfold va_up
    rw [if_neg (by omega)]
    by_cases hj : j = k
    · subst hj; rw [if_pos rfl, if_pos rfl]
    · rw [if_neg (by omega), if_neg (by omega), if_neg hj]
  refine ⟨?_, fun i hi => ?_⟩
  · refine (up_self _ _ _).trans (qE_eq fun j => ?_)
    rw [hx j]
    unfold va_up
    by_cases hj : j = k
    · subst hj; rw [if_pos rfl, if_pos (by omega), if_pos rfl]
    · rw [if_neg hj, if_neg hj]
      show (if j < k then _ else _) = _
      by_cases h2 : j < k
      · rw [if_pos h2, if_pos (by omega)]
      · rw [if_neg h2, if_neg (by omega)]
  · rw [hx i]
    by_cases hj : i = k
    · rw [if_pos hj]
    · rw [if_neg hj]; exact h.2 i (by omega)

set_option maxRecDepth 100000 in
set_option maxHeartbeats 2000000 in
theorem x5_l1 {D : va_G} {cy : Nat → ClassId} {l : Launch} {w0 : va_W} {Q : va_W → Prop} (a d am pb sr : Nat) (e : va_E) (Y : va_W) (kend : ∀ c, I0 cy a d pb sr e c → I1 cy am d 24 c → GN D cy l rmI_X5 cX5_init 5 RX5 42 369 w0 Q (V 29 c ++ Y) (28) (271) 83 [(2, .ref am), (1, .ref d), (0, .ref a)] []) : ∀ n k : Nat, k + n = 24 → ∀ c, I0 cy a d pb sr e c → I1 cy am d k c → GN D cy l rmI_X5 cX5_init 5 RX5 42 369 w0 Q (V (5 + k) c ++ Y) (4 + k) (55 + 9 * k) 60 [(3, .int (zI k)), (2, .ref am), (1, .ref d), (0, .ref a)] [] := by
  intro n
  induction n with
  | zero =>
    intro k hk c h0 h1
    refine n_iload_n (pc := 60) dX5_init_60 0 rfl ?_
    refine n_bipush (pc := 61) dX5_init_61 (by omega) ?_
    refine n_icmp_ge (pc := 63) 83 dX5_init_63 rfl (by omega) (by omega) (fun _ => ?_) (fun h => absurd h (by omega))
    obtain rfl : k = 24 := by omega
    exact n_sub [1, 2, 3] rfl (kend c h0 h1)
  | succ n ih =>
    intro k hk c h0 h1
    refine n_iload_n (pc := 60) dX5_init_60 0 rfl ?_
    refine n_bipush (pc := 61) dX5_init_61 (by omega) ?_
    refine n_icmp_ge (pc := 63) 83 dX5_init_63 rfl (by omega) (by omega) (fun h => absurd h (by omega)) (fun _ => ?_)
    refine n_aload_n (pc := 66) dX5_init_66 1 rfl ?_
    refine n_iload_n (pc := 67) dX5_init_67 0 rfl ?_
    refine n_new (pc := 68) (ci := 2) (fs := [.null, .int 0, .int 0, .int 0, .int 0, .int 0, .int 0, .int 0, .int 0]) inG_X3 tyX3 tyX3_ok kl_X5_36 in_X3 ni_X3 rfl (fun j hj => match j, hj with | 0, _ => rfl | 1, _ => rfl | 2, _ => rfl | 3, _ => rfl | 4, _ => rfl | 5, _ => rfl | 6, _ => rfl | 7, _ => rfl | 8, _ => rfl | (k + 9), h => absurd h (by omega)) (by show _ ≤ 42; omega) (by show _ ≤ 369; omega) dX5_init_68 (fun q => ?_)
    refine n_world V_new ?_
    refine n_dup (pc := 71) dX5_init_71 rfl ?_
    refine n_aload_n (pc := 72) dX5_init_72 2 rfl ?_
    refine n_call (pc := 73) (As := [.ref d]) (b := q) kI_X5_38 (c_X3_init q d (5 + k) (V_at (by omega) (by unfold va_up; rw [if_pos rfl]))) ⟨rfl, rfl, Nat.le_of_ble_eq_true rfl, Nat.le_of_ble_eq_true rfl⟩ ⟨by show _ ≤ 42; omega, by show _ ≤ 369; omega⟩ rfl rfl (Nat.le_of_ble_eq_true rfl) dX5_init_73 (fun w_ hw_ => ?_)
    refine n_world (hw_.trans (V_set (by omega))) ?_
    refine n_aast (pc := 76) 4 3 (5 + k) 2 (r := (RX3, TX3, 9)) (V_at (by omega) (by unfold va_up; rw [if_neg (by omega), if_neg (by omega)]; exact h1.1)) rfl (V_at (e := (q, mE d)) (by omega) (by unfold va_up; rw [if_pos rfl]; rfl)) rfl (i := (k : Int)) (by omega) (by omega) (V_set (by omega)) dX5_init_76 ?_
    refine n_iinc (pc := 77) dX5_init_77 (Nat.le_of_ble_eq_true rfl) 0 rfl rfl ?_
    refine n_goto (pc := 80) 60 dX5_init_80 rfl ?_
    refine n_cnt (kc' := 4 + (k + 1)) (ks' := 55 + 9 * (k + 1)) (by omega) (by omega) ?_
    have hc : ∀ j, j < 4 → va_up (va_up (va_up c (5 + k) (q, .inr (2, [.null, .int 0, .int 0, .int 0, .int 0, .int 0, .int 0, .int 0, .int 0]))) (5 + k) (q, mE d)) 4 (am, .inl (cy 3, 24, .inr (.inr (.inr (.inr (va_up (fun j => if j < k then some (c (5 + j)).1 else none) k (some q))))))) j = c j := by
      intro j h1
      unfold va_up
      rw [if_neg (by omega), if_neg (by omega), if_neg (by omega)]
    exact ih (k + 1) (by omega) _ ⟨(hc 0 (by omega)).trans h0.1, (hc 3 (by omega)).trans h0.2.1, (hc 1 (by omega)).trans h0.2.2.1, (hc 2 (by omega)).trans h0.2.2.2⟩ (I1_step q _ h1)
theorem I2_step {cy : Nat → ClassId} {am at_ k : Nat} {c : Nat → Nat × va_E} (q q2 : Nat) (h : I2 cy am at_ k c) : I2 cy am at_ (k + 1) (va_up (va_up (va_up c (30 + 2 * k) (q, .inr (3, [.ref am, .ref q2, .int (zI 0)]))) (30 + 2 * k + 1) (q2, .inl (cy 0, 12, .inl (fun _ : Nat => zI 0)))) 29 (at_, .inl (cy 4, 6, .inr (.inr (.inr (.inr (va_up (fun j => if j < k then some (c (30 + 2 * j)).1 else none) k (some q)))))))) := by
  have hx : ∀ j, (va_up (va_up (va_up c (30 + 2 * k) (q, .inr (3, [.ref am, .ref q2, .int (zI 0)]))) (30 + 2 * k + 1) (q2, .inl (cy 0, 12, .inl (fun _ : Nat => zI 0)))) 29 (at_, .inl (cy 4, 6, .inr (.inr (.inr (.inr (va_up (fun j => if j < k then some (c (30 + 2 * j)).1 else none) k (some q)))))))) (30 + 2 * j) = if j = k then (q, .inr (3, [.ref am, .ref q2, .int (zI 0)])) else c (30 + 2 * j) := by
    intro j
    unfold va_up
    rw [if_neg (by omega), if_neg (by omega)]
    by_cases hj : j = k
    · subst hj; rw [if_pos rfl, if_pos rfl]
    · rw [if_neg (by omega), if_neg hj]
  have hy : ∀ j, (va_up (va_up (va_up c (30 + 2 * k) (q, .inr (3, [.ref am, .ref q2, .int (zI 0)]))) (30 + 2 * k + 1) (q2, .inl (cy 0, 12, .inl (fun _ : Nat => zI 0)))) 29 (at_, .inl (cy 4, 6, .inr (.inr (.inr (.inr (va_up (fun j => if j < k then some (c (30 + 2 * j)).1 else none) k (some q)))))))) (31 + 2 * j) = if j = k then (q2, .inl (cy 0, 12, .inl (fun _ : Nat => zI 0))) else c (31 + 2 * j) := by
    intro j
    unfold va_up
    rw [if_neg (by omega)]
    by_cases hj : j = k
    · subst hj; rw [if_pos (by omega), if_pos rfl]
    · rw [if_neg (by omega), if_neg (by omega), if_neg hj]
  refine ⟨?_, fun i hi => ?_⟩
  · refine (up_self _ _ _).trans (qE_eq fun j => ?_)
    rw [hx j]
    unfold va_up
    by_cases hj : j = k
    · subst hj; rw [if_pos rfl, if_pos (by omega), if_pos rfl]
    · rw [if_neg hj, if_neg hj]
      show (if j < k then _ else _) = _
      by_cases h2 : j < k
      · rw [if_pos h2, if_pos (by omega)]
      · rw [if_neg h2, if_neg (by omega)]
  · rw [hx i, hy i]
    by_cases hj : i = k
    · rw [if_pos hj, if_pos hj]; exact ⟨rfl, rfl⟩
    · rw [if_neg hj, if_neg hj]; exact h.2 i (by omega)
theorem I1_of {cy : Nat → ClassId} {am d : Nat} {c c' : Nat → Nat × va_E} (h2 : c' 4 = c 4) (h : ∀ i, i < 24 → c' (5 + i) = c (5 + i)) (hI : I1 cy am d 24 c) : I1 cy am d 24 c' := by
  refine ⟨h2.trans (hI.1.trans (qE_eq fun j => ?_)), fun i hi => by rw [h i hi]; exact hI.2 i hi⟩
  by_cases hj : j < 24
  · rw [if_pos hj, if_pos hj, h j hj]
  · rw [if_neg hj, if_neg hj]
theorem I2_of {cy : Nat → ClassId} {am at_ : Nat} {c c' : Nat → Nat × va_E} (h2 : c' 29 = c 29) (h : ∀ i, 30 ≤ i → i < 42 → c' i = c i) (hI : I2 cy am at_ 6 c) : I2 cy am at_ 6 c' := by
  refine ⟨h2.trans (hI.1.trans (qE_eq fun j => ?_)), fun i hi => by rw [h (30 + 2 * i) (by omega) (by omega), h (31 + 2 * i) (by omega) (by omega)]; exact hI.2 i hi⟩
  by_cases hj : j < 6
  · rw [if_pos hj, if_pos hj, h _ (by omega) (by omega)]
  · rw [if_neg hj, if_neg hj]
set_option maxRecDepth 100000 in
set_option maxHeartbeats 2000000 in
theorem x5_l2 {D : va_G} {cy : Nat → ClassId} {l : Launch} {w0 : va_W} {Q : va_W → Prop} (a d am at_ pb sr : Nat) (e : va_E) (Y : va_W) (kend : ∀ c, I0 cy a d pb sr e c → I1 cy am d 24 c → I2 cy am at_ 6 c → GN D cy l rmI_X5 cX5_init 5 RX5 42 369 w0 Q (V 42 c ++ Y) (41) (367) 117 [(3, .ref at_), (2, .ref am), (1, .ref d), (0, .ref a)] []) : ∀ n k : Nat, k + n = 6 → ∀ c, I0 cy a d pb sr e c → I1 cy am d 24 c → I2 cy am at_ k c → GN D cy l rmI_X5 cX5_init 5 RX5 42 369 w0 Q (V (30 + 2 * k) c ++ Y) (29 + 2 * k) (277 + 15 * k) 92 [(4, .int (zI k)), (3, .ref at_), (2, .ref am), (1, .ref d), (0, .ref a)] [] := by
  intro n
  induction n with
  | zero =>
    intro k hk c h0 h1 h2
    refine n_iload (pc := 92) dX5_init_92 0 rfl ?_
    refine n_bipush (pc := 94) dX5_init_94 (by omega) ?_
    refine n_icmp_ge (pc := 96) 117 dX5_init_96 rfl (by omega) (by omega) (fun _ => ?_) (fun h => absurd h (by omega))
    obtain rfl : k = 6 := by omega
    exact n_sub [1, 2, 3, 4] rfl (kend c h0 h1 h2)
  | succ n ih =>
    intro k hk c h0 h1 h2
    refine n_iload (pc := 92) dX5_init_92 0 rfl ?_
    refine n_bipush (pc := 94) dX5_init_94 (by omega) ?_
    refine n_icmp_ge (pc := 96) 117 dX5_init_96 rfl (by omega) (by omega) (fun h => absurd h (by omega)) (fun _ => ?_)
    refine n_aload_n (pc := 99) dX5_init_99 1 rfl ?_
    refine n_iload (pc := 100) dX5_init_100 0 rfl ?_
    refine n_new (pc := 102) (ci := 3) (fs := [.null, .null, .int 0]) inG_X4 tyX4 tyX4_ok kl_X5_41 in_X4 ni_X4 rfl (fun j hj => match j, hj with | 0, _ => rfl | 1, _ => rfl | 2, _ => rfl | (k + 3), h => absurd h (by omega)) (by show _ ≤ 42; omega) (by show _ ≤ 369; omega) dX5_init_102 (fun q => ?_)
    refine n_dup (pc := 105) dX5_init_105 rfl ?_
    refine n_aload_n (pc := 106) dX5_init_106 2 rfl ?_
    refine n_call (pc := 107) (As := [.ref am]) (b := q) kI_X5_43 (c_X4_init q am (V (30 + 2 * k) c) Y) ⟨rfl, rfl, Nat.le_of_ble_eq_true rfl, Nat.le_of_ble_eq_true rfl⟩ ⟨by show _ ≤ 42; omega, by show _ ≤ 369; omega⟩ rfl rfl (Nat.le_of_ble_eq_true rfl) dX5_init_107 (fun w_ hw_ => ?_)
    obtain ⟨q2, hw_⟩ := hw_
    refine n_world (hw_.trans ((congrArg (fun z => (z ++ [(q2, .inl (cy 0, 12, .inl (fun _ : Nat => zI 0)))]) ++ Y) (show V (30 + 2 * k) c ++ [(q, .inr (3, [.ref am, .ref q2, .int (zI 0)]))] = V (30 + 2 * k + 1) (va_up c (30 + 2 * k) (q, .inr (3, [.ref am, .ref q2, .int (zI 0)]))) from by have := V_new (n := 30 + 2 * k) (c := c) (Y := []) (e := (q, .inr (3, [.ref am, .ref q2, .int (zI 0)]))); rwa [List.append_nil, List.append_nil] at this)).trans V_new)) ?_
    refine n_aast (pc := 110) 29 4 (30 + 2 * k) 3 (r := (RX4, TX4, 3)) (V_at (by omega) (by unfold va_up; rw [if_neg (by omega), if_neg (by omega)]; exact h2.1)) rfl (V_at (e := (q, .inr (3, [.ref am, .ref q2, .int (zI 0)]))) (by omega) (by unfold va_up; rw [if_neg (by omega), if_pos rfl])) rfl (i := (k : Int)) (by omega) (by omega) (V_set (by omega)) dX5_init_110 ?_
    refine n_iinc (pc := 111) dX5_init_111 (Nat.le_of_ble_eq_true rfl) 0 rfl rfl ?_
    refine n_goto (pc := 114) 92 dX5_init_114 rfl ?_
    refine n_cnt (kc' := 29 + 2 * (k + 1)) (ks' := 277 + 15 * (k + 1)) (by omega) (by omega) ?_
    have hc : ∀ j, j < 29 → (va_up (va_up (va_up c (30 + 2 * k) (q, .inr (3, [.ref am, .ref q2, .int (zI 0)]))) (30 + 2 * k + 1) (q2, .inl (cy 0, 12, .inl (fun _ : Nat => zI 0)))) 29 (at_, .inl (cy 4, 6, .inr (.inr (.inr (.inr (va_up (fun j => if j < k then some (c (30 + 2 * j)).1 else none) k (some q)))))))) j = c j := by
      intro j h1
      unfold va_up
      rw [if_neg (by omega), if_neg (by omega), if_neg (by omega)]
    exact ih (k + 1) (by omega) _ ⟨(hc 0 (by omega)).trans h0.1, (hc 3 (by omega)).trans h0.2.1, (hc 1 (by omega)).trans h0.2.2.1, (hc 2 (by omega)).trans h0.2.2.2⟩ (I1_of (hc 4 (by omega)) (fun i hi => hc _ (by omega)) h1) (I2_step q q2 h2)
def pi5 (k : Nat) : Nat := (if k = 0 then 0 else if k = 1 then 3 else if k = 2 then 4 else if k = 3 then 29 else if k = 4 then 42 else if k < 7 then k - 4 else if k < 31 then k - 2 else if k < 37 then 30 + 2 * (k - 31) else if k < 43 then 31 + 2 * (k - 37) else k)
theorem pi5_lo {k : Nat} (h : 7 ≤ k) (h2 : k < 31) : pi5 k = k - 2 := by unfold pi5; rw [if_neg (by omega), if_neg (by omega), if_neg (by omega), if_neg (by omega), if_neg (by omega), if_neg (by omega), if_pos h2]
theorem pi5_s {k : Nat} (h : 31 ≤ k) (h2 : k < 37) : pi5 k = 30 + 2 * (k - 31) := by unfold pi5; rw [if_neg (by omega), if_neg (by omega), if_neg (by omega), if_neg (by omega), if_neg (by omega), if_neg (by omega), if_neg (by omega), if_pos h2]
theorem pi5_m {k : Nat} (h : 37 ≤ k) (h2 : k < 43) : pi5 k = 31 + 2 * (k - 37) := by unfold pi5; rw [if_neg (by omega), if_neg (by omega), if_neg (by omega), if_neg (by omega), if_neg (by omega), if_neg (by omega), if_neg (by omega), if_neg (by omega), if_pos h2]
theorem pi5_y {k : Nat} (h : 43 ≤ k) : pi5 k = k := by unfold pi5; rw [if_neg (by omega), if_neg (by omega), if_neg (by omega), if_neg (by omega), if_neg (by omega), if_neg (by omega), if_neg (by omega), if_neg (by omega), if_neg (by omega)]
theorem pi5_lt {k : Nat} (h : k < 43) : pi5 k < 43 := by unfold pi5; (repeat' split) <;> omega
theorem pi5_inj (i j : Nat) (h : pi5 i = pi5 j) : i = j := by
  unfold pi5 at h
  repeat' split at h
  all_goals omega
theorem pair_eq {p : Nat × va_E} {e : va_E} (h : p.2 = e) : p = (p.1, e) := by rw [← h]
/-- the cell that the constructor leaves at place pi5 k says what the class's world says at place k -/
theorem x5_cell {D : va_G} {H : Heap} {cy : Nat → ClassId} {a d am at_ pb sr pa : Nat} {c : Nat → Nat × va_E} (h0 : I0 cy a d pb sr (xE d am at_ pb sr (.ref pa)) c) (h1 : I1 cy am d 24 c) (h2 : I2 cy am at_ 6 c) (h4 : c 42 = (pa, .inr (1, [.ref at_, .int (zI 0)]))) (k : Nat) (hk : k < 43) : va_at D vwCl (c (pi5 k)) H → va_at D vwCl ((c (pi5 k)).1, cwE cy (fun k => (c (pi5 k)).1) σ0 k) H := by
  have a1 : (c (pi5 1)).1 = d := by show (c 3).1 = d; rw [h0.2.1]
  have a2 : (c (pi5 2)).1 = am := by show (c 4).1 = am; rw [h1.1]
  have a3 : (c (pi5 3)).1 = at_ := by show (c 29).1 = at_; rw [h2.1]
  have a4 : (c (pi5 4)).1 = pa := by show (c 42).1 = pa; rw [h4]
  have a5 : (c (pi5 5)).1 = pb := by show (c 1).1 = pb; rw [h0.2.2.1]
  have a6 : (c (pi5 6)).1 = sr := by show (c 2).1 = sr; rw [h0.2.2.2]
  by_cases k7 : k < 7
  · have hs : k = 0 ∨ k = 1 ∨ k = 2 ∨ k = 3 ∨ k = 4 ∨ k = 5 ∨ k = 6 := by omega
    rcases hs with rfl | rfl | rfl | rfl | rfl | rfl | rfl
    · intro h
      have e : c (pi5 0) = ((c (pi5 0)).1, arrE (fun k => (c (pi5 k)).1) σ0) := by
        refine pair_eq ?_
        unfold arrE
        dsimp only
        rw [a1, a2, a3, a4, a5, a6]
        show (c 0).2 = _
        rw [h0.1]
        rfl
      exact e ▸ h
    · intro h
      have e : c (pi5 1) = ((c (pi5 1)).1, .inr (0, [.int (zI (σ0 0 0))])) := by
        refine pair_eq ?_
        show (c 3).2 = _
        rw [h0.2.1]
        rfl
      exact e ▸ h
    · have e : c (pi5 2) = ((c (pi5 2)).1, .inl (cy 3, 24, .inr (.inr (.inr (.inr (fun j => if j < 24 then some (c (5 + j)).1 else none)))))) := by
        refine pair_eq ?_
        show (c 4).2 = _
        rw [h1.1]
      intro h
      refine at_q (f := fun j => if j < 24 then some (c (5 + j)).1 else none) (g := fun j : Nat => some (c (pi5 (7 + j))).1) (fun j hj => ?_) (e ▸ h)
      rw [if_pos hj, pi5_lo (by omega) (by omega), show 7 + j - 2 = 5 + j by omega]
    · have e : c (pi5 3) = ((c (pi5 3)).1, .inl (cy 4, 6, .inr (.inr (.inr (.inr (fun j => if j < 6 then some (c (30 + 2 * j)).1 else none)))))) := by
        refine pair_eq ?_
        show (c 29).2 = _
        rw [h2.1]
      intro h
      refine at_q (f := fun j => if j < 6 then some (c (30 + 2 * j)).1 else none) (g := fun j : Nat => some (c (pi5 (31 + j))).1) (fun j hj => ?_) (e ▸ h)
      rw [if_pos hj, pi5_s (by omega) (by omega), show 31 + j - 31 = j by omega]
    · intro h
      have e : c (pi5 4) = ((c (pi5 4)).1, .inr (1, [.ref (c (pi5 3)).1, .int (zI (σ0 0 2))])) := by
        refine pair_eq ?_
        rw [a3]
        show (c 42).2 = _
        rw [h4]
        rfl
      exact e ▸ h
    · intro h
      have e : c (pi5 5) = ((c (pi5 5)).1, .inl (cy 1, 6, .inr (.inl (fun j : Nat => zJ (σ0 11 j))))) := by
        refine pair_eq ?_
        show (c 1).2 = _
        rw [h0.2.2.1]
        rfl
      exact e ▸ h
    · intro h
      have e : c (pi5 6) = ((c (pi5 6)).1, .inl (cy 0, 24, .inl (fun j : Nat => zI (σ0 12 j)))) := by
        refine pair_eq ?_
        show (c 2).2 = _
        rw [h0.2.2.2]
        rfl
      exact e ▸ h
  · have e : (c (pi5 k)).2 = cwE cy (fun k => (c (pi5 k)).1) σ0 k := by
      by_cases k31 : k < 31
      · rw [cwE_mod (by omega) k31, pi5_lo (by omega) k31, show k - 2 = 5 + (k - 7) by omega, h1.2 (k - 7) (by omega)]
        unfold modE mE
        dsimp only
        rw [a1]
        rfl
      · by_cases k37 : k < 37
        · rw [cwE_str (by omega) k37, pi5_s (by omega) k37, (h2.2 (k - 31) (by omega)).1]
          unfold strE
          dsimp only
          rw [a2]
          show _ = Sum.inr (3, [Value.ref am, Value.ref (c (pi5 (k + 6))).1, Value.int (zI 0)])
          rw [pi5_m (by omega) (by omega), show k + 6 - 37 = k - 31 by omega]
        · rw [cwE_mem (by omega), pi5_m (by omega) hk, (h2.2 (k - 37) (by omega)).2]
          unfold memE memF
          congr 4
          funext j
          show zI 0 = zI (if (j : Int) < 12 then 0 else 0)
          rw [ite_self]
    intro h
    rw [← e]
    exact h

theorem x5_end {D : va_G} {cy : Nat → ClassId} {l : Launch} {w0 : va_W} (a d am at_ pb sr pa : Nat) (Y : va_W) {c : Nat → Nat × va_E} (h0 : I0 cy a d pb sr (xE d am at_ pb sr (.ref pa)) c) (h1 : I1 cy am d 24 c) (h2 : I2 cy am at_ 6 c) (h4 : c 42 = (pa, .inr (1, [.ref at_, .int (zI 0)]))) {lv : List (Nat × Value)} : GN D cy l rmI_X5 cX5_init 5 RX5 42 369 w0 (fun w' => ∃ ad : Nat → Nat, ad 0 = a ∧ w' = CW cy ad σ0 ++ Y) (V 43 c ++ Y) 42 369 144 lv [] := by
  refine n_re (w' := CW cy (fun k => (c (pi5 k)).1) σ0 ++ Y) pi5 (fun H k q' hk => ?_) (fun i j _ _ h => pi5_inj i j h) ?_
  · by_cases h43 : k < 43
    · rw [CW_at h43] at hk
      cases hk
      exact ⟨c (pi5 k), V_at (pi5_lt h43) rfl, rfl, x5_cell h0 h1 h2 h4 k h43⟩
    · rw [List.getElem?_append_right (by rw [CW_len]; omega), CW_len] at hk
      refine ⟨q', ?_, rfl, id⟩
      rw [pi5_y (by omega), List.getElem?_append_right (by rw [V_len]; omega), V_len]
      exact hk
  · exact n_ret (pc := 144) dX5_init_144 (Nat.le_refl _) (Nat.le_refl _) ⟨_, by show (c 0).1 = a; rw [h0.1], rfl⟩
set_option maxRecDepth 100000 in
set_option maxHeartbeats 2000000 in
theorem c_X5_init {D : va_G} {cy : Nat → ClassId} {l : Launch} (a : Nat) (Y : va_W) : ConN D cy l yX5_init cX5_init 5 rmI_X5 42 369 [.ref a] ([(a, .inr (4, [.null, .null, .int 0, .null, .null, .null, .long 0, .int 0, .int 0, .null]))] ++ Y) (fun w' => ∃ ad : Nat → Nat, ad 0 = a ∧ w' = CW cy ad σ0 ++ Y) := by
  refine ConN.of (lv := [(0, .ref a)]) (by decide) rfl (Nat.le_of_ble_eq_true rfl) rfl ?_
  refine n_aload_n (pc := 0) dX5_init_0 0 rfl ?_
  refine n_objInit (pc := 1) oi_X5 oi_i oi_c (Nat.le_of_ble_eq_true rfl) (Nat.le_of_ble_eq_true rfl) dX5_init_1 ?_
  refine n_aload_n (pc := 4) dX5_init_4 0 rfl ?_
  refine n_iconst (pc := 5) dX5_init_5 ?_
  refine n_put (pc := 6) (ci := 4) (w' := [(a, .inr (4, [.null, .null, .int (zI 0), .null, .null, .null, .long 0, .int 0, .int 0, .null]))] ++ Y) inG_X5 tyX5 tyX5_ok nmX5 rfl 2 (Nat.le_of_ble_eq_true rfl) rfl fl_X5_9 (Or.inr rfl) 0 (fs := [.null, .null, .int 0, .null, .null, .null, .long 0, .int 0, .int 0, .null]) rfl rfl rfl (Nat.le_of_ble_eq_true rfl) rfl dX5_init_6 ?_
  refine n_aload_n (pc := 9) dX5_init_9 0 rfl ?_
  refine n_bipush (pc := 10) dX5_init_10 (by omega) ?_
  refine n_newa (pc := 12) (atype := .long) (ty := .long) (t0 := 1) (L := [(a, .inr (4, [.null, .null, .int (zI 0), .null, .null, .null, .long 0, .int 0, .int 0, .null]))]) (Y := Y) (N := 6) (a0 := (6, .inr (.inl (fun _ : Nat => zJ 0)))) ac_long rfl (fun _ h => by cases h) rfl (fun _ => rfl) (by omega) rfl (Nat.le_of_ble_eq_true rfl) (Nat.le_of_ble_eq_true rfl) (Nat.le_of_ble_eq_true rfl) dX5_init_12 (fun q_12 => ?_)
  refine n_world (w' := [(a, .inr (4, [.null, .null, .int (zI 0), .null, .null, .null, .long 0, .int 0, .int 0, .null])), (q_12, .inl (cy 1, 6, .inr (.inl (fun _ : Nat => zJ 0))))] ++ Y) rfl ?_
  refine n_put (pc := 14) (ci := 4) (w' := [(a, .inr (4, [.null, .null, .int (zI 0), .null, .null, .ref q_12, .long 0, .int 0, .int 0, .null])), (q_12, .inl (cy 1, 6, .inr (.inl (fun _ : Nat => zJ 0))))] ++ Y) inG_X5 tyX5 tyX5_ok nmX5 rfl 5 (Nat.le_of_ble_eq_true rfl) rfl fl_X5_15 (Or.inr rfl) 0 (fs := [.null, .null, .int (zI 0), .null, .null, .null, .long 0, .int 0, .int 0, .null]) rfl rfl rfl (Nat.le_of_ble_eq_true rfl) rfl dX5_init_14 ?_
  refine n_aload_n (pc := 17) dX5_init_17 0 rfl ?_
  refine n_lconst (pc := 18) (z := 0) dX5_init_18 rfl ?_
  refine n_put (pc := 19) (ci := 4) (w' := [(a, .inr (4, [.null, .null, .int (zI 0), .null, .null, .ref q_12, .long (zJ 0), .int 0, .int 0, .null])), (q_12, .inl (cy 1, 6, .inr (.inl (fun _ : Nat => zJ 0))))] ++ Y) inG_X5 tyX5 tyX5_ok nmX5 rfl 6 (Nat.le_of_ble_eq_true rfl) rfl fl_X5_19 (Or.inr rfl) 0 (fs := [.null, .null, .int (zI 0), .null, .null, .ref q_12, .long 0, .int 0, .int 0, .null]) rfl rfl rfl (Nat.le_of_ble_eq_true rfl) rfl dX5_init_19 ?_
  refine n_aload_n (pc := 22) dX5_init_22 0 rfl ?_
  refine n_sipush (pc := 23) dX5_init_23 (by omega) ?_
  refine n_put (pc := 26) (ci := 4) (w' := [(a, .inr (4, [.null, .null, .int (zI 0), .null, .null, .ref q_12, .long (zJ 0), .int (zI (-1005)), .int 0, .null])), (q_12, .inl (cy 1, 6, .inr (.inl (fun _ : Nat => zJ 0))))] ++ Y) inG_X5 tyX5 tyX5_ok nmX5 rfl 7 (Nat.le_of_ble_eq_true rfl) rfl fl_X5_23 (Or.inr rfl) 0 (fs := [.null, .null, .int (zI 0), .null, .null, .ref q_12, .long (zJ 0), .int 0, .int 0, .null]) rfl rfl rfl (Nat.le_of_ble_eq_true rfl) rfl dX5_init_26 ?_
  refine n_aload_n (pc := 29) dX5_init_29 0 rfl ?_
  refine n_sipush (pc := 30) dX5_init_30 (by omega) ?_
  refine n_put (pc := 33) (ci := 4) (w' := [(a, .inr (4, [.null, .null, .int (zI 0), .null, .null, .ref q_12, .long (zJ 0), .int (zI (-1005)), .int (zI (-1005)), .null])), (q_12, .inl (cy 1, 6, .inr (.inl (fun _ : Nat => zJ 0))))] ++ Y) inG_X5 tyX5 tyX5_ok nmX5 rfl 8 (Nat.le_of_ble_eq_true rfl) rfl fl_X5_26 (Or.inr rfl) 0 (fs := [.null, .null, .int (zI 0), .null, .null, .ref q_12, .long (zJ 0), .int (zI (-1005)), .int 0, .null]) rfl rfl rfl (Nat.le_of_ble_eq_true rfl) rfl dX5_init_33 ?_
  refine n_aload_n (pc := 36) dX5_init_36 0 rfl ?_
  refine n_bipush (pc := 37) dX5_init_37 (by omega) ?_
  refine n_newa (pc := 39) (atype := .int) (ty := .int) (t0 := 0) (L := [(a, .inr (4, [.null, .null, .int (zI 0), .null, .null, .ref q_12, .long (zJ 0), .int (zI (-1005)), .int (zI (-1005)), .null])), (q_12, .inl (cy 1, 6, .inr (.inl (fun _ : Nat => zJ 0))))]) (Y := Y) (N := 24) (a0 := (24, .inl (fun _ : Nat => zI 0))) ac_int rfl (fun _ h => by cases h) rfl (fun _ => rfl) (by omega) rfl (Nat.le_of_ble_eq_true rfl) (Nat.le_of_ble_eq_true rfl) (Nat.le_of_ble_eq_true rfl) dX5_init_39 (fun q_39 => ?_)
  refine n_world (w' := [(a, .inr (4, [.null, .null, .int (zI 0), .null, .null, .ref q_12, .long (zJ 0), .int (zI (-1005)), .int (zI (-1005)), .null])), (q_12, .inl (cy 1, 6, .inr (.inl (fun _ : Nat => zJ 0)))), (q_39, .inl (cy 0, 24, .inl (fun _ : Nat => zI 0)))] ++ Y) rfl ?_
  refine n_put (pc := 41) (ci := 4) (w' := [(a, .inr (4, [.null, .null, .int (zI 0), .null, .null, .ref q_12, .long (zJ 0), .int (zI (-1005)), .int (zI (-1005)), .ref q_39])), (q_12, .inl (cy 1, 6, .inr (.inl (fun _ : Nat => zJ 0)))), (q_39, .inl (cy 0, 24, .inl (fun _ : Nat => zI 0)))] ++ Y) inG_X5 tyX5 tyX5_ok nmX5 rfl 9 (Nat.le_of_ble_eq_true rfl) rfl fl_X5_29 (Or.inr rfl) 0 (fs := [.null, .null, .int (zI 0), .null, .null, .ref q_12, .long (zJ 0), .int (zI (-1005)), .int (zI (-1005)), .null]) rfl rfl rfl (Nat.le_of_ble_eq_true rfl) rfl dX5_init_41 ?_
  refine n_new (pc := 44) (ci := 0) (L := [(a, .inr (4, [.null, .null, .int (zI 0), .null, .null, .ref q_12, .long (zJ 0), .int (zI (-1005)), .int (zI (-1005)), .ref q_39])), (q_12, .inl (cy 1, 6, .inr (.inl (fun _ : Nat => zJ 0)))), (q_39, .inl (cy 0, 24, .inl (fun _ : Nat => zI 0)))]) (Y := Y) (fs := [.int 0]) inG_X1 tyX1 tyX1_ok kl_X5_33 in_X1 ni_X1 rfl (fun j hj => match j, hj with | 0, _ => rfl | (k + 1), h => absurd h (by omega)) (Nat.le_of_ble_eq_true rfl) (Nat.le_of_ble_eq_true rfl) dX5_init_44 (fun q_44 => ?_)
  refine n_world (w' := [(a, .inr (4, [.null, .null, .int (zI 0), .null, .null, .ref q_12, .long (zJ 0), .int (zI (-1005)), .int (zI (-1005)), .ref q_39])), (q_12, .inl (cy 1, 6, .inr (.inl (fun _ : Nat => zJ 0)))), (q_39, .inl (cy 0, 24, .inl (fun _ : Nat => zI 0))), (q_44, .inr (0, [.int 0]))] ++ Y) rfl ?_
  refine n_dup (pc := 47) dX5_init_47 rfl ?_
  refine n_call (pc := 48) (As := []) (b := q_44) kI_X5_35 (c_X1_init q_44 3 (v := .int 0) rfl) ⟨rfl, rfl, Nat.le_of_ble_eq_true rfl, Nat.le_of_ble_eq_true rfl⟩ ⟨Nat.le_of_ble_eq_true rfl, Nat.le_of_ble_eq_true rfl⟩ rfl rfl (Nat.le_of_ble_eq_true rfl) dX5_init_48 (fun w_ hw_ => ?_)
  refine n_world (w' := [(a, .inr (4, [.null, .null, .int (zI 0), .null, .null, .ref q_12, .long (zJ 0), .int (zI (-1005)), .int (zI (-1005)), .ref q_39])), (q_12, .inl (cy 1, 6, .inr (.inl (fun _ : Nat => zJ 0)))), (q_39, .inl (cy 0, 24, .inl (fun _ : Nat => zI 0))), (q_44, .inr (0, [.int (zI 7)]))] ++ Y) hw_ ?_
  refine n_astore_n (pc := 51) dX5_init_51 (Nat.le_of_ble_eq_true rfl) rfl ?_
  refine n_bipush (pc := 52) dX5_init_52 (by omega) ?_
  refine n_newq (pc := 54) (t0 := 3) (L := [(a, .inr (4, [.null, .null, .int (zI 0), .null, .null, .ref q_12, .long (zJ 0), .int (zI (-1005)), .int (zI (-1005)), .ref q_39])), (q_12, .inl (cy 1, 6, .inr (.inl (fun _ : Nat => zJ 0)))), (q_39, .inl (cy 0, 24, .inl (fun _ : Nat => zI 0))), (q_44, .inr (0, [.int (zI 7)]))]) (Y := Y) (N := 24) kl_X5_36 (fun s h => h.1) rfl (by omega) rfl (Nat.le_of_ble_eq_true rfl) (Nat.le_of_ble_eq_true rfl) (Nat.le_of_ble_eq_true rfl) dX5_init_54 (fun q_54 => ?_)
  refine n_world (w' := [(a, .inr (4, [.null, .null, .int (zI 0), .null, .null, .ref q_12, .long (zJ 0), .int (zI (-1005)), .int (zI (-1005)), .ref q_39])), (q_12, .inl (cy 1, 6, .inr (.inl (fun _ : Nat => zJ 0)))), (q_39, .inl (cy 0, 24, .inl (fun _ : Nat => zI 0))), (q_44, .inr (0, [.int (zI 7)])), (q_54, .inl (cy 3, 24, .inr (.inr (.inr (.inr (fun _ => none))))))] ++ Y) rfl ?_
  refine n_astore_n (pc := 57) dX5_init_57 (Nat.le_of_ble_eq_true rfl) rfl ?_
  refine n_world (w' := V (5 + 0) (fun k => ([(a, .inr (4, [.null, .null, .int (zI 0), .null, .null, .ref q_12, .long (zJ 0), .int (zI (-1005)), .int (zI (-1005)), .ref q_39])), (q_12, .inl (cy 1, 6, .inr (.inl (fun _ : Nat => zJ 0)))), (q_39, .inl (cy 0, 24, .inl (fun _ : Nat => zI 0))), (q_44, .inr (0, [.int (zI 7)])), (q_54, .inl (cy 3, 24, .inr (.inr (.inr (.inr (fun _ => none))))))] : va_W).getD k (0, .inr (0, []))) ++ Y) rfl ?_
  refine n_iconst (pc := 58) dX5_init_58 ?_
  refine n_istore_n (pc := 59) dX5_init_59 (Nat.le_of_ble_eq_true rfl) rfl ?_
  refine x5_l1 a q_44 q_54 q_12 q_39 (.inr (4, [.null, .null, .int (zI 0), .null, .null, .ref q_12, .long (zJ 0), .int (zI (-1005)), .int (zI (-1005)), .ref q_39])) Y (fun c h0 h1 => ?_) 24 0 rfl (fun k => ([(a, .inr (4, [.null, .null, .int (zI 0), .null, .null, .ref q_12, .long (zJ 0), .int (zI (-1005)), .int (zI (-1005)), .ref q_39])), (q_12, .inl (cy 1, 6, .inr (.inl (fun _ : Nat => zJ 0)))), (q_39, .inl (cy 0, 24, .inl (fun _ : Nat => zI 0))), (q_44, .inr (0, [.int (zI 7)])), (q_54, .inl (cy 3, 24, .inr (.inr (.inr (.inr (fun _ => none))))))] : va_W).getD k (0, .inr (0, []))) ⟨rfl, rfl, rfl, rfl⟩ ⟨qE_eq fun j => (if_neg (Nat.not_lt_zero j)).symm, fun i hi => absurd hi (Nat.not_lt_zero i)⟩
  refine n_bipush (pc := 83) dX5_init_83 (by omega) ?_
  refine n_newq (pc := 85) (t0 := 4) (L := V 29 c) (Y := Y) (N := 6) kl_X5_41 (fun s h => h.2) rfl (by omega) rfl (Nat.le_of_ble_eq_true rfl) (Nat.le_of_ble_eq_true rfl) (Nat.le_of_ble_eq_true rfl) dX5_init_85 (fun q_85 => ?_)
  refine n_world V_new ?_
  refine n_astore_n (pc := 88) dX5_init_88 (Nat.le_of_ble_eq_true rfl) rfl ?_
  refine n_iconst (pc := 89) dX5_init_89 ?_
  refine n_istore (pc := 90) dX5_init_90 (Nat.le_of_ble_eq_true rfl) rfl ?_
  have hc : ∀ j, j < 29 → va_up c 29 (q_85, .inl (cy 4, 6, .inr (.inr (.inr (.inr (fun _ => none)))))) j = c j := fun j h => if_neg (by omega)
  refine x5_l2 a q_44 q_54 q_85 q_12 q_39 (.inr (4, [.null, .null, .int (zI 0), .null, .null, .ref q_12, .long (zJ 0), .int (zI (-1005)), .int (zI (-1005)), .ref q_39])) Y (fun c h0 h1 h2 => ?_) 6 0 rfl _ ⟨(hc 0 (by omega)).trans h0.1, (hc 3 (by omega)).trans h0.2.1, (hc 1 (by omega)).trans h0.2.2.1, (hc 2 (by omega)).trans h0.2.2.2⟩ (I1_of (hc 4 (by omega)) (fun i hi => hc _ (by omega)) h1) ⟨(up_self _ _ _).trans (qE_eq fun j => (if_neg (Nat.not_lt_zero j)).symm), fun i hi => absurd hi (Nat.not_lt_zero i)⟩
  refine n_aload_n (pc := 117) dX5_init_117 3 rfl ?_
  refine n_new (pc := 118) (ci := 1) (fs := [.null, .int 0]) inG_X2 tyX2 tyX2_ok kl_X5_46 in_X2 ni_X2 rfl (fun j hj => match j, hj with | 0, _ => rfl | 1, _ => rfl | (k + 2), h => absurd h (by omega)) (Nat.le_of_ble_eq_true rfl) (Nat.le_of_ble_eq_true rfl) dX5_init_118 (fun q => ?_)
  refine n_world V_new ?_
  refine n_dup (pc := 121) dX5_init_121 rfl ?_
  refine n_aload_n (pc := 122) dX5_init_122 0 rfl ?_
  refine n_call (pc := 123) (As := [.ref q_85]) (b := q) kI_X5_48 (c_X2_init q q_85 42 (V_at (by omega) rfl)) ⟨rfl, rfl, Nat.le_of_ble_eq_true rfl, Nat.le_of_ble_eq_true rfl⟩ ⟨Nat.le_of_ble_eq_true rfl, Nat.le_of_ble_eq_true rfl⟩ rfl rfl (Nat.le_of_ble_eq_true rfl) dX5_init_123 (fun w_ hw_ => ?_)
  refine n_world (hw_.trans (V_set (by omega))) ?_
  refine n_put (pc := 126) (ci := 4) inG_X5 tyX5 tyX5_ok nmX5 rfl 4 (Nat.le_of_ble_eq_true rfl) rfl fl_X5_51 (Or.inr rfl) 0 (fs := [.null, .null, .int (zI 0), .null, .null, .ref q_12, .long (zJ 0), .int (zI (-1005)), .int (zI (-1005)), .ref q_39]) (V_at (by omega) h0.1) rfl rfl (Nat.le_of_ble_eq_true rfl) (V_set (by omega)) dX5_init_126 ?_
  refine n_aload_n (pc := 129) dX5_init_129 3 rfl ?_
  refine n_aload_n (pc := 130) dX5_init_130 2 rfl ?_
  refine n_put (pc := 131) (ci := 4) inG_X5 tyX5 tyX5_ok nmX5 rfl 0 (Nat.le_of_ble_eq_true rfl) rfl fl_X5_55 (Or.inr rfl) 0 (fs := [.null, .null, .int (zI 0), .null, .ref q, .ref q_12, .long (zJ 0), .int (zI (-1005)), .int (zI (-1005)), .ref q_39]) (V_at (by omega) rfl) rfl rfl (Nat.le_of_ble_eq_true rfl) (V_set (by omega)) dX5_init_131 ?_
  refine n_aload_n (pc := 134) dX5_init_134 3 rfl ?_
  refine n_aload_n (pc := 135) dX5_init_135 1 rfl ?_
  refine n_put (pc := 136) (ci := 4) inG_X5 tyX5 tyX5_ok nmX5 rfl 1 (Nat.le_of_ble_eq_true rfl) rfl fl_X5_59 (Or.inr rfl) 0 (fs := [.ref q_44, .null, .int (zI 0), .null, .ref q, .ref q_12, .long (zJ 0), .int (zI (-1005)), .int (zI (-1005)), .ref q_39]) (V_at (by omega) rfl) rfl rfl (Nat.le_of_ble_eq_true rfl) (V_set (by omega)) dX5_init_136 ?_
  refine n_aload_n (pc := 139) dX5_init_139 3 rfl ?_
  refine n_aload_n (pc := 140) dX5_init_140 0 rfl ?_
  refine n_put (pc := 141) (ci := 4) inG_X5 tyX5 tyX5_ok nmX5 rfl 3 (Nat.le_of_ble_eq_true rfl) rfl fl_X5_63 (Or.inr rfl) 0 (fs := [.ref q_44, .ref q_54, .int (zI 0), .null, .ref q, .ref q_12, .long (zJ 0), .int (zI (-1005)), .int (zI (-1005)), .ref q_39]) (V_at (by omega) rfl) rfl rfl (Nat.le_of_ble_eq_true rfl) (V_set (by omega)) dX5_init_141 ?_
  have hd : ∀ j, 1 ≤ j → j < 42 → (va_up (va_up (va_up (va_up (va_up (va_up c 42 (q, .inr (1, [.null, .int 0]))) 42 (q, .inr (1, [.ref q_85, .int (zI 0)]))) 0 (a, .inr (4, [.null, .null, .int (zI 0), .null, .ref q, .ref q_12, .long (zJ 0), .int (zI (-1005)), .int (zI (-1005)), .ref q_39]))) 0 (a, .inr (4, [.ref q_44, .null, .int (zI 0), .null, .ref q, .ref q_12, .long (zJ 0), .int (zI (-1005)), .int (zI (-1005)), .ref q_39]))) 0 (a, .inr (4, [.ref q_44, .ref q_54, .int (zI 0), .null, .ref q, .ref q_12, .long (zJ 0), .int (zI (-1005)), .int (zI (-1005)), .ref q_39]))) 0 (a, .inr (4, [.ref q_44, .ref q_54, .int (zI 0), .ref q_85, .ref q, .ref q_12, .long (zJ 0), .int (zI (-1005)), .int (zI (-1005)), .ref q_39]))) j = c j := by
    intro j h1 h2
    unfold va_up
    rw [if_neg (by omega), if_neg (by omega), if_neg (by omega), if_neg (by omega), if_neg (by omega), if_neg (by omega)]
  exact x5_end a q_44 q_54 q_85 q_12 q_39 q Y ⟨rfl, (hd 3 (by omega) (by omega)).trans h0.2.1, (hd 1 (by omega) (by omega)).trans h0.2.2.1, (hd 2 (by omega) (by omega)).trans h0.2.2.2⟩ (I1_of (hd 4 (by omega) (by omega)) (fun i hi => hd _ (by omega) (by omega)) h1) (I2_of (hd 29 (by omega) (by omega)) (fun i h1 h2 => hd _ (by omega) h2) h2) rfl
