/-! the law's loop, its start -/
theorem and31 (v : Int32) : 0 ≤ (v &&& zI 31).toInt ∧ (v &&& zI 31).toInt ≤ 31 := by
  have h1 : (v &&& zI 31).toBitVec.toNat ≤ 31 := by
    rw [Int32.toBitVec_and, BitVec.toNat_and]
    exact Nat.le_trans Nat.and_le_right (by decide)
  have h2 : (v &&& zI 31).toInt = ((v &&& zI 31).toBitVec.toNat : Int) := by
    show (v &&& zI 31).toBitVec.toInt = _
    exact BitVec.toInt_eq_toNat_of_lt (by omega)
  omega
theorem ofNat_zI (n : Nat) : Int32.ofNat n = zI (n : Int) := by simp [zI, Int32.ofInt_eq_ofNat]
theorem gisN_tab {x : Cond} (h : gisN x = true) : x.onTables = true := by
  cases x with
  | fieldLinkNest a i b n d hh => rfl
  | methodLinkNest a i y hh => rfl
  | declares y => rfl
  | _ => cases h
theorem law_table {D : va_G} {cy : Nat → ClassId} {l : Launch} {b Ln : Nat} {xs : Nat → Int32} {ad bd : Nat → Nat} {σ τ : Nat → Int → Int} {i : Int} (hi : 0 ≤ i ∧ i + 5 ≤ Ln) (hLn : Ln ≤ 2560) (hI : Inv σ) (hR : Rel σ τ) (kk : ∀ σ' τ', Inv σ' → Rel σ' τ' → GL D cy l b Ln xs (CW cy ad σ' ++ MW cy bd τ') 600000 7302250 1044 [(3, .int (zI i)), (2, .ref (bd 0)), (1, .ref (ad 0)), (0, .ref b)] []) (x : Int32) (hx : 0 ≤ x.toInt ∧ x.toInt ≤ 31) : GL D cy l b Ln xs (CW cy ad σ ++ MW cy bd τ) 600000 7302250 32 [(3, .int (zI i)), (2, .ref (bd 0)), (1, .ref (ad 0)), (0, .ref b)] [.int x] := by
  have hc : x.toInt = 0 ∨ x.toInt = 1 ∨ x.toInt = 2 ∨ x.toInt = 3 ∨ x.toInt = 4 ∨ x.toInt = 5 ∨ x.toInt = 6 ∨ x.toInt = 7 ∨ x.toInt = 8 ∨ x.toInt = 9 ∨ x.toInt = 10 ∨ x.toInt = 11 ∨ x.toInt = 12 ∨ x.toInt = 13 ∨ x.toInt = 14 ∨ x.toInt = 15 ∨ x.toInt = 16 ∨ x.toInt = 17 ∨ x.toInt = 18 ∨ x.toInt = 19 ∨ x.toInt = 20 ∨ x.toInt = 21 ∨ x.toInt = 22 ∨ x.toInt = 23 ∨ x.toInt = 24 ∨ x.toInt = 25 ∨ x.toInt = 26 ∨ x.toInt = 27 ∨ x.toInt = 28 ∨ x.toInt = 29 ∨ x.toInt = 30 ∨ x.toInt = 31 := by omega
  rcases hc with h | h | h | h | h | h | h | h | h | h | h | h | h | h | h | h | h | h | h | h | h | h | h | h | h | h | h | h | h | h | h | h
  · exact l_table (pc := 32) (off := 144) (tgt := 176) dL_law_32 (by omega) (by omega) (by rw [h]; rfl) rfl (law_c0 hi hLn hI hR kk)
  · exact l_table (pc := 32) (off := 157) (tgt := 189) dL_law_32 (by omega) (by omega) (by rw [h]; rfl) rfl (law_c1 hi hLn hI hR kk)
  · exact l_table (pc := 32) (off := 200) (tgt := 232) dL_law_32 (by omega) (by omega) (by rw [h]; rfl) rfl (law_c2 hi hLn hI hR kk)
  · exact l_table (pc := 32) (off := 233) (tgt := 265) dL_law_32 (by omega) (by omega) (by rw [h]; rfl) rfl (law_c3 hi hLn hI hR kk)
  · exact l_table (pc := 32) (off := 276) (tgt := 308) dL_law_32 (by omega) (by omega) (by rw [h]; rfl) rfl (law_c4 hi hLn hI hR kk)
  · exact l_table (pc := 32) (off := 309) (tgt := 341) dL_law_32 (by omega) (by omega) (by rw [h]; rfl) rfl (law_c5 hi hLn hI hR kk)
  · exact l_table (pc := 32) (off := 358) (tgt := 390) dL_law_32 (by omega) (by omega) (by rw [h]; rfl) rfl (law_c6 hi hLn hI hR kk)
  · exact l_table (pc := 32) (off := 381) (tgt := 413) dL_law_32 (by omega) (by omega) (by rw [h]; rfl) rfl (law_c7 hi hLn hI hR kk)
  · exact l_table (pc := 32) (off := 414) (tgt := 446) dL_law_32 (by omega) (by omega) (by rw [h]; rfl) rfl (law_c8 hi hLn hI hR kk)
  · exact l_table (pc := 32) (off := 447) (tgt := 479) dL_law_32 (by omega) (by omega) (by rw [h]; rfl) rfl (law_c9 hi hLn hI hR kk)
  · exact l_table (pc := 32) (off := 470) (tgt := 502) dL_law_32 (by omega) (by omega) (by rw [h]; rfl) rfl (law_c10 hi hLn hI hR kk)
  · exact l_table (pc := 32) (off := 503) (tgt := 535) dL_law_32 (by omega) (by omega) (by rw [h]; rfl) rfl (law_c11 hi hLn hI hR kk)
  · exact l_table (pc := 32) (off := 526) (tgt := 558) dL_law_32 (by omega) (by omega) (by rw [h]; rfl) rfl (law_c12 hi hLn hI hR kk)
  · exact l_table (pc := 32) (off := 559) (tgt := 591) dL_law_32 (by omega) (by omega) (by rw [h]; rfl) rfl (law_c13 hi hLn hI hR kk)
  · exact l_table (pc := 32) (off := 583) (tgt := 615) dL_law_32 (by omega) (by omega) (by rw [h]; rfl) rfl (law_c14 hi hLn hI hR kk)
  · exact l_table (pc := 32) (off := 606) (tgt := 638) dL_law_32 (by omega) (by omega) (by rw [h]; rfl) rfl (law_c15 hi hLn hI hR kk)
  · exact l_table (pc := 32) (off := 639) (tgt := 671) dL_law_32 (by omega) (by omega) (by rw [h]; rfl) rfl (law_c16 hi hLn hI hR kk)
  · exact l_table (pc := 32) (off := 673) (tgt := 705) dL_law_32 (by omega) (by omega) (by rw [h]; rfl) rfl (law_c17 hi hLn hI hR kk)
  · exact l_table (pc := 32) (off := 706) (tgt := 738) dL_law_32 (by omega) (by omega) (by rw [h]; rfl) rfl (law_c18 hi hLn hI hR kk)
  · exact l_table (pc := 32) (off := 729) (tgt := 761) dL_law_32 (by omega) (by omega) (by rw [h]; rfl) rfl (law_c19 hi hLn hI hR kk)
  · exact l_table (pc := 32) (off := 762) (tgt := 794) dL_law_32 (by omega) (by omega) (by rw [h]; rfl) rfl (law_c20 hi hLn hI hR kk)
  · exact l_table (pc := 32) (off := 785) (tgt := 817) dL_law_32 (by omega) (by omega) (by rw [h]; rfl) rfl (law_c21 hi hLn hI hR kk)
  · exact l_table (pc := 32) (off := 809) (tgt := 841) dL_law_32 (by omega) (by omega) (by rw [h]; rfl) rfl (law_c22 hi hLn hI hR kk)
  · exact l_table (pc := 32) (off := 862) (tgt := 894) dL_law_32 (by omega) (by omega) (by rw [h]; rfl) rfl (law_c23 hi hLn hI hR kk)
  · exact l_table (pc := 32) (off := 895) (tgt := 927) dL_law_32 (by omega) (by omega) (by rw [h]; rfl) rfl (law_c24 hi hLn hI hR kk)
  · exact l_table (pc := 32) (off := 918) (tgt := 950) dL_law_32 (by omega) (by omega) (by rw [h]; rfl) rfl (law_c25 hi hLn hI hR kk)
  · exact l_table (pc := 32) (off := 931) (tgt := 963) dL_law_32 (by omega) (by omega) (by rw [h]; rfl) rfl (law_c26 hi hLn hI hR kk)
  · exact l_table (pc := 32) (off := 945) (tgt := 977) dL_law_32 (by omega) (by omega) (by rw [h]; rfl) rfl (law_c27 hi hLn hI hR kk)
  · exact l_table (pc := 32) (off := 959) (tgt := 991) dL_law_32 (by omega) (by omega) (by rw [h]; rfl) rfl (law_c28 hi hLn hI hR kk)
  · exact l_table (pc := 32) (off := 973) (tgt := 1005) dL_law_32 (by omega) (by omega) (by rw [h]; rfl) rfl (law_c29 hi hLn hI hR kk)
  · exact l_table (pc := 32) (off := 986) (tgt := 1018) dL_law_32 (by omega) (by omega) (by rw [h]; rfl) rfl (law_c30 hi hLn hI hR kk)
  · exact l_table (pc := 32) (off := 999) (tgt := 1031) dL_law_32 (by omega) (by omega) (by rw [h]; rfl) rfl (law_c31 hi hLn hI hR kk)
theorem law_loop {D : va_G} {cy : Nat → ClassId} {l : Launch} {b Ln : Nat} {xs : Nat → Int32} {ad bd : Nat → Nat} (hLn : Ln ≤ 2560) : ∀ (n : Nat) (σ τ : Nat → Int → Int) (i : Int), Inv σ → Rel σ τ → 0 ≤ i → i ≤ 2565 → (Ln : Int) - i < 5 * n + 5 → GL D cy l b Ln xs (CW cy ad σ ++ MW cy bd τ) 600000 7302250 18 [(3, .int (zI i)), (2, .ref (bd 0)), (1, .ref (ad 0)), (0, .ref b)] [] := by
  intro n
  induction n with
  | zero =>
    intro σ τ i hI hR h0 h1 hn
    refine l_iload_n (pc := 18) dL_law_18 0 rfl ?_
    refine l_aload_n (pc := 19) dL_law_19 3 rfl ?_
    refine l_slen (pc := 20) dL_law_20 ?_
    rw [ofNat_zI]
    refine l_iconst (pc := 21) dL_law_21 ?_
    refine l_isub (pc := 22) dL_law_22 ?_
    refine l_icmp_gt (pc := 23) 1050 dL_law_23 rfl (by omega) (by omega) (fun _ => ?_) (fun h => absurd h (by omega))
    refine l_iconst (pc := 1050) dL_law_1050 ?_
    exact l_ret (pc := 1051) dL_law_1051
  | succ n ih =>
    intro σ τ i hI hR h0 h1 hn
    refine l_iload_n (pc := 18) dL_law_18 0 rfl ?_
    refine l_aload_n (pc := 19) dL_law_19 3 rfl ?_
    refine l_slen (pc := 20) dL_law_20 ?_
    rw [ofNat_zI]
    refine l_iconst (pc := 21) dL_law_21 ?_
    refine l_isub (pc := 22) dL_law_22 ?_
    refine l_icmp_gt (pc := 23) 1050 dL_law_23 rfl (by omega) (by omega) (fun _ => ?_) (fun h => ?_)
    · refine l_iconst (pc := 1050) dL_law_1050 ?_
      exact l_ret (pc := 1051) dL_law_1051
    · refine l_aload_n (pc := 26) dL_law_26 3 rfl ?_
      refine l_iload_n (pc := 27) dL_law_27 0 rfl ?_
      refine l_sld (pc := 28) (zI_in (by omega) (by omega) (by omega)) dL_law_28 ?_
      refine l_bipush (pc := 29) dL_law_29 (by omega) ?_
      refine l_iand (pc := 31) dL_law_31 ?_
      refine law_table (by omega) hLn hI hR (fun σ' τ' hI' hR' => ?_) _ (and31 _)
      refine l_iinc (pc := 1044) dL_law_1044 (Nat.le_of_ble_eq_true rfl) 0 rfl rfl ?_
      refine l_goto (pc := 1047) 18 dL_law_1047 rfl ?_
      exact ih σ' τ' (i + 5) hI' hR' (by omega) (by omega) (by omega)
set_option maxRecDepth 100000 in
theorem law_start {D : va_G} {cy : Nat → ClassId} {l : Launch} {b Ln : Nat} {xs : Nat → Int32} (hLn : Ln ≤ 2560) : GL D cy l b Ln xs [] 0 0 0 [(0, .ref b)] [] := by
  refine l_world (w' := [] ++ []) rfl ?_
  refine l_new (pc := 0) (ci := 4) (L := []) (Y := []) (fs := [.null, .null, .int 0, .null, .null, .null, .long 0, .int 0, .int 0, .null]) inG_X5 tyX5 tyX5_ok kl_L_7 in_X5 ni_X5 rfl (fun j hj => match j, hj with | 0, _ => rfl | 1, _ => rfl | 2, _ => rfl | 3, _ => rfl | 4, _ => rfl | 5, _ => rfl | 6, _ => rfl | 7, _ => rfl | 8, _ => rfl | 9, _ => rfl | (k + 10), h => absurd h (by omega)) (Nat.le_of_ble_eq_true rfl) (Nat.le_of_ble_eq_true rfl) dL_law_0 (fun q => ?_)
  refine l_world (w' := [(q, .inr (4, [.null, .null, .int 0, .null, .null, .null, .long 0, .int 0, .int 0, .null]))] ++ []) rfl ?_
  refine l_dup (pc := 3) dL_law_3 rfl ?_
  refine l_init (pc := 4) (As := []) (rest := [.ref q]) ml_L_9 ii_X5 ni_X5 ic_X5 rfl ⟨by decide, by decide, by decide +kernel⟩ (c_X5_init q []) ⟨rfl, rfl, Nat.le_of_ble_eq_true rfl, Nat.le_of_ble_eq_true rfl⟩ ⟨Nat.le_of_ble_eq_true rfl, Nat.le_of_ble_eq_true rfl⟩ rfl rfl (Nat.le_of_ble_eq_true rfl) dL_law_4 (fun w' hw => ?_)
  obtain ⟨ad, had, rfl⟩ := hw
  refine l_astore_n (pc := 7) dL_law_7 (Nat.le_of_ble_eq_true rfl) rfl ?_
  refine l_swap ?_
  refine l_new (pc := 8) (ci := 5) (L := []) (Y := CW cy ad σ0) (fs := [.int 0, .int 0, .null, .null, .null, .null, .null, .int 0, .null, .null, .int 0, .null, .null, .long 0, .int 0, .int 0, .null, .null, .null]) inG_X6 tyX6 tyX6_ok kl_L_10 in_X6 ni_X6 rfl (fun j hj => match j, hj with | 0, _ => rfl | 1, _ => rfl | 2, _ => rfl | 3, _ => rfl | 4, _ => rfl | 5, _ => rfl | 6, _ => rfl | 7, _ => rfl | 8, _ => rfl | 9, _ => rfl | 10, _ => rfl | 11, _ => rfl | 12, _ => rfl | 13, _ => rfl | 14, _ => rfl | 15, _ => rfl | 16, _ => rfl | 17, _ => rfl | 18, _ => rfl | (k + 19), h => absurd h (by omega)) (Nat.le_of_ble_eq_true rfl) (Nat.le_of_ble_eq_true rfl) dL_law_8 (fun q2 => ?_)
  refine l_world (w' := [(q2, .inr (5, [.int 0, .int 0, .null, .null, .null, .null, .null, .int 0, .null, .null, .int 0, .null, .null, .long 0, .int 0, .int 0, .null, .null, .null]))] ++ CW cy ad σ0) rfl ?_
  refine l_dup (pc := 11) dL_law_11 rfl ?_
  refine l_init (pc := 12) (As := []) (rest := [.ref q2]) ml_L_12 ii_X6 ni_X6 ic_X6 rfl ⟨by decide, by decide, by decide +kernel⟩ (c_X6_init q2 (CW cy ad σ0)) ⟨rfl, rfl, Nat.le_of_ble_eq_true rfl, Nat.le_of_ble_eq_true rfl⟩ ⟨Nat.le_of_ble_eq_true rfl, Nat.le_of_ble_eq_true rfl⟩ rfl rfl (Nat.le_of_ble_eq_true rfl) dL_law_12 (fun w' hw => ?_)
  obtain ⟨bd, hbd, rfl⟩ := hw
  refine l_astore_n (pc := 15) dL_law_15 (Nat.le_of_ble_eq_true rfl) rfl ?_
  refine l_iconst (pc := 16) dL_law_16 ?_
  refine l_istore_n (pc := 17) dL_law_17 (Nat.le_of_ble_eq_true rfl) rfl ?_
  refine l_swap ?_
  refine l_widen (kc' := 600000) (ks' := 7302250) (Nat.le_of_ble_eq_true rfl) (Nat.le_of_ble_eq_true rfl) ?_
  rw [← had, ← hbd]
  exact law_loop hLn 512 σ0 τ0 0 Inv0 Rel0 (Int.le_refl _) (by omega) (by omega)
theorem ao_3 : Cond.arrayOver (.object "PvArray$PvModule") ∈ lw_tbl := List.mem_of_getElem? (i := 68) (by decide +kernel)
theorem ao_4 : Cond.arrayOver (.object "PvArray$PvString") ∈ lw_tbl := List.mem_of_getElem? (i := 116) (by decide +kernel)
theorem arr_p {s : State} {args : Array Value} {ty : FieldType} (hpr : ∀ K, ty ≠ .object K) (h : (Cond.arrayClass ty).before args s = true) : ∃ cA : ClassId, ArrOfT s cA ty ∧ va_RA s cA ty := by
  obtain ⟨cA, kA, comp, h1, h2, h3⟩ := Cond.arrayClass_spec h
  refine ⟨cA, fun n z => ⟨fun k h => (by cases h), kA, h2, comp, h3⟩, ?_⟩
  cases ty with
  | object K => exact absurd rfl (hpr K)
  | _ => exact h1
theorem arr_q {s : State} {K : String} (h : va_AO K s) : ∃ cA : ClassId, ArrOfT s cA (.object K) ∧ va_RA s cA (.object K) := by
  obtain ⟨comp, cA, kA, h1, h2, h3, h4, h5⟩ := Cond.arrayOver_spec h
  exact ⟨cA, fun n z => ⟨fun k h => (by cases h), kA, h3, comp, h4⟩, kA, comp, h3, h4, h1, h5⟩
theorem whole_start {p : Program} {e : Env} {s : State} {m : MethodId} {below : List Frame} {meth : Method} {c : Code} (l : Launch) (hflags : l.flags = flags0) {b L : Nat} {xs : Nat → Int32} (hL : L ≤ 2560) (C0 : lw_At p s m meth c b L xs) : W p l e room_1 s m #[Value.ref b] below meth c s.heap [] 0 0 (lw_Z below #[Value.ref b] s) (entryFrame m ([Value.ref b] : List Value).toArray 4) := by
  have hts := C0.gtb
  have htl := C0.2.2.2.2.2.1
  obtain ⟨c0, i0, k0⟩ := u_known (C := RX1) (T := TX1) (N := 1) (n := 1) hts inG_X1 (hts _ in_X1)
  obtain ⟨c1, i1, k1⟩ := u_known (C := RX2) (T := TX2) (N := 2) (n := 2) hts inG_X2 (hts _ in_X2)
  obtain ⟨c2, i2, k2⟩ := u_known (C := RX3) (T := TX3) (N := 9) (n := 9) hts inG_X3 (hts _ in_X3)
  obtain ⟨c3, i3, k3⟩ := u_known (C := RX4) (T := TX4) (N := 3) (n := 3) hts inG_X4 (hts _ in_X4)
  obtain ⟨c4, i4, k4⟩ := u_known (C := RX5) (T := TX5) (N := 10) (n := 10) hts inG_X5 (hts _ in_X5)
  obtain ⟨c5, i5, k5⟩ := u_known (C := RX6) (T := TX6) (N := 19) (n := 19) hts inG_X6 (hts _ in_X6)
  have z3 : va_AO "PvArray$PvModule" s := va_AO.of (htl _ ao_3)
  have z4 : va_AO "PvArray$PvString" s := va_AO.of (htl _ ao_4)
  obtain ⟨y0, r0⟩ := arr_p (fun K h => by cases h) (hts _ ac_int)
  obtain ⟨y1, r1⟩ := arr_p (fun K h => by cases h) (hts _ ac_long)
  obtain ⟨y2, r2⟩ := arr_p (fun K h => by cases h) (hts _ ac_boolean)
  obtain ⟨y3, r3⟩ := arr_q z3
  obtain ⟨y4, r4⟩ := arr_q z4
  obtain ⟨D, hKc⟩ : ∃ D : va_G, ∀ (k : Nat) (q : vw_C), vwCl[k]? = some q → u_Kn s q.1 q.2.1 q.2.2 (D.1 k) (D.2 k) := by
    refine ⟨(fun k => [c0, c1, c2, c3, c4, c5].getD k c0, fun k => [i0, i1, i2, i3, i4, i5].getD k i0), ?_⟩
    intro k q hq
    match k, hq with
    | 0, hq => cases hq; exact k0
    | 1, hq => cases hq; exact k1
    | 2, hq => cases hq; exact k2
    | 3, hq => cases hq; exact k3
    | 4, hq => cases hq; exact k4
    | 5, hq => cases hq; exact k5
    | k + 6, hq => cases hq
  obtain ⟨cy, hKa⟩ : ∃ cy : Nat → ClassId, ∀ (k : Nat) (q : ClassId × FieldType), (gT cy)[k]? = some q → ArrOfT s q.1 q.2 ∧ va_RA s q.1 q.2 := by
    refine ⟨fun k => [y0, y1, y2, y3, y4].getD k y0, ?_⟩
    intro k q hq
    match k, hq with
    | 0, hq => cases hq; exact r0
    | 1, hq => cases hq; exact r1
    | 2, hq => cases hq; exact r2
    | 3, hq => cases hq; exact r3
    | 4, hq => cases hq; exact r4
    | k + 5, hq => cases hq
  have hK : gK D cy s := ⟨⟨hKc, hKa⟩, fun x hx => va_Nw.of (gisN_tab (List.mem_filter.mp hx).2) (htl x (List.mem_filter.mp hx).1)⟩
  have hl := lv_entry ([.ref b]) (n := 4) (Nat.le_of_ble_eq_true rfl)
  rw [lg_entry_eq]
  exact law_start hL p e s m below meth c s.heap [] _ C0 hK ⟨z3, z4⟩ (fun k q h => by cases h) ⟨fun i j p q h => (by cases h), fun k q h => (by cases h)⟩ va_S.rf hl
