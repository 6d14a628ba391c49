/-! the invariant and the relation are kept: a module placed last, moved, added; regrouping -/
def PosX (g : Nat → Int → Int) (st po : Int → Int) (m : Int) : Prop :=
  (∀ i, 0 ≤ i → i < g 0 1 → i ≠ m → (0 ≤ st i ∧ st i < g 0 2) ∧ (0 ≤ po i ∧ po i < g 6 (st i)) ∧ g 7 (12 * st i + po i) = i) ∧
  (∀ s p, 0 ≤ s → s < g 0 2 → 0 ≤ p → p < g 6 s → (0 ≤ g 7 (12 * s + p) ∧ g 7 (12 * s + p) < g 0 1) ∧ g 7 (12 * s + p) ≠ m ∧ st (g 7 (12 * s + p)) = s ∧ po (g 7 (12 * s + p)) = p)
theorem plL_6 (g : Nat → Int → Int) (m s : Int) : plL g m s 6 = zup (g 6) s (g 6 s + 1) := rfl
theorem plL_7 (g : Nat → Int → Int) (m s : Int) : plL g m s 7 = zup (g 7) (12 * s + g 6 s) m := rfl
theorem plL_9 (g : Nat → Int → Int) (m s : Int) : plL g m s 9 = zup (g 9) m s := rfl
theorem plL_10 (g : Nat → Int → Int) (m s : Int) : plL g m s 10 = zup (g 10) m (g 6 s) := rfl
theorem Pos_add {g : Nat → Int → Int} (h6 : ∀ s, 0 ≤ g 6 s ∧ g 6 s ≤ 12) {m s : Int} (hX : PosX g (g 9) (g 10) m) (hm : 0 ≤ m ∧ m < g 0 1) (hs : 0 ≤ s ∧ s < g 0 2) (hc : g 6 s < 12) : Pos (plL g m s) (plL g m s 9) (plL g m s 10) := by
  have hs6 := h6 s
  refine ⟨fun i q1 q2 => ?_, fun t p q1 q2 q3 q4 => ?_⟩
  · have q2 : i < g 0 1 := q2
    show (0 ≤ plL g m s 9 i ∧ plL g m s 9 i < g 0 2) ∧ (0 ≤ plL g m s 10 i ∧ plL g m s 10 i < plL g m s 6 (plL g m s 9 i)) ∧ plL g m s 7 (12 * plL g m s 9 i + plL g m s 10 i) = i
    rw [plL_6, plL_7, plL_9, plL_10]
    by_cases e : i = m
    · subst e
      rw [zup_s, zup_s, zup_s, zup_s]
      exact ⟨hs, ⟨hs6.1, by omega⟩, rfl⟩
    · rw [zup_n _ _ e, zup_n _ _ e]
      have hi := hX.1 i q1 q2 e
      have hti := h6 (g 9 i)
      refine ⟨hi.1, ⟨hi.2.1.1, ?_⟩, ?_⟩
      · unfold zup
        split
        · rename_i e2
          have := hi.2.1.2
          rw [e2] at this
          omega
        · exact hi.2.1.2
      · rw [zup_n]
        · exact hi.2.2
        · intro e2
          have h1 : g 9 i = s := by omega
          have := hi.2.1.2
          rw [h1] at this
          omega
  · have q2 : t < g 0 2 := q2
    have q4 : p < zup (g 6) s (g 6 s + 1) t := q4
    have ht := h6 t
    show (0 ≤ plL g m s 7 (12 * t + p) ∧ plL g m s 7 (12 * t + p) < g 0 1) ∧ plL g m s 9 (plL g m s 7 (12 * t + p)) = t ∧ plL g m s 10 (plL g m s 7 (12 * t + p)) = p
    rw [plL_7, plL_9, plL_10]
    by_cases e : t = s ∧ p = g 6 s
    · obtain ⟨e1, e2⟩ := e
      subst e1; subst e2
      rw [zup_s, zup_s, zup_s]
      exact ⟨hm, rfl, rfl⟩
    · have q5 : p < g 6 t := by
        unfold zup at q4
        split at q4
        · rename_i e1
          subst e1
          omega
        · exact q4
      have hne : 12 * t + p ≠ 12 * s + g 6 s := by
        intro e2
        have : t = s := by omega
        subst this
        omega
      rw [zup_n _ _ hne]
      have hi := hX.2 t p q1 q2 q3 q5
      rw [zup_n _ _ hi.2.1, zup_n _ _ hi.2.1]
      exact ⟨hi.1, hi.2.2⟩
theorem off_up (g : Nat → Int → Int) {k n : Int} (v : Int) (hk : 0 ≤ k ∧ k < n) : sumP (zup (g 6) k v) n.toNat = off g n - g 6 k + v := by
  have := sumP_zup (fun x => x) (g 6) (v := v) hk.1 n.toNat (by omega)
  exact this
/-- a module taken out -/
theorem PosX_tk {σ : Nat → Int → Int} (hB : Bd σ) (hP : Pos σ (σ 9) (σ 10)) {m : Int} (hm : 0 ≤ m ∧ m < σ 0 1) : PosX (tkP σ (σ 9 m) (σ 10 m) (σ 6 (σ 9 m) - 1)) (tkP σ (σ 9 m) (σ 10 m) (σ 6 (σ 9 m) - 1) 9) (tkP σ (σ 9 m) (σ 10 m) (σ 6 (σ 9 m) - 1) 10) m := by
  have em := hP.1 m hm.1 hm.2
  have bt := hB.b6 (σ 9 m)
  generalize ht : σ 9 m = t at em bt ⊢
  generalize hp0 : σ 10 m = p0 at em ⊢
  generalize hc : σ 6 t = c at em bt ⊢
  have h6 : ∀ s, tkP σ t p0 (c - 1) 6 s = if s = t then c - 1 else σ 6 s := fun s => by rw [tk6, hc]
  have h7 : ∀ j, tkP σ t p0 (c - 1) 7 j = if 12 * t + p0 ≤ j ∧ j < 12 * t + (c - 1) then σ 7 (j + 1) else σ 7 j := fun j => rfl
  have h10 : ∀ i, tkP σ t p0 (c - 1) 10 i = if σ 9 i = t ∧ p0 < σ 10 i ∧ σ 10 i ≤ c - 1 then σ 10 i - 1 else σ 10 i := fun i => rfl
  refine ⟨fun i q1 q2 q3 => ?_, fun s p q1 q2 q3 q4 => ?_⟩
  · have q2 : i < σ 0 1 := q2
    have ei := hP.1 i q1 q2
    have bi := hB.b6 (σ 9 i)
    show (0 ≤ σ 9 i ∧ σ 9 i < σ 0 2) ∧ (0 ≤ tkP σ t p0 (c - 1) 10 i ∧ tkP σ t p0 (c - 1) 10 i < tkP σ t p0 (c - 1) 6 (σ 9 i)) ∧ tkP σ t p0 (c - 1) 7 (12 * σ 9 i + tkP σ t p0 (c - 1) 10 i) = i
    rw [h6, h10, h7]
    refine ⟨ei.1, ?_⟩
    by_cases e1 : σ 9 i = t
    · have hne : σ 10 i ≠ p0 := by
        intro e2
        apply q3
        rw [← ei.2.2, e1, e2, em.2.2]
      have ec : σ 10 i < c := by rw [← hc, ← e1]; exact ei.2.1.2
      rw [if_pos e1]
      by_cases e2 : p0 < σ 10 i
      · rw [if_pos ⟨e1, e2, by omega⟩]
        refine ⟨by omega, ?_⟩
        rw [e1, if_pos (by omega), show 12 * t + (σ 10 i - 1) + 1 = 12 * t + σ 10 i by omega]
        have := ei.2.2
        rw [e1] at this
        exact this
      · rw [if_neg (by omega)]
        refine ⟨by omega, ?_⟩
        rw [e1, if_neg (by omega)]
        have := ei.2.2
        rw [e1] at this
        exact this
    · rw [if_neg e1, if_neg (by omega)]
      refine ⟨ei.2.1, ?_⟩
      rw [if_neg (by omega)]
      exact ei.2.2
  · have q2 : s < σ 0 2 := q2
    rw [h6] at q4
    have bs := hB.b6 s
    show (0 ≤ tkP σ t p0 (c - 1) 7 (12 * s + p) ∧ tkP σ t p0 (c - 1) 7 (12 * s + p) < σ 0 1) ∧ tkP σ t p0 (c - 1) 7 (12 * s + p) ≠ m ∧ σ 9 (tkP σ t p0 (c - 1) 7 (12 * s + p)) = s ∧ tkP σ t p0 (c - 1) 10 (tkP σ t p0 (c - 1) 7 (12 * s + p)) = p
    rw [h10, h7]
    by_cases e1 : s = t
    · rw [if_pos e1] at q4
      subst e1
      by_cases e2 : p0 ≤ p
      · rw [if_pos (by omega)]
        have ex := hP.2 s (p + 1) q1 q2 (by omega) (by omega)
        rw [← Int.add_assoc] at ex
        refine ⟨ex.1, ?_, ex.2.1, ?_⟩
        · intro e3
          rw [e3] at ex
          omega
        · rw [if_pos (by omega)]
          omega
      · rw [if_neg (by omega)]
        have ex := hP.2 s p q1 q2 q3 (by omega)
        refine ⟨ex.1, ?_, ex.2.1, ?_⟩
        · intro e3
          rw [e3] at ex
          omega
        · rw [if_neg (by omega)]
          exact ex.2.2
    · rw [if_neg e1] at q4
      rw [if_neg (by omega)]
      have ex := hP.2 s p q1 q2 q3 q4
      refine ⟨ex.1, ?_, ex.2.1, ?_⟩
      · intro e3
        rw [e3] at ex
        omega
      · rw [if_neg (by omega)]
        exact ex.2.2
theorem shft_b {r : Int → Int} (h : ∀ j, 0 ≤ r j ∧ r j ≤ 23) (a b : Int) : ∀ j, 0 ≤ shft r a b j ∧ shft r a b j ≤ 23 := by
  intro j
  unfold shft
  split
  · exact h _
  · exact h _
theorem keep_move {σ τ : Nat → Int → Int} (h : Inv σ) (hr : Rel σ τ) {m s : Int} (ok : ok_move σ (σ 9) m s) : Inv (n_move σ m s) ∧ Rel (n_move σ m s) (u_move τ (σ 9) (σ 10) m s) := by
  obtain ⟨hB, hL, hP, hU, hz, hu, hO, h12, h9⟩ := h
  obtain ⟨hm, hs, hf⟩ := ok
  have em := hP.1 m hm.1 hm.2
  have bt := hB.b6 (σ 9 m)
  have bs := hB.b6 s
  have hmc := hB.mc
  have hsc := hB.sc
  have hg6 : ∀ x, 0 ≤ tkP σ (σ 9 m) (σ 10 m) (σ 6 (σ 9 m) - 1) 6 x ∧ tkP σ (σ 9 m) (σ 10 m) (σ 6 (σ 9 m) - 1) 6 x ≤ 12 := by
    intro x
    have := hB.b6 x
    rw [tk6]
    split <;> omega
  have hcs := tk6_b (σ := σ) (t := σ 9 m) (s := s) (σ 10 m) (σ 6 (σ 9 m) - 1) (by omega) bs.1 hf
  have hX := PosX_tk hB hP hm
  constructor
  · refine ⟨?_, hL, ?_, ?_, ?_, hu, ?_, h12, ?_⟩
    · refine ⟨hB.1, hB.2.1, hB.2.2.1, hB.2.2.2.1, hB.2.2.2.2.1, hB.2.2.2.2.2.1, hB.2.2.2.2.2.2.1, hB.2.2.2.2.2.2.2.1, ?_, ?_⟩
      · exact zup_b (B := 12) hg6 (by omega)
      · exact zup_b (shft_b hB.2.2.2.2.2.2.2.2.2 _ _) (by omega)
    · exact Pos_add hg6 hX hm hs hcs.2
    · intro i hi
      have hi : i < 0 ∨ σ 0 1 ≤ i := hi
      have ei := hU i hi
      constructor
      · show zup (σ 9) m s i = 0
        rw [zup_n _ _ (by omega)]; exact ei.1
      · show zup (tkP σ (σ 9 m) (σ 10 m) (σ 6 (σ 9 m) - 1) 10) m _ i = 0
        rw [zup_n _ _ (by omega)]
        show (if σ 9 i = σ 9 m ∧ σ 10 m < σ 10 i ∧ σ 10 i ≤ σ 6 (σ 9 m) - 1 then σ 10 i - 1 else σ 10 i) = 0
        rw [if_neg (by omega)]; exact ei.2
    · intro x hx
      have hx : σ 0 2 ≤ x := hx
      show zup (zup (σ 6) (σ 9 m) (σ 6 (σ 9 m) - 1)) s _ x = 0
      rw [zup_n _ _ (by omega), zup_n _ _ (by omega)]
      exact hz x hx
    · show sumP (zup (tkP σ (σ 9 m) (σ 10 m) (σ 6 (σ 9 m) - 1) 6) s (tkP σ (σ 9 m) (σ 10 m) (σ 6 (σ 9 m) - 1) 6 s + 1)) (σ 0 2).toNat = σ 0 1
      rw [off_up _ _ hs]
      have e2 : off (tkP σ (σ 9 m) (σ 10 m) (σ 6 (σ 9 m) - 1)) (σ 0 2) = off σ (σ 0 2) - σ 6 (σ 9 m) + (σ 6 (σ 9 m) - 1) := off_up σ _ em.1
      rw [e2, hO]
      omega
    · exact zup_b h9 (by omega)
  · obtain ⟨h0, h1, h2, r1, r2, r3, r4, r5, r5b, r6, r7, r11⟩ := hr
    have e6 : rmP τ (σ 9 m) (12 * σ 9 m + σ 10 m) (12 * σ 9 m + τ 6 (σ 9 m) - 1) 6 = tkP σ (σ 9 m) (σ 10 m) (σ 6 (σ 9 m) - 1) 6 := by
      show zup (τ 6) (σ 9 m) (τ 6 (σ 9 m) - 1) = zup (σ 6) (σ 9 m) (σ 6 (σ 9 m) - 1)
      rw [r6]
    have e7 : rmP τ (σ 9 m) (12 * σ 9 m + σ 10 m) (12 * σ 9 m + τ 6 (σ 9 m) - 1) 7 = tkP σ (σ 9 m) (σ 10 m) (σ 6 (σ 9 m) - 1) 7 := by
      show shft (τ 7) (12 * σ 9 m + σ 10 m) (12 * σ 9 m + τ 6 (σ 9 m) - 1) = shft (σ 7) (12 * σ 9 m + σ 10 m) (12 * σ 9 m + (σ 6 (σ 9 m) - 1))
      rw [r6, r7, show 12 * σ 9 m + σ 6 (σ 9 m) - 1 = 12 * σ 9 m + (σ 6 (σ 9 m) - 1) by omega]
    refine ⟨h0, h1, h2, r1, r2, r3, r4, r5, r5b, ?_, ?_, r11⟩
    · show zup (rmP τ (σ 9 m) (12 * σ 9 m + σ 10 m) (12 * σ 9 m + τ 6 (σ 9 m) - 1) 6) s (rmP τ (σ 9 m) (12 * σ 9 m + σ 10 m) (12 * σ 9 m + τ 6 (σ 9 m) - 1) 6 s + 1) = zup (tkP σ (σ 9 m) (σ 10 m) (σ 6 (σ 9 m) - 1) 6) s (tkP σ (σ 9 m) (σ 10 m) (σ 6 (σ 9 m) - 1) 6 s + 1)
      rw [e6]
    · show zup (rmP τ (σ 9 m) (12 * σ 9 m + σ 10 m) (12 * σ 9 m + τ 6 (σ 9 m) - 1) 7) (12 * s + rmP τ (σ 9 m) (12 * σ 9 m + σ 10 m) (12 * σ 9 m + τ 6 (σ 9 m) - 1) 6 s) m = zup (tkP σ (σ 9 m) (σ 10 m) (σ 6 (σ 9 m) - 1) 7) (12 * s + tkP σ (σ 9 m) (σ 10 m) (σ 6 (σ 9 m) - 1) 6 s) m
      rw [e6, e7]
theorem a_move_eq {σ τ : Nat → Int → Int} (hr : Rel σ τ) (m s : Int) : a_move τ (σ 9) m s = a_move σ (σ 9) m s ∧ (ok_move τ (σ 9) m s ↔ ok_move σ (σ 9) m s) := by
  unfold a_move ok_move
  rw [hr.2.1, hr.2.2.1, hr.2.2.2.2.2.2.2.2.2.1]
  exact ⟨rfl, Iff.rfl⟩
theorem a_addMod_eq {σ τ : Nat → Int → Int} (hr : Rel σ τ) (s r o : Int) : a_addMod τ s r o = a_addMod σ s r o ∧ (ok_addMod τ s r o ↔ ok_addMod σ s r o) := by
  unfold a_addMod ok_addMod
  rw [hr.2.1, hr.2.2.1, hr.2.2.2.2.2.2.2.2.2.1]
  exact ⟨rfl, Iff.rfl⟩
theorem keep_addMod {σ τ : Nat → Int → Int} (h : Inv σ) (hr : Rel σ τ) {s r o : Int} (ok : ok_addMod σ s r o) : Inv (n_addMod σ s r o) ∧ Rel (n_addMod σ s r o) (u_addMod τ s r o) := by
  obtain ⟨hB, hL, hP, hU, hz, hu, hO, h12, h9⟩ := h
  obtain ⟨hs, ⟨hrr, ho⟩, hmc, hc⟩ := ok
  have bs := hB.b6 s
  have bm := hB.mc
  have bsc := hB.sc
  have hg6 : ∀ x, 0 ≤ σ 6 x ∧ σ 6 x ≤ 12 := hB.2.2.2.2.2.2.2.2.1
  have e01 : n_addMod σ s r o 0 1 = σ 0 1 + 1 := by
    show zup (σ 0) 1 (σ 0 1 + 1) 1 = _
    rw [zup_s]
  constructor
  · refine ⟨?_, ?_, ?_, ?_, ?_, ?_, ?_, h12, ?_⟩
    · refine ⟨hB.1, by rw [e01]; omega, hB.2.2.1, zup_b hB.2.2.2.1 (by omega), zup_b hB.2.2.2.2.1 (by omega), zup_b hB.2.2.2.2.2.1 (by omega), hB.2.2.2.2.2.2.1, hB.2.2.2.2.2.2.2.1, zup_b hg6 (show 0 ≤ σ 6 s + 1 ∧ σ 6 s + 1 ≤ 12 by omega), zup_b hB.2.2.2.2.2.2.2.2.2 (by omega)⟩
    · intro i
      show zup (σ 8) (σ 0 1) (1000 * zup (σ 1) (σ 0 1) r (σ 0 1) / 1000) i = zup (σ 3) (σ 0 1) 1000 i * zup (σ 1) (σ 0 1) r i / 1000
      rw [zup_s]
      unfold zup
      by_cases e : i = σ 0 1
      · rw [if_pos e, if_pos e, if_pos e]
      · rw [if_neg e, if_neg e, if_neg e]; exact hL i
    · refine Pos_add (g := ilm (up (up (up σ 0 1 (σ 0 1 + 1)) 1 (σ 0 1) r) 2 (σ 0 1) o) (σ 0 1) 1000) hg6 ⟨fun i q1 q2 q3 => ?_, fun t p q1 q2 q3 q4 => ?_⟩ ⟨bm.1, ?_⟩ hs hc
      · have q2 : i < zup (σ 0) 1 (σ 0 1 + 1) 1 := q2
        rw [zup_s] at q2
        exact hP.1 i q1 (by omega)
      · have ex := hP.2 t p q1 q2 q3 q4
        refine ⟨⟨ex.1.1, ?_⟩, ?_, ex.2.1, ex.2.2⟩
        · show σ 7 (12 * t + p) < zup (σ 0) 1 (σ 0 1 + 1) 1
          rw [zup_s]; have := ex.1.2; omega
        · intro e
          have e : σ 7 (12 * t + p) = σ 0 1 := e
          have := ex.1.2
          omega
      · show σ 0 1 < zup (σ 0) 1 (σ 0 1 + 1) 1
        rw [zup_s]; omega
    · intro i hi
      rw [e01] at hi
      have ei := hU i (by omega)
      constructor
      · show zup (σ 9) (σ 0 1) s i = 0
        rw [zup_n _ _ (by omega)]; exact ei.1
      · show zup (σ 10) (σ 0 1) (σ 6 s) i = 0
        rw [zup_n _ _ (by omega)]; exact ei.2
    · intro x hx
      have hx : σ 0 2 ≤ x := hx
      show zup (σ 6) s (σ 6 s + 1) x = 0
      rw [zup_n _ _ (by omega)]
      exact hz x hx
    · intro i hi
      rw [e01] at hi
      exact hu i (by omega)
    · rw [e01]
      show sumP (zup (σ 6) s (σ 6 s + 1)) (σ 0 2).toNat = σ 0 1 + 1
      rw [off_up _ _ hs, hO]
      omega
    · exact zup_b h9 (by omega)
  · have e5 := hu (σ 0 1) (Int.le_refl _)
    obtain ⟨h0, h1, h2, r1, r2, r3, r4, r5, r5b, r6, r7, r11⟩ := hr
    unfold Rel
    rw [e01]
    refine ⟨h0, ?_, h2, ?_, ?_, ?_, ?_, fun i q1 q2 => ?_, ?_, ?_, ?_, r11⟩
    · show zup (τ 0) 1 (τ 0 1 + 1) 1 = σ 0 1 + 1
      rw [zup_s, h1]
    · show zup (τ 1) (τ 0 1) r = zup (σ 1) (σ 0 1) r
      rw [r1, h1]
    · show zup (τ 2) (τ 0 1) o = zup (σ 2) (σ 0 1) o
      rw [r2, h1]
    · show zup (τ 3) (τ 0 1) 1000 = zup (σ 3) (σ 0 1) 1000
      rw [r3, h1]
    · show zup (τ 4) (τ 0 1) 0 = σ 4
      rw [r4, h1]
      funext i
      unfold zup
      by_cases e : i = σ 0 1
      · subst e; rw [if_pos rfl, e5.1]
      · rw [if_neg e]
    · show zup (τ 5) (τ 0 1) 1 i = σ 5 i
      rw [h1]
      by_cases e : i = σ 0 1
      · subst e; rw [zup_s, e5.2]
      · rw [zup_n _ _ e]; exact r5 i q1 (by omega)
    · exact zup_b r5b (by omega)
    · show zup (τ 6) s (τ 6 s + 1) = zup (σ 6) s (σ 6 s + 1)
      rw [r6]
    · show zup (τ 7) (12 * s + τ 6 s) (τ 0 1) = zup (σ 7) (12 * s + σ 6 s) (σ 0 1)
      rw [r6, r7, h1]
/-- regrouping -/
theorem off_in {g : Nat → Int → Int} : ∀ (n : Nat) {k : Int}, 0 ≤ k → k < off g n → ∃ s, (0 ≤ s ∧ s < n) ∧ off g s ≤ k ∧ k < off g (s + 1)
  | 0, k, h1, h2 => absurd h2 (by show ¬ k < 0; omega)
  | n + 1, k, h1, h2 => by
    by_cases q : k < off g n
    · obtain ⟨s, q1, q2⟩ := off_in n h1 q
      exact ⟨s, by omega, q2⟩
    · exact ⟨n, by omega, by omega, h2⟩
theorem RG_Pos {σ : Nat → Int → Int} (hB : Bd σ) (hO : off σ (σ 0 2) = σ 0 1) {r9 r10 : Int → Int} (h : RG σ (σ 0 1) r9 r10) : Pos (rgS σ (srtF σ) (σ 0 2) 0 r9 r10) r9 r10 := by
  have hmc := hB.mc
  have hsc := hB.sc
  have hx : ∀ k, 0 ≤ k → k < σ 0 1 → (0 ≤ sof σ k ∧ sof σ k < σ 0 2) ∧ off σ (sof σ k) ≤ k ∧ k < off σ (sof σ k + 1) := by
    intro k q1 q2
    obtain ⟨s, q3, q4, q5⟩ := off_in (g := σ) (σ 0 2).toNat q1 (by rw [show (((σ 0 2).toNat : Nat) : Int) = σ 0 2 by omega, hO]; exact q2)
    have e := sof_eq hB (s := s) (k := k) (by omega) q4 q5
    rw [e]
    exact ⟨by omega, q4, q5⟩
  refine ⟨fun i q1 q2 => ?_, fun s p q1 q2 q3 q4 => ?_⟩
  · have q2 : i < σ 0 1 := q2
    obtain ⟨k, hk, e⟩ := srt_on (ph := photo σ) (F := σ 12) (n := (σ 0 1).toNat) (i := i) (by omega)
    have e : srtF σ k = i := e
    have hk2 := hx k (by omega) (by omega)
    have hr := h.1 k (by omega) (by omega)
    rw [e] at hr
    have e6 := off_s σ hk2.1.1
    have b6 := hB.b6 (sof σ k)
    show (0 ≤ r9 i ∧ r9 i < σ 0 2) ∧ (0 ≤ r10 i ∧ r10 i < σ 6 (r9 i)) ∧ rg7 σ (srtF σ) (σ 0 2) 0 (12 * r9 i + r10 i) = i
    rw [hr.1, hr.2]
    refine ⟨hk2.1, by omega, ?_⟩
    rw [rg7_at _ hk2.1 (by omega) (by omega), show off σ (sof σ k) + (k - off σ (sof σ k)) = k by omega]
    exact e
  · have q2 : s < σ 0 2 := q2
    have q4 : p < σ 6 s := q4
    have b6 := hB.b6 s
    have e6 := off_s σ q1
    have o0 := off_0 hB s
    have ol := off_le hB (a := s + 1) (b := σ 0 2) (by omega)
    show (0 ≤ rg7 σ (srtF σ) (σ 0 2) 0 (12 * s + p) ∧ rg7 σ (srtF σ) (σ 0 2) 0 (12 * s + p) < σ 0 1) ∧ r9 (rg7 σ (srtF σ) (σ 0 2) 0 (12 * s + p)) = s ∧ r10 (rg7 σ (srtF σ) (σ 0 2) 0 (12 * s + p)) = p
    rw [rg7_at _ ⟨q1, q2⟩ (by omega) q4]
    have hi := srt_in (ph := photo σ) (F := σ 12) (n := (σ 0 1).toNat) (k := off σ s + p) (by omega)
    have hr := h.1 (off σ s + p) (by omega) (by omega)
    have e := sof_eq hB (s := s) (k := off σ s + p) (by omega) (by omega) (by omega)
    rw [e] at hr
    refine ⟨⟨hi.1, show srtR (photo σ) (σ 0 1).toNat (σ 12) (off σ s + p) < σ 0 1 by omega⟩, hr.1, ?_⟩
    rw [hr.2]
    omega
theorem sof_b {σ : Nat → Int → Int} (hB : Bd σ) (k : Int) : 0 ≤ sof σ k ∧ sof σ k ≤ 6 := by
  have hsc := hB.sc
  have := sumP_b (F := fun s => if off σ (s + 1) ≤ k then 1 else 0) (a := 0) (b := 1) (fun s => by split <;> omega) (σ 0 2).toNat
  unfold sof
  omega
theorem keep_reg {σ τ : Nat → Int → Int} (h : Inv σ) (hr : Rel σ τ) {r9 r10 : Int → Int} (hg : RG σ (σ 0 1) r9 r10) : Inv (rgS σ (srtF σ) (σ 0 2) 0 r9 r10) ∧ Rel (rgS σ (srtF σ) (σ 0 2) 0 r9 r10) (rs2 τ (sbR τ (σ 9) (τ 0 1)) (srtM τ) (rg7 τ (srtM τ) (τ 0 2) 0)) ∧ Pos (rs2 τ (sbR τ (σ 9) (τ 0 1)) (srtM τ) (rg7 τ (srtM τ) (τ 0 2) 0)) r9 r10 ∧ sumP (fun i => if r9 i = σ 9 i then 0 else 1) (τ 0 1).toNat = sumP (mvN σ (srtF σ)) (σ 0 1).toNat ∧ off τ (τ 0 2) = τ 0 1 := by
  have hB := h.1
  have hmc := hB.mc
  have hsc := hB.sc
  have hPn := RG_Pos hB h.2.2.2.2.2.2.1 hg
  have hsb := srtR_b (ph := photo σ) (B := 23) (σ 0 1).toNat (by omega) h.2.2.2.2.2.2.2.1
  have hx : ∀ k, 0 ≤ k → k < σ 0 1 → sof σ k < σ 0 2 := by
    intro k q1 q2
    obtain ⟨s, q3, q4, q5⟩ := off_in (g := σ) (σ 0 2).toNat q1 (by rw [show (((σ 0 2).toNat : Nat) : Int) = σ 0 2 by omega, h.2.2.2.2.2.2.1]; exact q2)
    rw [sof_eq hB (s := s) (k := k) (by omega) q4 q5]
    omega
  obtain ⟨hB, hL, hP, hU, hz, hu, hO, h12, h9⟩ := h
  obtain ⟨h0, h1, h2, r1, r2, r3, r4, r5, r5b, r6, r7, r11⟩ := hr
  have eph : photo τ = photo σ := SmD_photo r1 r3
  have esr : srtM τ = srtF σ := by
    unfold srtM srtF
    rw [eph, h1, r11]
  have eoff : off τ = off σ := by
    funext s
    unfold off
    rw [r6]
  have erg : rg7 τ (srtM τ) (τ 0 2) 0 = rg7 σ (srtF σ) (σ 0 2) 0 := by
    funext j
    unfold rg7
    rw [esr, eoff, h2, r6, r7]
  refine ⟨⟨?_, hL, hPn, ?_, hz, hu, hO, hsb, ?_⟩, ?_, ?_, ?_, ?_⟩
  · exact hB.row7 (fun _ _ => rfl) rfl rfl rfl rfl rfl rfl (rg7_b hB hsb _ _)
  · intro i hi
    have hi : i < 0 ∨ σ 0 1 ≤ i := hi
    have e := hg.2 i (fun k q1 q2 e => by
      have := srt_in (ph := photo σ) (F := σ 12) (n := (σ 0 1).toNat) (k := k) (by omega)
      have e : srtR (photo σ) (σ 0 1).toNat (σ 12) k = i := e
      omega)
    have := hU i hi
    show r9 i = 0 ∧ r10 i = 0
    rw [e.1, e.2]
    exact this
  · intro i
    show 0 ≤ r9 i ∧ r9 i ≤ 5
    by_cases q : 0 ≤ i ∧ i < σ 0 1
    · obtain ⟨k, hk, e⟩ := srt_on (ph := photo σ) (F := σ 12) (n := (σ 0 1).toNat) (i := i) (by omega)
      have e : srtF σ k = i := e
      have hr := (hg.1 k (by omega) (by omega)).1
      rw [e] at hr
      rw [hr]
      have b := sof_b hB k
      have := hx k (by omega) (by omega)
      omega
    · have e := hg.2 i (fun k q1 q2 e => by
        have := srt_in (ph := photo σ) (F := σ 12) (n := (σ 0 1).toNat) (k := k) (by omega)
        have e : srtR (photo σ) (σ 0 1).toNat (σ 12) k = i := e
        omega)
      rw [e.1]
      exact h9 i
  · exact ⟨h0, h1, h2, r1, r2, r3, r4, r5, r5b, r6, erg, esr⟩
  · exact Pos_cg hPn h1 h2 r6 erg
  · rw [h1]
    have e := sumP_srt (fun i => if r9 i = σ 9 i then 0 else 1) (photo σ) (σ 12) (σ 0 1).toNat
    rw [← e]
    refine sumP_cg _ (fun k q1 q2 => ?_)
    have hr := (hg.1 k q1 (by omega)).1
    show (if r9 (srtF σ k) = σ 9 (srtF σ k) then (0 : Int) else 1) = mvN σ (srtF σ) k
    unfold mvN
    rw [hr]
    by_cases c : σ 9 (srtF σ k) = sof σ k
    · rw [if_pos c, if_pos c.symm]
    · rw [if_neg c, if_neg (fun q => c q.symm)]
  · rw [eoff, h2, h1]
    exact hO
