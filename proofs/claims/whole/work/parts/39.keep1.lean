/-! the invariant and the relation are kept: numbers of modules, strings, exchange, search -/
theorem Inv_set {σ σ' : Nat → Int → Int} (h : Inv σ) (hB' : Bd σ') (hL' : LC σ') (e1 : σ' 0 1 = σ 0 1) (e2 : σ' 0 2 = σ 0 2) (e6 : σ' 6 = σ 6) (e7 : σ' 7 = σ 7) (e9 : σ' 9 = σ 9) (e10 : σ' 10 = σ 10) (e12 : σ' 12 = σ 12) (h45 : ∀ i, σ 0 1 ≤ i → σ' 4 i = 0 ∧ σ' 5 i = 1) : Inv σ' := by
  obtain ⟨hB, hL, hP, hU, hz, hu, hO, h12, h9⟩ := h
  refine ⟨hB', hL', ?_, ?_, ?_, ?_, ?_, ?_, ?_⟩
  · rw [e9, e10]; exact Pos_cg hP e1 e2 e6 e7
  · unfold Unu; rw [e1, e9, e10]; exact hU
  · rw [e2, e6]; exact hz
  · rw [e1]; exact h45
  · unfold off; rw [e1, e2, e6]; exact hO
  · rw [e12]; exact h12
  · rw [e9]; exact h9
theorem Bd_r3 {σ σ' : Nat → Int → Int} (hB : Bd σ) (e0 : ∀ k : Int, k = 0 ∨ k = 1 ∨ k = 2 → σ' 0 k = σ 0 k) (e1 : σ' 1 = σ 1) (e2 : σ' 2 = σ 2) (e4 : σ' 4 = σ 4) (e5 : σ' 5 = σ 5) (e6 : σ' 6 = σ 6) (e7 : σ' 7 = σ 7) (h3 : ∀ i, 0 ≤ σ' 3 i ∧ σ' 3 i ≤ 1200) : Bd σ' := by
  unfold Bd
  rw [e0 0 (by omega), e0 1 (by omega), e0 2 (by omega), e1, e2, e4, e5, e6, e7]
  exact ⟨hB.1, hB.2.1, hB.2.2.1, hB.2.2.2.1, hB.2.2.2.2.1, h3, hB.2.2.2.2.2.2.1, hB.2.2.2.2.2.2.2.1, hB.2.2.2.2.2.2.2.2.1, hB.2.2.2.2.2.2.2.2.2⟩
theorem LC_ilm {σ : Nat → Int → Int} (hL : LC σ) (m z : Int) : LC (ilm σ m z) := by
  intro i
  show zup (σ 8) m (z * σ 1 m / 1000) i = zup (σ 3) m z i * σ 1 i / 1000
  unfold zup
  by_cases h : i = m
  · subst h; rw [if_pos rfl, if_pos rfl]
  · rw [if_neg h, if_neg h]; exact hL i
theorem keep_setIrr {σ τ : Nat → Int → Int} (h : Inv σ) (hr : Rel σ τ) (m z : Int) : Inv (t_setIrr σ m z) ∧ Rel (t_setIrr σ m z) (u_setIrr τ m z) := by
  unfold t_setIrr u_setIrr
  rw [hr.2.1]
  by_cases q : (0 ≤ m ∧ m < σ 0 1) ∧ (0 ≤ z ∧ z ≤ 1200)
  · rw [if_pos q, if_pos q]
    constructor
    · exact Inv_set h (Bd_r3 h.1 (fun _ _ => rfl) rfl rfl rfl rfl rfl rfl (zup_b h.1.2.2.2.2.2.1 q.2)) (LC_ilm h.2.1 m z) rfl rfl rfl rfl rfl rfl rfl h.2.2.2.2.2.1
    · obtain ⟨h0, h1, h2, r1, r2, r3, r4, r5, r5b, r6, r7, r11⟩ := hr
      refine ⟨h0, h1, h2, r1, r2, ?_, r4, r5, r5b, r6, r7, r11⟩
      show zup (τ 3) m z = zup (σ 3) m z
      rw [r3]
  · rw [if_neg q, if_neg q]
    exact ⟨h, hr⟩
theorem keep_shade {σ τ : Nat → Int → Int} (h : Inv σ) (hr : Rel σ τ) (a b q : Int) : Inv (t_shade σ a b q) ∧ Rel (t_shade σ a b q) (u_shade τ a b q) := by
  unfold t_shade u_shade
  rw [hr.2.1]
  by_cases c : ((0 ≤ a ∧ a < σ 0 1) ∧ (0 ≤ b ∧ b < σ 0 1)) ∧ (a ≤ b ∧ 0 ≤ q ∧ q ≤ 100)
  · rw [if_pos c, if_pos c]
    constructor
    · exact Inv_set h (h.1.shS a (b + 1) c.2.2) (fun i => rfl) rfl rfl rfl rfl rfl rfl rfl h.2.2.2.2.2.1
    · obtain ⟨h0, h1, h2, r1, r2, r3, r4, r5, r5b, r6, r7, r11⟩ := hr
      refine ⟨h0, h1, h2, r1, r2, ?_, r4, r5, r5b, r6, r7, r11⟩
      show shR (τ 3) a (b + 1) q = shR (σ 3) a (b + 1) q
      rw [r3]
  · rw [if_neg c, if_neg c]
    exact ⟨h, hr⟩
theorem Bd_r4 {σ : Nat → Int → Int} (hB : Bd σ) {m z : Int} (hz : 0 ≤ z ∧ z ≤ 5000) : Bd (up σ 4 m z) := ⟨hB.1, hB.2.1, hB.2.2.1, hB.2.2.2.1, hB.2.2.2.2.1, hB.2.2.2.2.2.1, zup_b hB.2.2.2.2.2.2.1 hz, hB.2.2.2.2.2.2.2⟩
theorem Bd_r5 {σ : Nat → Int → Int} (hB : Bd σ) {m z : Int} (hz : 0 ≤ z ∧ z ≤ 1) : Bd (up σ 5 m z) := ⟨hB.1, hB.2.1, hB.2.2.1, hB.2.2.2.1, hB.2.2.2.2.1, hB.2.2.2.2.2.1, hB.2.2.2.2.2.2.1, zup_b hB.2.2.2.2.2.2.2.1 hz, hB.2.2.2.2.2.2.2.2⟩
theorem Bd_r0 {σ : Nat → Int → Int} (hB : Bd σ) {z : Int} (hz : 0 ≤ z ∧ z ≤ 20) : Bd (up σ 0 0 z) := by
  refine ⟨?_, hB.2.1, hB.2.2.1, hB.2.2.2⟩
  show 0 ≤ zup (σ 0) 0 z 0 ∧ zup (σ 0) 0 z 0 ≤ 20
  rw [zup_s]
  exact hz
theorem keep_setRes {σ τ : Nat → Int → Int} (h : Inv σ) (hr : Rel σ τ) (m z : Int) : Inv (t_setRes σ m z) ∧ Rel (t_setRes σ m z) (t_setRes τ m z) := by
  unfold t_setRes
  rw [hr.2.1]
  by_cases q : (0 ≤ m ∧ m < σ 0 1) ∧ (0 ≤ z ∧ z ≤ 5000)
  · rw [if_pos q, if_pos q]
    constructor
    · refine Inv_set h (Bd_r4 h.1 q.2) (fun i => h.2.1 i) rfl rfl rfl rfl rfl rfl rfl (fun i hi => ?_)
      have := h.2.2.2.2.2.1 i hi
      refine ⟨?_, this.2⟩
      show zup (σ 4) m z i = 0
      rw [zup_n _ _ (by omega)]
      exact this.1
    · obtain ⟨h0, h1, h2, r1, r2, r3, r4, r5, r5b, r6, r7, r11⟩ := hr
      refine ⟨h0, h1, h2, r1, r2, r3, ?_, r5, r5b, r6, r7, r11⟩
      show zup (τ 4) m z = zup (σ 4) m z
      rw [r4]
  · rw [if_neg q, if_neg q]
    exact ⟨h, hr⟩
theorem keep_setDio {σ τ : Nat → Int → Int} (h : Inv σ) (hr : Rel σ τ) (m b : Int) (hb : b = 0 ∨ b = 1) : Inv (t_setDio σ m b) ∧ Rel (t_setDio σ m b) (u_setDio τ m b) := by
  unfold t_setDio u_setDio
  rw [hr.2.1]
  by_cases q : 0 ≤ m ∧ m < σ 0 1
  · rw [if_pos q, if_pos q]
    have key : ∀ σ' : Nat → Int → Int, (∀ f, f ≠ 5 → σ' f = σ f) → (∀ i, σ' 5 i = if i = m then b else σ 5 i) → Rel σ' (up τ 5 m b) := by
      intro σ' hf h5
      obtain ⟨h0, h1, h2, r1, r2, r3, r4, r5, r5b, r6, r7, r11⟩ := hr
      unfold Rel
      rw [hf 0 (by decide), hf 1 (by decide), hf 2 (by decide), hf 3 (by decide), hf 4 (by decide), hf 6 (by decide), hf 7 (by decide), hf 12 (by decide)]
      refine ⟨h0, h1, h2, r1, r2, r3, r4, fun i q1 q2 => ?_, zup_b r5b (by omega), r6, r7, r11⟩
      rw [h5]
      show zup (τ 5) m b i = _
      unfold zup
      split
      · rfl
      · exact r5 i q1 q2
    by_cases e : σ 5 m = b
    · rw [if_pos e]
      refine ⟨h, key σ (fun _ _ => rfl) (fun i => ?_)⟩
      split
      · subst_vars; rfl
      · rfl
    · rw [if_neg e]
      refine ⟨Inv_set h (Bd_r5 h.1 (by omega)) (fun i => h.2.1 i) rfl rfl rfl rfl rfl rfl rfl (fun i hi => ?_), key _ (fun f hf => up_o _ _ _ hf) (fun i => rfl)⟩
      have := h.2.2.2.2.2.1 i hi
      refine ⟨this.1, ?_⟩
      show zup (σ 5) m b i = 1
      rw [zup_n _ _ (by omega)]
      exact this.2
  · rw [if_neg q, if_neg q]
    exact ⟨h, hr⟩
theorem a_setDio_eq {σ τ : Nat → Int → Int} (hr : Rel σ τ) (m b : Int) : a_setDio τ m b = a_setDio σ m b := by
  unfold a_setDio
  rw [hr.2.1]
  by_cases q : 0 ≤ m ∧ m < σ 0 1
  · rw [if_pos q, if_pos q, hr.2.2.2.2.2.2.2.1 m q.1 q.2]
  · rw [if_neg q, if_neg q]
theorem keep_setDrop {σ τ : Nat → Int → Int} (h : Inv σ) (hr : Rel σ τ) (z : Int) : Inv (t_setDrop σ z) ∧ Rel (t_setDrop σ z) (t_setDrop τ z) := by
  unfold t_setDrop
  by_cases q : 0 ≤ z ∧ z ≤ 20
  · rw [if_pos q, if_pos q]
    constructor
    · exact Inv_set h (Bd_r0 h.1 q) (fun i => h.2.1 i) rfl rfl rfl rfl rfl rfl rfl h.2.2.2.2.2.1
    · obtain ⟨h0, h1, h2, r1, r2, r3, r4, r5, r5b, r6, r7, r11⟩ := hr
      refine ⟨?_, h1, h2, r1, r2, r3, r4, r5, r5b, r6, r7, r11⟩
      show zup (τ 0) 0 z 0 = zup (σ 0) 0 z 0
      rw [zup_s, zup_s]
  · rw [if_neg q, if_neg q]
    exact ⟨h, hr⟩
theorem keep_addStr {σ τ : Nat → Int → Int} (h : Inv σ) (hr : Rel σ τ) : Inv (t_addStr σ) ∧ Rel (t_addStr σ) (u_addStr τ) := by
  unfold t_addStr u_addStr
  rw [hr.2.2.1]
  by_cases q : σ 0 2 < 6
  · rw [if_pos q, if_pos q]
    obtain ⟨hB, hL, hP, hU, hz, hu, hO, h12, h9⟩ := h
    have hc := hB.sc
    have e02 : up σ 0 2 (σ 0 2 + 1) 0 2 = σ 0 2 + 1 := by rw [up_r, zup_s]
    have e6 := hz (σ 0 2) (Int.le_refl _)
    constructor
    · refine ⟨⟨hB.1, hB.2.1, ?_, hB.2.2.2⟩, hL, ?_, hU, ?_, hu, ?_, h12, h9⟩
      · rw [e02]; omega
      · refine ⟨fun i q1 q2 => ?_, fun s p q1 q2 q3 q4 => ?_⟩
        · have := hP.1 i q1 q2
          rw [e02]
          exact ⟨⟨this.1.1, by have := this.1.2; show σ 9 i < σ 0 2 + 1; omega⟩, this.2⟩
        · rw [e02] at q2
          by_cases e : s = σ 0 2
          · subst e
            have q4 : p < σ 6 (σ 0 2) := q4
            omega
          · exact hP.2 s p q1 (by omega) q3 q4
      · intro s hs
        rw [e02] at hs
        exact hz s (by omega)
      · rw [e02]
        show off σ (σ 0 2 + 1) = σ 0 1
        rw [off_s _ hc.1, e6, hO]
        omega
    · obtain ⟨h0, h1, h2, r1, r2, r3, r4, r5, r5b, r6, r7, r11⟩ := hr
      refine ⟨h0, h1, ?_, r1, r2, r3, r4, r5, r5b, ?_, r7, r11⟩
      · rw [e02, up_r, zup_s]
      · show zup (τ 6) (σ 0 2) 0 = σ 6
        rw [r6]
        funext s
        unfold zup
        by_cases e : s = σ 0 2
        · subst e; rw [if_pos rfl, e6]
        · rw [if_neg e]
  · rw [if_neg q, if_neg q]
    exact ⟨h, hr⟩
theorem keep_exc {σ τ : Nat → Int → Int} (h : Inv σ) (hr : Rel σ τ) {a b : Int} (ha : 0 ≤ a ∧ a < σ 0 1) (hb : 0 ≤ b ∧ b < σ 0 1) : Inv (exc σ a b) ∧ Rel (exc σ a b) (xcM τ (σ 9) (σ 10) a b) := by
  obtain ⟨hB, hL, hP, hU, hz, hu, hO, h12, h9⟩ := h
  constructor
  · refine ⟨hB.exc ha hb, hL.exc a b, Pos_exc hB hP ha hb, fun i hi => ?_, hz, hu, hO, h12, fun i => ?_⟩
    · have hi : i < 0 ∨ σ 0 1 ≤ i := hi
      have := hU i hi
      constructor
      · show zup (zup (σ 9) a (σ 9 b)) b (σ 9 a) i = 0
        rw [zup_n _ _ (by omega), zup_n _ _ (by omega)]; exact this.1
      · show zup (zup (σ 10) a (σ 10 b)) b (σ 10 a) i = 0
        rw [zup_n _ _ (by omega), zup_n _ _ (by omega)]; exact this.2
    · exact zup_b (zup_b h9 (h9 b)) (h9 a) i
  · have hPt := Rel_Pos hr hP
    have e7 : xcM τ (σ 9) (σ 10) a b 7 = exc σ a b 7 := by
      rw [xcM_7 hPt (by rw [hr.2.1]; exact ha) (by rw [hr.2.1]; exact hb), exc_7, hr.2.2.2.2.2.2.2.2.2.2.1]
    obtain ⟨h0, h1, h2, r1, r2, r3, r4, r5, r5b, r6, r7, r11⟩ := hr
    exact ⟨h0, h1, h2, r1, r2, r3, r4, r5, r5b, r6, e7, r11⟩
theorem keep_swap {σ τ ρ : Nat → Int → Int} (h : Inv σ) (hr : Rel σ τ) (hx : Sx τ ρ) : Inv (n_swap σ) ∧ Rel (n_swap σ) ρ := by
  have hr2 := Rel_Sx hr hx
  have e0 : n_swap σ 0 0 = σ 0 0 := fbS_0 _ _ _ _ _ (by omega)
  have e1 : n_swap σ 0 1 = σ 0 1 := fbS_0 _ _ _ _ _ (by omega)
  have e2 : n_swap σ 0 2 = σ 0 2 := fbS_0 _ _ _ _ _ (by omega)
  constructor
  · exact Inv_set h (Bd_fbS h.1 _ _ _ _) (LC_fbS h.2.1 _ _ _ _) e1 e2 rfl rfl rfl rfl rfl h.2.2.2.2.2.1
  · unfold Rel
    rw [e0, e1, e2]
    exact hr2
