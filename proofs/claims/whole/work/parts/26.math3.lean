/-! the places after an exchange; the state during the search; the state during a regrouping -/
theorem Pos_exc {σ : Nat → Int → Int} (hB : Bd σ) (hP : Pos σ (σ 9) (σ 10)) {a b : Int} (ha : 0 ≤ a ∧ a < σ 0 1) (hb : 0 ≤ b ∧ b < σ 0 1) : Pos (exc σ a b) (exc σ a b 9) (exc σ a b 10) := by
  have ea := hP.1 a ha.1 ha.2
  have eb := hP.1 b hb.1 hb.2
  have ba := hB.b6 (σ 9 a)
  have bb := hB.b6 (σ 9 b)
  have h9 : ∀ i, exc σ a b 9 i = if i = b then σ 9 a else if i = a then σ 9 b else σ 9 i := fun i => rfl
  have h10 : ∀ i, exc σ a b 10 i = if i = b then σ 10 a else if i = a then σ 10 b else σ 10 i := fun i => rfl
  have h7 : ∀ j, exc σ a b 7 j = if j = 12 * σ 9 a + σ 10 a then b else if j = 12 * σ 9 b + σ 10 b then a else σ 7 j := fun j => rfl
  have hne : a ≠ b → 12 * σ 9 a + σ 10 a ≠ 12 * σ 9 b + σ 10 b := fun q1 q2 => q1 (by rw [← ea.2.2, q2, eb.2.2])
  refine ⟨fun i h1 h2 => ?_, fun s p h1 h2 h3 h4 => ?_⟩
  · have h2 : i < σ 0 1 := h2
    show (0 ≤ exc σ a b 9 i ∧ exc σ a b 9 i < σ 0 2) ∧ (0 ≤ exc σ a b 10 i ∧ exc σ a b 10 i < σ 6 (exc σ a b 9 i)) ∧ exc σ a b 7 (12 * exc σ a b 9 i + exc σ a b 10 i) = i
    rw [h9, h10]
    by_cases q1 : i = b
    · rw [if_pos q1, if_pos q1, h7, if_pos rfl]
      exact ⟨ea.1, ea.2.1, q1.symm⟩
    · rw [if_neg q1, if_neg q1]
      by_cases q2 : i = a
      · rw [if_pos q2, if_pos q2, h7]
        subst q2
        rw [if_neg (fun q => hne q1 q.symm), if_pos rfl]
        exact ⟨eb.1, eb.2.1, rfl⟩
      · rw [if_neg q2, if_neg q2, h7]
        have ei := hP.1 i h1 h2
        rw [if_neg (fun q => q2 (by rw [← ei.2.2, q, ea.2.2])), if_neg (fun q => q1 (by rw [← ei.2.2, q, eb.2.2]))]
        exact ei
  · have h2 : s < σ 0 2 := h2
    have h4 : p < σ 6 s := h4
    have hs := hB.b6 s
    show (0 ≤ exc σ a b 7 (12 * s + p) ∧ exc σ a b 7 (12 * s + p) < σ 0 1) ∧ exc σ a b 9 (exc σ a b 7 (12 * s + p)) = s ∧ exc σ a b 10 (exc σ a b 7 (12 * s + p)) = p
    rw [h7]
    by_cases q1 : 12 * s + p = 12 * σ 9 a + σ 10 a
    · rw [if_pos q1, h9, h10, if_pos rfl, if_pos rfl]
      omega
    · rw [if_neg q1]
      by_cases q2 : 12 * s + p = 12 * σ 9 b + σ 10 b
      · rw [if_pos q2, h9, h10]
        by_cases q3 : a = b
        · subst q3; omega
        · rw [if_neg q3, if_neg q3, if_pos rfl, if_pos rfl]; omega
      · rw [if_neg q2, h9, h10]
        have ei := hP.2 s p h1 h2 h3 h4
        have n1 : σ 7 (12 * s + p) ≠ b := fun q => q2 (by rw [q] at ei; rw [ei.2.1, ei.2.2])
        have n2 : σ 7 (12 * s + p) ≠ a := fun q => q1 (by rw [q] at ei; rw [ei.2.1, ei.2.2])
        rw [if_neg n1, if_neg n1, if_neg n2, if_neg n2]
        exact ei
/-- the state during the search for the best exchange -/
def pbR (σ : Nat → Int → Int) (n : Int) : Int → Int := fun s => if 0 ≤ s ∧ s < n then bestP σ s else σ 11 s
def r0 (σ : Nat → Int → Int) (g lo hi : Int) : Int → Int := zup (zup (zup (σ 0) 5 g) 6 lo) 7 hi
def fbS (σ : Nat → Int → Int) (n g lo hi : Int) : Nat → Int → Int := setR (setR σ 0 (r0 σ g lo hi)) 11 (pbR σ n)
theorem fbS_o (σ : Nat → Int → Int) (n g lo hi : Int) {f : Nat} (h0 : f ≠ 0) (h11 : f ≠ 11) : fbS σ n g lo hi f = σ f := by
  unfold fbS
  rw [setR_o _ _ h11, setR_o _ _ h0]
theorem fbS_0 (σ : Nat → Int → Int) (n g lo hi : Int) {k : Int} (h : k < 5) : fbS σ n g lo hi 0 k = σ 0 k := by
  show r0 σ g lo hi k = σ 0 k
  unfold r0
  rw [zup_n _ _ (by omega), zup_n _ _ (by omega), zup_n _ _ (by omega)]
theorem fbS_Sm (σ : Nat → Int → Int) (n g lo hi : Int) : Sm (fbS σ n g lo hi) σ := ⟨fbS_0 σ n g lo hi (by omega), rfl, rfl, rfl, rfl, rfl, rfl, rfl⟩
theorem Bd_fbS {σ : Nat → Int → Int} (hB : Bd σ) (n g lo hi : Int) : Bd (fbS σ n g lo hi) := hB.row7 (fun k h => fbS_0 σ n g lo hi (by omega)) rfl rfl rfl rfl rfl rfl (fun j => hB.b7 j)
theorem LC_fbS {σ : Nat → Int → Int} (hL : LC σ) (n g lo hi : Int) : LC (fbS σ n g lo hi) := fun i => hL i
theorem Pos_fbS {σ : Nat → Int → Int} {st po : Int → Int} (hP : Pos σ st po) (n g lo hi : Int) : Pos (fbS σ n g lo hi) st po := by
  unfold Pos
  rw [fbS_0 σ n g lo hi (by omega), fbS_0 σ n g lo hi (by omega), fbS_o σ n g lo hi (f := 6) (by decide) (by decide), fbS_o σ n g lo hi (f := 7) (by decide) (by decide)]
  exact hP
theorem r0_self (σ : Nat → Int → Int) (g lo hi g' lo' hi' : Int) : zup (zup (zup (r0 σ g lo hi) 5 g') 6 lo') 7 hi' = r0 σ g' lo' hi' := by
  funext k
  unfold r0 zup
  by_cases h7 : k = 7
  · rw [if_pos h7, if_pos h7]
  · rw [if_neg h7, if_neg h7]
    by_cases h6 : k = 6
    · rw [if_pos h6, if_pos h6, if_neg h7]
    · rw [if_neg h6, if_neg h6]
      by_cases h5 : k = 5
      · rw [if_pos h5, if_pos h5, if_neg h7, if_neg h6]
      · rw [if_neg h5, if_neg h5, if_neg h7, if_neg h6, if_neg h5]
theorem fbS_put (σ : Nat → Int → Int) (n g lo hi g' lo' hi' : Int) : up (up (up (fbS σ n g lo hi) 0 5 g') 0 6 lo') 0 7 hi' = fbS σ n g' lo' hi' := by
  funext f
  by_cases h0 : f = 0
  · subst h0
    rw [up_r, up_r, up_r]
    exact r0_self σ g lo hi g' lo' hi'
  · rw [up_o _ _ _ h0, up_o _ _ _ h0, up_o _ _ _ h0]
    unfold fbS
    by_cases h11 : f = 11
    · subst h11; rw [setR_s, setR_s]
    · rw [setR_o _ _ h11, setR_o _ _ h11, setR_o _ _ h0, setR_o _ _ h0]
theorem fbS_1 (σ : Nat → Int → Int) : up (up (up σ 0 5 0) 0 6 (-1005)) 0 7 (-1005) = fbS σ 0 0 (-1005) (-1005) := by
  funext f
  by_cases h0 : f = 0
  · subst h0
    rw [up_r, up_r, up_r]; rfl
  · rw [up_o _ _ _ h0, up_o _ _ _ h0, up_o _ _ _ h0]
    unfold fbS
    by_cases h11 : f = 11
    · subst h11
      rw [setR_s]
      funext s
      unfold pbR
      rw [if_neg (by omega)]
    · rw [setR_o _ _ h11, setR_o _ _ h0]
theorem fbS_pb (σ : Nat → Int → Int) {k : Int} (hk : 0 ≤ k) (g lo hi : Int) : up (fbS σ k g lo hi) 11 k (bestP σ k) = fbS σ (k + 1) g lo hi := by
  funext f
  by_cases h11 : f = 11
  · subst h11
    rw [up_r]
    show zup (pbR σ k) k (bestP σ k) = pbR σ (k + 1)
    funext s
    unfold zup pbR
    by_cases h : s = k
    · subst h; rw [if_pos rfl, if_pos (by omega)]
    · rw [if_neg h]
      by_cases h2 : 0 ≤ s ∧ s < k
      · rw [if_pos h2, if_pos (by omega)]
      · rw [if_neg h2, if_neg (by omega)]
  · rw [up_o _ _ _ h11]
    unfold fbS
    rw [setR_o _ _ h11, setR_o _ _ h11]
def gn (σ : Nat → Int → Int) (a b : Int) : Int := if σ 9 a = σ 9 b then 0 else bestP (exc σ a b) (σ 9 a) + bestP (exc σ a b) (σ 9 b) - σ 11 (σ 9 a) - σ 11 (σ 9 b)
def Gc (σ : Nat → Int → Int) (a b : Int) : Int := if σ 9 a = σ 9 b then 0 else bestP (exc σ a b) (σ 9 a) + bestP (exc σ a b) (σ 9 b) - bestP σ (σ 9 a) - bestP σ (σ 9 b)
theorem exc_fb_Sm (σ : Nat → Int → Int) (n g lo hi a b : Int) : Sm (exc (fbS σ n g lo hi) a b) (exc σ a b) := ⟨(show fbS σ n g lo hi 0 0 = σ 0 0 from fbS_0 σ n g lo hi (by omega)), rfl, rfl, rfl, rfl, rfl, rfl, rfl⟩
theorem gn_fb {σ : Nat → Int → Int} (hP : Pos σ (σ 9) (σ 10)) (g lo hi : Int) {a b : Int} (ha : 0 ≤ a ∧ a < σ 0 1) (hb : 0 ≤ b ∧ b < σ 0 1) : gn (fbS σ (σ 0 2) g lo hi) a b = Gc σ a b := by
  have ea := (hP.1 a ha.1 ha.2).1
  have eb := (hP.1 b hb.1 hb.2).1
  have e1 : fbS σ (σ 0 2) g lo hi 9 = σ 9 := rfl
  have e2 : ∀ s, 0 ≤ s ∧ s < σ 0 2 → fbS σ (σ 0 2) g lo hi 11 s = bestP σ s := fun s hs => if_pos hs
  unfold gn Gc
  rw [e1, e2 _ ea, e2 _ eb, Sm_bestP (exc_fb_Sm σ _ g lo hi a b), Sm_bestP (exc_fb_Sm σ _ g lo hi a b)]
theorem Gc_b {σ : Nat → Int → Int} (hB : Bd σ) {a b : Int} (ha : 0 ≤ a ∧ a < σ 0 1) (hb : 0 ≤ b ∧ b < σ 0 1) : -20000000 ≤ Gc σ a b ∧ Gc σ a b ≤ 20000000 := by
  have h1 := bestP_b (hB.exc ha hb) (σ 9 a)
  have h2 := bestP_b (hB.exc ha hb) (σ 9 b)
  have h3 := bestP_b hB (σ 9 a)
  have h4 := bestP_b hB (σ 9 b)
  unfold Gc
  split <;> omega
theorem swStep_t (G : Int → Int → Int) (a b : Int) {t : Int × Int × Int} (h : t.1 < G a b) : swStep G a b t = (G a b, a, b) := if_pos h
theorem swStep_f (G : Int → Int → Int) (a b : Int) {t : Int × Int × Int} (h : ¬ t.1 < G a b) : swStep G a b t = t := if_neg h
theorem swI_s (G : Int → Int → Int) (a : Int) {b mc : Int} (h : b < mc) (t : Int × Int × Int) : swI G a (mc - b).toNat b t = swI G a (mc - (b + 1)).toNat (b + 1) (swStep G a b t) := by
  rw [show (mc - b).toNat = (mc - (b + 1)).toNat + 1 by omega, swI]
theorem swO_s (G : Int → Int → Int) {a mc : Int} (h : a < mc) (t : Int × Int × Int) : swO G mc (mc - a).toNat a t = swO G mc (mc - (a + 1)).toNat (a + 1) (swI G a (mc - (a + 1)).toNat (a + 1) t) := by
  rw [show (mc - a).toNat = (mc - (a + 1)).toNat + 1 by omega, swO]
/-- regrouping: the first number of each string, the string of each number -/
def off (g : Nat → Int → Int) (s : Int) : Int := sumP (g 6) s.toNat
def sof (g : Nat → Int → Int) (k : Int) : Int := sumP (fun s => if off g (s + 1) ≤ k then 1 else 0) (g 0 2).toNat
theorem off_s (g : Nat → Int → Int) {s : Int} (h : 0 ≤ s) : off g (s + 1) = off g s + g 6 s := sumP_s _ h
theorem sumP_le {F : Int → Int} (h : ∀ j, 0 ≤ F j) {a : Nat} : ∀ b : Nat, a ≤ b → sumP F a ≤ sumP F b
  | 0, q => by rw [show a = 0 by omega]; exact Int.le_refl _
  | b + 1, q => by
    have h1 := h b
    show sumP F a ≤ sumP F b + F b
    by_cases e : a = b + 1
    · subst e; exact Int.le_refl _
    · have := sumP_le h (a := a) b (by omega)
      omega
theorem off_le {g : Nat → Int → Int} (hB : Bd g) {a b : Int} (h : a ≤ b) : off g a ≤ off g b := sumP_le (fun j => (hB.b6 j).1) _ (by omega)
theorem off_0 {g : Nat → Int → Int} (hB : Bd g) (s : Int) : 0 ≤ off g s := by
  have h := sumP_b (F := g 6) (a := 0) (b := 12) (fun j => hB.b6 j) s.toNat
  unfold off
  omega
theorem sumP_cut {F : Int → Int} {s : Int} (h1 : ∀ j, 0 ≤ j → j < s → F j = 1) (h2 : ∀ j, s ≤ j → F j = 0) (hs : 0 ≤ s) : ∀ n : Nat, sumP F n = if s ≤ n then s else n
  | 0 => by
    show (0 : Int) = _
    split <;> omega
  | n + 1 => by
    show sumP F n + F n = _
    rw [sumP_cut h1 h2 hs n]
    by_cases q : s ≤ (n : Int)
    · rw [if_pos q, if_pos (by omega), h2 n q]; omega
    · rw [if_neg q, h1 n (by omega) (by omega)]
      split <;> omega
theorem sof_eq {g : Nat → Int → Int} (hB : Bd g) {s k : Int} (hs : 0 ≤ s ∧ s < g 0 2) (h1 : off g s ≤ k) (h2 : k < off g (s + 1)) : sof g k = s := by
  have h := sumP_cut (F := fun j => if off g (j + 1) ≤ k then 1 else 0) (s := s) (fun j q1 q2 => by
    have := off_le hB (a := j + 1) (b := s) (by omega)
    exact if_pos (by omega)) (fun j q => by
    have := off_le hB (a := s + 1) (b := j + 1) (by omega)
    exact if_neg (by omega)) hs.1 (g 0 2).toNat
  unfold sof
  rw [h, if_pos (by omega)]
def rg7 (g : Nat → Int → Int) (srt : Int → Int) (s p : Int) : Int → Int := fun j => if 0 ≤ j ∧ ((j / 12 < s ∧ j % 12 < g 6 (j / 12)) ∨ (j / 12 = s ∧ j % 12 < p)) then srt (off g (j / 12) + j % 12) else g 7 j
theorem rg7_0 (g : Nat → Int → Int) (srt : Int → Int) : rg7 g srt 0 0 = g 7 := by
  funext j
  unfold rg7
  rw [if_neg (by omega)]
theorem rg7_s {g : Nat → Int → Int} (srt : Int → Int) {s p : Int} (hs : 0 ≤ s) (hp : 0 ≤ p ∧ p < 12) : zup (rg7 g srt s p) (12 * s + p) (srt (off g s + p)) = rg7 g srt s (p + 1) := by
  funext j
  unfold zup rg7
  by_cases h : j = 12 * s + p
  · have e1 : j / 12 = s := by omega
    have e2 : j % 12 = p := by omega
    rw [if_pos h, e1, e2, if_pos (by omega)]
  · rw [if_neg h]
    try dsimp only
    by_cases h2 : 0 ≤ j ∧ ((j / 12 < s ∧ j % 12 < g 6 (j / 12)) ∨ (j / 12 = s ∧ j % 12 < p))
    · rw [if_pos h2, if_pos (by omega)]
    · rw [if_neg h2, if_neg (by omega)]
theorem rg7_n {g : Nat → Int → Int} (srt : Int → Int) (s : Int) : rg7 g srt s (g 6 s) = rg7 g srt (s + 1) 0 := by
  funext j
  unfold rg7
  by_cases e : j / 12 = s
  · rw [e]
    by_cases h2 : 0 ≤ j ∧ ((s < s ∧ j % 12 < g 6 s) ∨ (s = s ∧ j % 12 < g 6 s))
    · rw [if_pos h2, if_pos (by omega)]
    · rw [if_neg h2, if_neg (by omega)]
  · by_cases h2 : 0 ≤ j ∧ ((j / 12 < s ∧ j % 12 < g 6 (j / 12)) ∨ (j / 12 = s ∧ j % 12 < g 6 s))
    · rw [if_pos h2, if_pos (by omega)]
    · rw [if_neg h2, if_neg (by omega)]
theorem rg7_at {g : Nat → Int → Int} (srt : Int → Int) {s p n : Int} (hs : 0 ≤ s ∧ s < n) (hp : 0 ≤ p ∧ p < 12) (hp2 : p < g 6 s) : rg7 g srt n 0 (12 * s + p) = srt (off g s + p) := by
  have e1 : (12 * s + p) / 12 = s := by omega
  have e2 : (12 * s + p) % 12 = p := by omega
  unfold rg7
  rw [e1, e2, if_pos (by omega)]
theorem rg7_b {g : Nat → Int → Int} (hB : Bd g) {srt : Int → Int} (h : ∀ j, 0 ≤ srt j ∧ srt j ≤ 23) (s p : Int) : ∀ j, 0 ≤ rg7 g srt s p j ∧ rg7 g srt s p j ≤ 23 := by
  intro j
  have h1 := hB.b7 j
  unfold rg7
  split
  · exact h _
  · exact h1
def rgS (σ : Nat → Int → Int) (srt : Int → Int) (s p : Int) (r9 r10 : Int → Int) : Nat → Int → Int := setR (setR (setR (setR σ 12 srt) 7 (rg7 σ srt s p)) 9 r9) 10 r10
theorem rgS_s {σ : Nat → Int → Int} (srt r9 r10 : Int → Int) {s p : Int} (hs : 0 ≤ s) (hp : 0 ≤ p ∧ p < 12) : plc (rgS σ srt s p r9 r10) (srt (off σ s + p)) s p = rgS σ srt s (p + 1) (zup r9 (srt (off σ s + p)) s) (zup r10 (srt (off σ s + p)) p) := by
  funext f
  unfold plc rgS
  by_cases h10 : f = 10
  · subst h10; rw [up_r, up_o _ _ _ (by decide), up_o _ _ _ (by decide), setR_s, setR_s]
  · rw [up_o _ _ _ h10, setR_o _ _ h10]
    by_cases h9 : f = 9
    · subst h9; rw [up_r, up_o _ _ _ (by decide), setR_o _ _ (by decide), setR_s, setR_s]
    · rw [up_o _ _ _ h9, setR_o _ _ h9]
      by_cases h7 : f = 7
      · subst h7
        rw [up_r, setR_o _ _ (by decide), setR_o _ _ (by decide), setR_s, setR_s, rg7_s srt hs hp]
      · rw [up_o _ _ _ h7, setR_o _ _ h10, setR_o _ _ h9, setR_o _ _ h7, setR_o _ _ h7]
theorem rgS_n {σ : Nat → Int → Int} (srt r9 r10 : Int → Int) (s : Int) : rgS σ srt s (σ 6 s) r9 r10 = rgS σ srt (s + 1) 0 r9 r10 := by
  unfold rgS
  rw [rg7_n]
theorem rgS_0 (σ : Nat → Int → Int) (srt : Int → Int) : setR σ 12 srt = rgS σ srt 0 0 (σ 9) (σ 10) := by
  funext f
  unfold rgS
  rw [rg7_0]
  by_cases h10 : f = 10
  · subst h10; rw [setR_s, setR_o _ _ (by decide)]
  · rw [setR_o _ _ h10]
    by_cases h9 : f = 9
    · subst h9; rw [setR_s, setR_o _ _ (by decide)]
    · rw [setR_o _ _ h9]
      by_cases h7 : f = 7
      · subst h7; rw [setR_s, setR_o _ _ (by decide)]
      · rw [setR_o _ _ h7]
def mvN (σ : Nat → Int → Int) (srt : Int → Int) : Int → Int := fun k => if σ 9 (srt k) = sof σ k then 0 else 1
