/-! the reference: its scratch rows, and what it keeps -/
def Sx (τ ρ : Nat → Int → Int) : Prop := ρ 0 0 = τ 0 0 ∧ ρ 0 1 = τ 0 1 ∧ ρ 0 2 = τ 0 2 ∧ ρ 1 = τ 1 ∧ ρ 2 = τ 2 ∧ ρ 3 = τ 3 ∧ ρ 4 = τ 4 ∧ ρ 5 = τ 5 ∧ ρ 6 = τ 6 ∧ ρ 7 = τ 7 ∧ ρ 11 = τ 11
theorem Sx.rf (τ : Nat → Int → Int) : Sx τ τ := ⟨rfl, rfl, rfl, rfl, rfl, rfl, rfl, rfl, rfl, rfl, rfl⟩
theorem Sx.tr {a b c : Nat → Int → Int} (h : Sx a b) (k : Sx b c) : Sx a c := by
  obtain ⟨h1, h2, h3, h4, h5, h6, h7, h8, h9, h10, h11⟩ := h
  obtain ⟨k1, k2, k3, k4, k5, k6, k7, k8, k9, k10, k11⟩ := k
  exact ⟨k1.trans h1, k2.trans h2, k3.trans h3, k4.trans h4, k5.trans h5, k6.trans h6, k7.trans h7, k8.trans h8, k9.trans h9, k10.trans h10, k11.trans h11⟩
theorem Sx.Sm {τ ρ : Nat → Int → Int} (h : Sx τ ρ) : Sm ρ τ := ⟨h.1, h.2.2.2.1, h.2.2.2.2.1, h.2.2.2.2.2.1, h.2.2.2.2.2.2.1, h.2.2.2.2.2.2.2.1, h.2.2.2.2.2.2.2.2.1, h.2.2.2.2.2.2.2.2.2.1⟩
theorem Sx.Bd {τ ρ : Nat → Int → Int} (h : Sx τ ρ) (hB : Bd τ) : Bd ρ := by
  obtain ⟨h1, h2, h3, h4, h5, h6, h7, h8, h9, h10, h11⟩ := h
  refine hB.row7 (fun k q => ?_) h4 h5 h6 h7 h8 h9 (fun j => by rw [h10]; exact hB.b7 j)
  rcases q with q | q | q <;> subst q <;> assumption
theorem Pos_cg {g h : Nat → Int → Int} {st po : Int → Int} (hP : Pos g st po) (h1 : h 0 1 = g 0 1) (h2 : h 0 2 = g 0 2) (h6 : h 6 = g 6) (h7 : h 7 = g 7) : Pos h st po := by
  unfold Pos
  rw [h1, h2, h6, h7]
  exact hP
theorem Sx.Pos {τ ρ : Nat → Int → Int} {st po : Int → Int} (h : Sx τ ρ) (hP : Pos τ st po) : Pos ρ st po := Pos_cg hP h.2.1 h.2.2.1 h.2.2.2.2.2.2.2.2.1 h.2.2.2.2.2.2.2.2.2.1
def pwR (τ : Nat → Int → Int) (s n : Int) : Int → Int := fun i => if 0 ≤ i ∧ i < n then spow τ s i else τ 8 i
def loP (τ : Nat → Int → Int) (s n : Int) : Nat → Int → Int := setR (up τ 0 3 (limit τ s)) 8 (pwR τ s n)
def loS (τ : Nat → Int → Int) (s : Int) : Nat → Int → Int := loP τ s (limit τ s + 1)
theorem loP_o (τ : Nat → Int → Int) (s n : Int) {f : Nat} (h0 : f ≠ 0) (h8 : f ≠ 8) : loP τ s n f = τ f := by
  unfold loP
  rw [setR_o _ _ h8, up_o _ _ _ h0]
theorem loP_0 (τ : Nat → Int → Int) (s n : Int) {k : Int} (h : k ≠ 3) : loP τ s n 0 k = τ 0 k := zup_n _ _ h
theorem loP_3 (τ : Nat → Int → Int) (s n : Int) : loP τ s n 0 3 = limit τ s := rfl
theorem loP_Sx (τ : Nat → Int → Int) (s n : Int) : Sx τ (loP τ s n) := ⟨loP_0 τ s n (by omega), loP_0 τ s n (by omega), loP_0 τ s n (by omega), rfl, rfl, rfl, rfl, rfl, rfl, rfl, rfl⟩
theorem loS_8 (τ : Nat → Int → Int) (s : Int) {i : Int} (h : 0 ≤ i ∧ i ≤ limit τ s) : loS τ s 8 i = spow τ s i := if_pos (by omega)
theorem loP_put (τ : Nat → Int → Int) (s : Int) {i : Int} (hi : 0 ≤ i) : up (loP τ s i) 8 i (spow τ s i) = loP τ s (i + 1) := by
  unfold loP
  rw [setR_put]
  congr 1
  funext j
  unfold zup pwR
  by_cases h : j = i
  · subst h; rw [if_pos rfl, if_pos (by omega)]
  · rw [if_neg h]
    try dsimp only
    by_cases h2 : 0 ≤ j ∧ j < i
    · rw [if_pos h2, if_pos (by omega)]
    · rw [if_neg h2, if_neg (by omega)]
theorem loP_1 (τ : Nat → Int → Int) (s : Int) : up τ 0 3 (limit τ s) = loP τ s 0 := by
  have e : pwR τ s 0 = up τ 0 3 (limit τ s) 8 := by
    funext j
    unfold pwR
    rw [if_neg (by omega)]
    rfl
  unfold loP
  rw [e, setR_id]
theorem bestTo_s (f : Int → Int) {i : Int} (h : 1 ≤ i) : bestTo f i.toNat = if f (bestTo f (i - 1).toNat) < f i then i else bestTo f (i - 1).toNat := by
  rw [show i.toNat = (i - 1).toNat + 1 by omega]
  show (if f (bestTo f (i - 1).toNat) < f (((i - 1).toNat + 1 : Nat) : Int) then (((i - 1).toNat + 1 : Nat) : Int) else bestTo f (i - 1).toNat) = _
  rw [show (((i - 1).toNat + 1 : Nat) : Int) = i by omega]
theorem mxP_best {f F : Int → Int} (h0 : f 0 = 0) : ∀ n : Nat, (∀ i : Int, 0 ≤ i → i ≤ n → F i = f i) → mxP F (n + 1) = f (bestTo f n)
  | 0, h => by
    show max (mxP F 0) (F 0) = f 0
    rw [h 0 (by omega) (by omega), h0]; rfl
  | n + 1, h => by
    have h1 := mxP_best h0 n (fun i q1 q2 => h i q1 (by omega))
    have h2 := h ((n + 1 : Nat) : Int) (by omega) (by omega)
    show max (mxP F (n + 1)) (F ((n + 1 : Nat) : Int)) = f (bestTo f (n + 1))
    rw [h1, h2, bestTo]
    by_cases q : f (bestTo f n) < f ((n + 1 : Nat) : Int)
    · rw [if_pos q]; omega
    · rw [if_neg q]; omega
/-- what a string delivers, added -/
def dvR (τ : Nat → Int → Int) (s : Int) (r : Int → Int) (v : Int) : Int → Int := fun u => if 0 ≤ u ∧ u < v then r u + dlv τ s u else r u
theorem dvR_0 (τ : Nat → Int → Int) (s : Int) (r : Int → Int) : dvR τ s r 0 = r := by
  funext u
  unfold dvR
  rw [if_neg (by omega)]
theorem dvR_at (τ : Nat → Int → Int) (s : Int) (r : Int → Int) (v : Int) : dvR τ s r v v = r v := if_neg (by omega)
theorem dvR_s (τ : Nat → Int → Int) (s : Int) (r : Int → Int) {v : Int} (hv : 0 ≤ v) : dvR τ s r (v + 1) = zup (dvR τ s r v) v (r v + dlv τ s v) := by
  funext u
  unfold dvR zup
  by_cases h : u = v
  · subst h; rw [if_pos (by omega), if_pos rfl]
  · rw [if_neg h]
    try dsimp only
    by_cases h2 : 0 ≤ u ∧ u < v
    · rw [if_pos h2, if_pos (by omega)]
    · rw [if_neg h2, if_neg (by omega)]
theorem dlv_0 {τ : Nat → Int → Int} (hB : Bd τ) {s v : Int} (h : ∀ j, 0 ≤ j → j ≤ limit τ s → svolt τ s j < v) : dlv τ s v = 0 := by
  have h1 := limit_b hB s
  exact dlvT_eq _ (by omega) (by omega) (Or.inl rfl) (fun i q1 q2 => h i (by omega) (by omega))
theorem dvR_end {τ : Nat → Int → Int} (hB : Bd τ) {s v : Int} (r : Int → Int) (hv : 0 ≤ v) (h : v ≤ 7200 → ∀ j, 0 ≤ j → j ≤ limit τ s → svolt τ s j < v) (hv2 : v ≤ 7201) : dvR τ s r v = dvR τ s r 7201 := by
  funext u
  unfold dvR
  by_cases h1 : 0 ≤ u ∧ u < v
  · rw [if_pos h1, if_pos (by omega)]
  · rw [if_neg h1]
    by_cases h2 : 0 ≤ u ∧ u < 7201
    · rw [if_pos h2, dlv_0 hB (fun j q1 q2 => by have := h (by omega) j q1 q2; omega)]
      omega
    · rw [if_neg h2]
def laR (τ : Nat → Int → Int) (n : Int) : Int → Int := fun v => if 0 ≤ v ∧ v ≤ 7200 then sumP (fun s => dlv τ s v) n.toNat else τ 9 v
def zeR (τ : Nat → Int → Int) (n : Int) : Int → Int := fun v => if 0 ≤ v ∧ v < n then 0 else τ 9 v
theorem Sm_dlv {g h : Nat → Int → Int} (e : Sm g h) (s v : Int) : dlv g s v = dlv h s v := by
  unfold dlv
  rw [Sm_svolt e s, Sm_limit e s]
theorem set9_Sx (τ : Nat → Int → Int) (r : Int → Int) : Sx τ (setR τ 9 r) := ⟨rfl, rfl, rfl, rfl, rfl, rfl, rfl, rfl, rfl, rfl, rfl⟩
theorem laR_s (τ : Nat → Int → Int) {k : Int} (hk : 0 ≤ k) : dvR (setR τ 9 (laR τ k)) k (laR τ k) 7201 = laR τ (k + 1) := by
  funext v
  unfold dvR laR
  rw [Sm_dlv (set9_Sx τ _).Sm, sumP_s _ hk]
  try dsimp only
  by_cases h : 0 ≤ v ∧ v ≤ 7200
  · rw [if_pos (by omega), if_pos h, if_pos h]
  · rw [if_neg (by omega), if_neg h, if_neg h]
theorem laR_0 (τ : Nat → Int → Int) : zeR τ 7201 = laR τ 0 := by
  funext v
  unfold zeR laR
  by_cases h : 0 ≤ v ∧ v ≤ 7200
  · rw [if_pos (by omega), if_pos h]; rfl
  · rw [if_neg (by omega), if_neg h]
theorem zeR_s (τ : Nat → Int → Int) {k : Int} (hk : 0 ≤ k) : zup (zeR τ k) k 0 = zeR τ (k + 1) := by
  funext v
  unfold zup zeR
  by_cases h : v = k
  · subst h; rw [if_pos rfl, if_pos (by omega)]
  · rw [if_neg h]
    try dsimp only
    by_cases h2 : 0 ≤ v ∧ v < k
    · rw [if_pos h2, if_pos (by omega)]
    · rw [if_neg h2, if_neg (by omega)]
theorem zeR_0 (τ : Nat → Int → Int) : zeR τ 0 = τ 9 := by
  funext v
  unfold zeR
  rw [if_neg (by omega)]
/-- places -/
def apM (τ : Nat → Int → Int) (m s : Int) : Nat → Int → Int := up (up τ 7 (12 * s + τ 6 s) m) 6 s (τ 6 s + 1)
def rmP (τ : Nat → Int → Int) (s a k : Int) : Nat → Int → Int := setR (setR τ 6 (zup (τ 6) s (τ 6 s - 1))) 7 (shft (τ 7) a k)
theorem rmP_0 (τ : Nat → Int → Int) (s a : Int) : up τ 6 s (τ 6 s - 1) = rmP τ s a a := by
  unfold rmP
  rw [shft_0, up_setR]
  funext g
  by_cases h : g = 7
  · subst h; rw [setR_s, setR_o _ _ (by decide)]
  · rw [setR_o _ _ h]
theorem rmP_s (τ : Nat → Int → Int) (s : Int) {a k : Int} (h : a ≤ k) : up (rmP τ s a k) 7 k (τ 7 (k + 1)) = rmP τ s a (k + 1) := by
  unfold rmP
  rw [setR_put, shft_s _ h]
def xcM (τ : Nat → Int → Int) (st po : Int → Int) (a b : Int) : Nat → Int → Int := up (up τ 7 (12 * st a + po a) b) 7 (12 * st b + po b) a
def xst (st : Int → Int) (a b : Int) : Int → Int := zup (zup st a (st b)) b (st a)
theorem xcM_7 {τ : Nat → Int → Int} {st po : Int → Int} (hP : Pos τ st po) {a b : Int} (ha : 0 ≤ a ∧ a < τ 0 1) (hb : 0 ≤ b ∧ b < τ 0 1) : xcM τ st po a b 7 = zup (zup (τ 7) (12 * st b + po b) a) (12 * st a + po a) b := by
  have ea := (hP.1 a ha.1 ha.2).2.2
  have eb := (hP.1 b hb.1 hb.2).2.2
  show zup (zup (τ 7) (12 * st a + po a) b) (12 * st b + po b) a = _
  funext j
  unfold zup
  by_cases h1 : j = 12 * st b + po b
  · by_cases h2 : j = 12 * st a + po a
    · rw [if_pos h1, if_pos h2]
      rw [← ea, ← eb, ← h1, ← h2]
    · rw [if_pos h1, if_neg h2, if_pos h1]
  · by_cases h2 : j = 12 * st a + po a
    · rw [if_neg h1, if_pos h2, if_pos h2]
    · rw [if_neg h1, if_neg h2, if_neg h2, if_neg h1]
theorem xcM_o (τ : Nat → Int → Int) (st po : Int → Int) (a b : Int) {f : Nat} (h : f ≠ 7) : xcM τ st po a b f = τ f := by
  unfold xcM
  rw [up_o _ _ _ h, up_o _ _ _ h]
theorem Pos_xc {τ : Nat → Int → Int} {st po : Int → Int} (hB : Bd τ) (hP : Pos τ st po) {a b : Int} (ha : 0 ≤ a ∧ a < τ 0 1) (hb : 0 ≤ b ∧ b < τ 0 1) : Pos (xcM τ st po a b) (xst st a b) (xst po a b) := by
  have hB2 : Bd (setR (setR τ 9 st) 10 po) := hB
  have hP2 : Pos (setR (setR τ 9 st) 10 po) (setR (setR τ 9 st) 10 po 9) (setR (setR τ 9 st) 10 po 10) := hP
  have h := Pos_exc hB2 hP2 (a := a) (b := b) ha hb
  exact Pos_cg (g := exc (setR (setR τ 9 st) 10 po) a b) h rfl rfl rfl (xcM_7 hP ha hb)
theorem xst_a (st : Int → Int) (a b : Int) : xst st a b a = st b := zup2_a _ _ _ _ _ (fun q => by rw [q])
theorem xst_b (st : Int → Int) (a b : Int) : xst st a b b = st a := zup_s _ _ _
theorem xcM_xcM {τ : Nat → Int → Int} {st po : Int → Int} (hP : Pos τ st po) {a b : Int} (ha : 0 ≤ a ∧ a < τ 0 1) (hb : 0 ≤ b ∧ b < τ 0 1) : zup (zup (xcM τ st po a b 7) (12 * st b + po b) b) (12 * st a + po a) a = τ 7 := by
  have ea := (hP.1 a ha.1 ha.2).2.2
  have eb := (hP.1 b hb.1 hb.2).2.2
  rw [xcM_7 hP ha hb]
  have h := zup4 (τ 7) (12 * st b + po b) (12 * st a + po a) a b
  rw [ea, eb] at h
  exact h
theorem Bd_xc {τ : Nat → Int → Int} (hB : Bd τ) (st po : Int → Int) {a b : Int} (ha : 0 ≤ a ∧ a < τ 0 1) (hb : 0 ≤ b ∧ b < τ 0 1) : Bd (xcM τ st po a b) := by
  have h2 := hB.mc
  exact hB.row7 (fun k _ => rfl) rfl rfl rfl rfl rfl rfl (zup_b (zup_b hB.2.2.2.2.2.2.2.2.2 (by omega)) (by omega))
def Gm (τ : Nat → Int → Int) (st po : Int → Int) (a b : Int) : Int := if st a = st b then 0 else bestP (xcM τ st po a b) (st a) + bestP (xcM τ st po a b) (st b) - bestP τ (st a) - bestP τ (st b)
theorem Gm_b {τ : Nat → Int → Int} (hB : Bd τ) (st po : Int → Int) {a b : Int} (ha : 0 ≤ a ∧ a < τ 0 1) (hb : 0 ≤ b ∧ b < τ 0 1) : -20000000 ≤ Gm τ st po a b ∧ Gm τ st po a b ≤ 20000000 := by
  have h1 := bestP_b (Bd_xc hB st po ha hb) (st a)
  have h2 := bestP_b (Bd_xc hB st po ha hb) (st b)
  have h3 := bestP_b hB (st a)
  have h4 := bestP_b hB (st b)
  unfold Gm
  split <;> omega
