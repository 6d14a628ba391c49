/-! exchanging back; what a state's curves depend on; the search for the best exchange; sorting -/
theorem exc_o (σ : Nat → Int → Int) (a b : Int) {f : Nat} (h7 : f ≠ 7) (h9 : f ≠ 9) (h10 : f ≠ 10) : exc σ a b f = σ f := by
  unfold exc plc
  rw [up_o _ _ _ h10, up_o _ _ _ h9, up_o _ _ _ h7, up_o _ _ _ h10, up_o _ _ _ h9, up_o _ _ _ h7]
theorem exc_7 (σ : Nat → Int → Int) (a b : Int) : exc σ a b 7 = zup (zup (σ 7) (12 * σ 9 b + σ 10 b) a) (12 * σ 9 a + σ 10 a) b := rfl
theorem exc_9 (σ : Nat → Int → Int) (a b : Int) : exc σ a b 9 = zup (zup (σ 9) a (σ 9 b)) b (σ 9 a) := rfl
theorem exc_10 (σ : Nat → Int → Int) (a b : Int) : exc σ a b 10 = zup (zup (σ 10) a (σ 10 b)) b (σ 10 a) := rfl
theorem zup2_a (F : Int → Int) (a b u v : Int) (h : a = b → u = v) : zup (zup F a u) b v a = u := by
  unfold zup
  by_cases q : a = b
  · rw [if_pos q, h q]
  · rw [if_neg q, if_pos rfl]
theorem zup4 (F : Int → Int) (a b u v : Int) : zup (zup (zup (zup F a u) b v) a (F a)) b (F b) = F := by
  funext i
  unfold zup
  by_cases h1 : i = b
  · rw [if_pos h1, h1]
  · rw [if_neg h1]
    by_cases h2 : i = a
    · rw [if_pos h2, h2]
    · rw [if_neg h2, if_neg h1, if_neg h2]
theorem zup4' (F : Int → Int) (a b u v : Int) : zup (zup (zup (zup F b u) a v) a (F a)) b (F b) = F := by
  funext i
  unfold zup
  by_cases h1 : i = b
  · rw [if_pos h1, h1]
  · rw [if_neg h1]
    by_cases h2 : i = a
    · rw [if_pos h2, h2]
    · rw [if_neg h2, if_neg h2, if_neg h1]
theorem exc_exc {σ : Nat → Int → Int} (hP : Pos σ (σ 9) (σ 10)) {a b : Int} (ha : 0 ≤ a ∧ a < σ 0 1) (hb : 0 ≤ b ∧ b < σ 0 1) : exc (exc σ a b) a b = σ := by
  have e9a : exc σ a b 9 a = σ 9 b := exc_9a σ a b
  have e9b : exc σ a b 9 b = σ 9 a := exc_9b σ a b
  have e10a : exc σ a b 10 a = σ 10 b := by rw [exc_10]; exact zup2_a _ _ _ _ _ (fun q => by rw [q])
  have e10b : exc σ a b 10 b = σ 10 a := by rw [exc_10, zup_s]
  have h7a := (hP.1 a ha.1 ha.2).2.2
  have h7b := (hP.1 b hb.1 hb.2).2.2
  funext f
  by_cases f7 : f = 7
  · subst f7
    rw [exc_7 (exc σ a b), e9a, e9b, e10a, e10b, exc_7]
    have := zup4' (σ 7) (12 * σ 9 a + σ 10 a) (12 * σ 9 b + σ 10 b) a b
    rw [h7a, h7b] at this
    exact this
  · by_cases f9 : f = 9
    · subst f9
      rw [exc_9 (exc σ a b), e9a, e9b, exc_9]
      exact zup4 (σ 9) a b _ _
    · by_cases f10 : f = 10
      · subst f10
        rw [exc_10 (exc σ a b), e10a, e10b, exc_10]
        exact zup4 (σ 10) a b _ _
      · rw [exc_o _ _ _ f7 f9 f10, exc_o _ _ _ f7 f9 f10]
theorem Bd.row7 {g h : Nat → Int → Int} (hB : Bd g) (h0 : ∀ k, k = 0 ∨ k = 1 ∨ k = 2 → h 0 k = g 0 k) (h1 : h 1 = g 1) (h2 : h 2 = g 2) (h3 : h 3 = g 3) (h4 : h 4 = g 4) (h5 : h 5 = g 5) (h6 : h 6 = g 6) (h7 : ∀ j, 0 ≤ h 7 j ∧ h 7 j ≤ 23) : Bd h := by
  unfold Bd
  rw [h0 0 (by omega), h0 1 (by omega), h0 2 (by omega), h1, h2, h3, h4, h5, h6]
  exact ⟨hB.1, hB.2.1, hB.2.2.1, hB.2.2.2.1, hB.2.2.2.2.1, hB.2.2.2.2.2.1, hB.2.2.2.2.2.2.1, hB.2.2.2.2.2.2.2.1, hB.2.2.2.2.2.2.2.2.1, h7⟩
theorem Bd.exc {σ : Nat → Int → Int} (hB : Bd σ) {a b : Int} (ha : 0 ≤ a ∧ a < σ 0 1) (hb : 0 ≤ b ∧ b < σ 0 1) : Bd (exc σ a b) := by
  refine hB.row7 (fun k _ => rfl) rfl rfl rfl rfl rfl rfl (fun j => ?_)
  have h1 := hB.b7 j
  have h2 := hB.mc
  rw [exc_7]
  unfold zup
  split
  · omega
  · split <;> omega
theorem LC.exc {σ : Nat → Int → Int} (hL : LC σ) (a b : Int) : LC (exc σ a b) := fun i => hL i
/-- the curves of strings depend on these rows alone -/
def Sm (g h : Nat → Int → Int) : Prop := g 0 0 = h 0 0 ∧ g 1 = h 1 ∧ g 2 = h 2 ∧ g 3 = h 3 ∧ g 4 = h 4 ∧ g 5 = h 5 ∧ g 6 = h 6 ∧ g 7 = h 7
theorem Sm_svolt {g h : Nat → Int → Int} (e : Sm g h) (s : Int) : svolt g s = svolt h s := by
  obtain ⟨e0, e1, e2, e3, e4, e5, e6, e7⟩ := e
  funext c
  have hv : ∀ m, volt g m c = volt h m c := by
    intro m
    unfold volt lit photo
    rw [e0, e1, e2, e3, e4]
  unfold svolt memb
  rw [e6, e7]
  congr 1
  funext p
  exact hv _
theorem Sm_limit {g h : Nat → Int → Int} (e : Sm g h) (s : Int) : limit g s = limit h s := by
  obtain ⟨e0, e1, e2, e3, e4, e5, e6, e7⟩ := e
  simp only [limit, photo, memb, e1, e3, e5, e6, e7]
theorem Sm_spow {g h : Nat → Int → Int} (e : Sm g h) (s : Int) : spow g s = spow h s := by
  funext c
  unfold spow
  rw [Sm_svolt e s]
theorem Sm_bestC {g h : Nat → Int → Int} (e : Sm g h) (s : Int) : bestC g s = bestC h s := by
  unfold bestC
  rw [Sm_spow e s, Sm_limit e s]
theorem Sm_bestP {g h : Nat → Int → Int} (e : Sm g h) (s : Int) : bestP g s = bestP h s := by
  unfold bestP
  rw [Sm_spow e s, Sm_bestC e s]
/-- the best exchange, pair by pair -/
def swStep (G : Int → Int → Int) (a b : Int) (t : Int × Int × Int) : Int × Int × Int := if t.1 < G a b then (G a b, a, b) else t
def swI (G : Int → Int → Int) (a : Int) : Nat → Int → Int × Int × Int → Int × Int × Int
  | 0, _, t => t
  | n + 1, b, t => swI G a n (b + 1) (swStep G a b t)
def swO (G : Int → Int → Int) (mc : Int) : Nat → Int → Int × Int × Int → Int × Int × Int
  | 0, _, t => t
  | n + 1, a, t => swO G mc n (a + 1) (swI G a (mc - (a + 1)).toNat (a + 1) t)
/-- insertion -/
def insR (ph : Int → Int) (m : Int) : Nat → (Int → Int) → (Int → Int)
  | 0, F => zup F 0 m
  | k + 1, F => if ph (F k) < ph m then insR ph m k (zup F ((k + 1 : Nat) : Int) (F k)) else zup F ((k + 1 : Nat) : Int) m
def srtR (ph : Int → Int) : Nat → (Int → Int) → (Int → Int)
  | 0, F => F
  | n + 1, F => insR ph n n (srtR ph n F)
theorem insR_0 (ph : Int → Int) (m : Int) (F : Int → Int) {k : Int} (h : k = 0) : insR ph m k.toNat F = zup F k m := by subst h; rfl
theorem insR_y {ph : Int → Int} {m : Int} {F : Int → Int} {k : Int} (h : 1 ≤ k) (hp : ph (F (k - 1)) < ph m) : insR ph m k.toNat F = insR ph m (k - 1).toNat (zup F k (F (k - 1))) := by
  rw [show k.toNat = (k - 1).toNat + 1 by omega, insR, show (((k - 1).toNat : Nat) : Int) = k - 1 by omega, if_pos hp, show (((k - 1).toNat + 1 : Nat) : Int) = k by omega]
theorem insR_n {ph : Int → Int} {m : Int} {F : Int → Int} {k : Int} (h : 1 ≤ k) (hp : ¬ ph (F (k - 1)) < ph m) : insR ph m k.toNat F = zup F k m := by
  rw [show k.toNat = (k - 1).toNat + 1 by omega, insR, show (((k - 1).toNat : Nat) : Int) = k - 1 by omega, if_neg hp, show (((k - 1).toNat + 1 : Nat) : Int) = k by omega]
theorem srtR_s (ph : Int → Int) (F : Int → Int) {m : Int} (h : 0 ≤ m) : srtR ph (m + 1).toNat F = insR ph m m.toNat (srtR ph m.toNat F) := by
  rw [show (m + 1).toNat = m.toNat + 1 by omega, srtR, show ((m.toNat : Nat) : Int) = m by omega]
theorem zup_b {F : Int → Int} {B : Int} (h : ∀ j, 0 ≤ F j ∧ F j ≤ B) {k v : Int} (hv : 0 ≤ v ∧ v ≤ B) : ∀ j, 0 ≤ zup F k v j ∧ zup F k v j ≤ B := by
  intro j
  unfold zup
  split
  · exact hv
  · exact h j
theorem insR_b {ph : Int → Int} {m B : Int} (hm : 0 ≤ m ∧ m ≤ B) : ∀ (k : Nat) {F : Int → Int}, (∀ j, 0 ≤ F j ∧ F j ≤ B) → ∀ j, 0 ≤ insR ph m k F j ∧ insR ph m k F j ≤ B
  | 0, F, h => zup_b h hm
  | k + 1, F, h => by
    rw [insR]
    split
    · exact insR_b hm k (zup_b h (h k))
    · exact zup_b h hm
theorem srtR_b {ph : Int → Int} {B : Int} : ∀ (n : Nat) {F : Int → Int}, (n : Int) ≤ B + 1 → (∀ j, 0 ≤ F j ∧ F j ≤ B) → ∀ j, 0 ≤ srtR ph n F j ∧ srtR ph n F j ≤ B
  | 0, F, _, h => h
  | n + 1, F, hn, h => by
    rw [srtR]
    exact insR_b (by omega) n (srtR_b n (by omega) h)
theorem sumP_zup (h F : Int → Int) {k v : Int} (hk : 0 ≤ k) : ∀ n : Nat, k < n → sumP (fun j => h (zup F k v j)) n = sumP (fun j => h (F j)) n - h (F k) + h v
  | 0, q => absurd q (by omega)
  | n + 1, q => by
    show sumP (fun j => h (zup F k v j)) n + h (zup F k v n) = sumP (fun j => h (F j)) n + h (F n) - h (F k) + h v
    by_cases e : k = (n : Int)
    · have : sumP (fun j => h (zup F k v j)) n = sumP (fun j => h (F j)) n := by
        have key : ∀ m : Nat, (m : Int) ≤ k → sumP (fun j => h (zup F k v j)) m = sumP (fun j => h (F j)) m := by
          intro m
          induction m with
          | zero => intro _; rfl
          | succ m ih =>
            intro hm
            show sumP (fun j => h (zup F k v j)) m + h (zup F k v m) = sumP (fun j => h (F j)) m + h (F m)
            rw [ih (by omega), zup_n _ _ (by omega)]
        exact key n (by omega)
      rw [this, ← e, zup_s]
      omega
    · rw [sumP_zup h F hk n (by omega), zup_n _ _ (by omega)]
      omega
theorem sumP_insR (h ph : Int → Int) (m : Int) : ∀ (k : Nat) (F : Int → Int) (n : Nat), k < n → sumP (fun j => h (insR ph m k F j)) n = sumP (fun j => h (F j)) n - h (F k) + h m
  | 0, F, n, q => sumP_zup h F (by omega) n (by omega)
  | k + 1, F, n, q => by
    rw [insR]
    split
    · rw [sumP_insR h ph m k _ n (by omega), sumP_zup h F (by omega) n (by omega), zup_n _ _ (by omega)]
      omega
    · exact sumP_zup h F (by omega) n (by omega)
theorem sumP_srt (h ph F : Int → Int) : ∀ n : Nat, sumP (fun j => h (srtR ph n F j)) n = sumP h n
  | 0 => rfl
  | n + 1 => by
    have e1 := sumP_insR h ph n n (srtR ph n F) (n + 1) (by omega)
    have e2 := sumP_srt h ph F n
    rw [srtR, e1]
    show sumP (fun j => h (srtR ph n F j)) n + h (srtR ph n F n) - h (srtR ph n F n) + h n = sumP h n + h n
    rw [e2]
    omega
/-- a sum of ones and zeros, at one place -/
theorem sumP_ind0 {F : Int → Int} (h : ∀ j, 0 ≤ F j) : ∀ (n : Nat) {k : Int}, 0 ≤ k → k < n → F k ≤ sumP F n
  | 0, k, q1, q2 => absurd q1 (by omega)
  | n + 1, k, q1, q2 => by
    have h0 : 0 ≤ sumP F n := by
      have key : ∀ m : Nat, 0 ≤ sumP F m := by
        intro m
        induction m with
        | zero => exact Int.le_refl _
        | succ m ih =>
          have := h m
          show 0 ≤ sumP F m + F m
          omega
      exact key n
    have h2 := h n
    show F k ≤ sumP F n + F n
    by_cases e : k = (n : Int)
    · subst e; omega
    · have := sumP_ind0 h n q1 (by omega)
      omega
theorem sumP_ind2 {F : Int → Int} (h : ∀ j, 0 ≤ F j) : ∀ (n : Nat) {i k : Int}, 0 ≤ i → i < k → k < n → F i + F k ≤ sumP F n
  | 0, i, k, q1, q2, q3 => absurd q1 (by omega)
  | n + 1, i, k, q1, q2, q3 => by
    have h2 := h n
    show F i + F k ≤ sumP F n + F n
    by_cases e : k = (n : Int)
    · subst e
      have := sumP_ind0 h n q1 q2
      omega
    · have := sumP_ind2 h n q1 q2 (by omega)
      omega
def ind (i : Int) : Int → Int := fun j => if j = i then 1 else 0
theorem ind_sum (i : Int) : ∀ n : Nat, sumP (ind i) n = if 0 ≤ i ∧ i < n then 1 else 0
  | 0 => by rw [if_neg (by omega)]; rfl
  | n + 1 => by
    show sumP (ind i) n + ind i n = _
    rw [ind_sum i n]
    unfold ind
    by_cases h : (n : Int) = i
    · rw [if_pos h, if_neg (by omega), if_pos (by omega)]; rfl
    · rw [if_neg h]
      by_cases h2 : 0 ≤ i ∧ i < (n : Int)
      · rw [if_pos h2, if_pos (by omega)]; rfl
      · rw [if_neg h2, if_neg (by omega)]; rfl
theorem srt_inj {ph F : Int → Int} {n : Nat} {a b : Int} (ha : 0 ≤ a ∧ a < n) (hb : 0 ≤ b ∧ b < n) (e : srtR ph n F a = srtR ph n F b) : a = b := by
  have key : ∀ a b : Int, 0 ≤ a → a < b → b < n → srtR ph n F a = srtR ph n F b → False := by
    intro a b h1 h2 h3 e
    have h4 := sumP_srt (ind (srtR ph n F a)) ph F n
    have h5 := sumP_ind2 (F := fun j => ind (srtR ph n F a) (srtR ph n F j)) (fun j => by unfold ind; split <;> omega) n h1 h2 h3
    have h6 : ind (srtR ph n F a) (srtR ph n F a) = 1 := if_pos rfl
    have h7 : ind (srtR ph n F a) (srtR ph n F b) = 1 := if_pos e.symm
    have h8 := ind_sum (srtR ph n F a) n
    try dsimp only at h5
    rw [h6, h7, h4, h8] at h5
    split at h5 <;> omega
  rcases Int.lt_trichotomy a b with h | h | h
  · exact absurd e (fun e => key a b ha.1 h hb.2 e)
  · exact h
  · exact absurd e (fun e => key b a hb.1 h ha.2 e.symm)
theorem srt_in {ph F : Int → Int} {n : Nat} {k : Int} (hk : 0 ≤ k ∧ k < n) : 0 ≤ srtR ph n F k ∧ srtR ph n F k < n := by
  have h4 := sumP_srt (ind (srtR ph n F k)) ph F n
  have h5 := sumP_ind0 (F := fun j => ind (srtR ph n F k) (srtR ph n F j)) (fun j => by unfold ind; split <;> omega) n hk.1 hk.2
  have h6 : ind (srtR ph n F k) (srtR ph n F k) = 1 := if_pos rfl
  have h8 := ind_sum (srtR ph n F k) n
  try dsimp only at h5
  rw [h6, h4, h8] at h5
  split at h5
  · assumption
  · omega
theorem sumP_none {F : Int → Int} : ∀ n : Nat, (∀ k, 0 ≤ k → k < n → F k = 0) → sumP F n = 0
  | 0, _ => rfl
  | n + 1, h => by
    show sumP F n + F n = 0
    rw [sumP_none n (fun k q1 q2 => h k q1 (by omega)), h n (by omega) (by omega)]; rfl
theorem srt_on {ph F : Int → Int} {n : Nat} {i : Int} (hi : 0 ≤ i ∧ i < n) : ∃ k, (0 ≤ k ∧ k < n) ∧ srtR ph n F k = i := by
  by_cases q : ∃ k, (0 ≤ k ∧ k < n) ∧ srtR ph n F k = i
  · exact q
  · have h4 := sumP_srt (ind i) ph F n
    have h8 := ind_sum i n
    rw [if_pos hi] at h8
    have h9 := sumP_none (F := fun j => ind i (srtR ph n F j)) n (fun k q1 q2 => if_neg (fun e => q ⟨k, ⟨q1, q2⟩, e⟩))
    rw [h9, h8] at h4
    omega
