/-! the lowest best point; search by halving; climbing; scanning; peaks; the tracker: plain facts -/
def IsBest (f : Int → Int) (N b : Int) : Prop := 0 ≤ b ∧ b ≤ N ∧ (∀ i, 0 ≤ i → i < b → f i < f b) ∧ (∀ i, b ≤ i → i ≤ N → f i ≤ f b)
def bestTo (f : Int → Int) : Nat → Int
  | 0 => 0
  | n + 1 => if f (bestTo f n) < f ((n + 1 : Nat) : Int) then ((n + 1 : Nat) : Int) else bestTo f n
theorem bestTo_is (f : Int → Int) : ∀ n : Nat, IsBest f n (bestTo f n)
  | 0 => by
    refine ⟨Int.le_refl _, Int.le_refl _, fun i h1 h2 => ?_, fun i h1 h2 => ?_⟩
    · have h2 : i < 0 := h2
      omega
    · have h1 : 0 ≤ i := h1
      have : i = 0 := by omega
      subst this; exact Int.le_refl _
  | n + 1 => by
    obtain ⟨h1, h2, h3, h4⟩ := bestTo_is f n
    unfold bestTo
    by_cases h : f (bestTo f n) < f ((n + 1 : Nat) : Int)
    · rw [if_pos h]
      refine ⟨by omega, Int.le_refl _, fun i q1 q2 => ?_, fun i q1 q2 => ?_⟩
      · by_cases q : i < bestTo f n
        · have := h3 i q1 q; omega
        · have := h4 i (by omega) (by omega); omega
      · have : i = ((n + 1 : Nat) : Int) := by omega
        subst this; exact Int.le_refl _
    · rw [if_neg h]
      refine ⟨h1, by omega, h3, fun i q1 q2 => ?_⟩
      by_cases q : i = ((n + 1 : Nat) : Int)
      · subst q; omega
      · exact h4 i q1 (by omega)
theorem IsBest.uniq {f : Int → Int} {N a b : Int} (ha : IsBest f N a) (hb : IsBest f N b) : a = b := by
  obtain ⟨a1, a2, a3, a4⟩ := ha
  obtain ⟨b1, b2, b3, b4⟩ := hb
  rcases Int.lt_trichotomy a b with h | h | h
  · have q1 := b3 a a1 h
    have q2 := a4 b (by omega) b2
    omega
  · exact h
  · have q1 := a3 b b1 h
    have q2 := b4 a (by omega) a2
    omega
theorem IsBest.eq {f : Int → Int} {N b : Int} (hN : 0 ≤ N) (hb : IsBest f N b) : b = bestTo f N.toNat := by
  have h := bestTo_is f N.toNat
  rw [show ((N.toNat : Nat) : Int) = N by omega] at h
  exact hb.uniq h
theorem bestTo_b (f : Int → Int) {N : Int} (hN : 0 ≤ N) : 0 ≤ bestTo f N.toNat ∧ bestTo f N.toNat ≤ N := by
  have h := bestTo_is f N.toNat
  exact ⟨h.1, by have := h.2.1; omega⟩
def Mono (V : Int → Int) (N : Int) : Prop := ∀ i j, 0 ≤ i → i ≤ j → j ≤ N → V j ≤ V i
def CR (V : Int → Int) (N tb : Int) : Prop := -1 ≤ tb ∧ tb ≤ 52000000 ∧ ∃ j, 0 ≤ j ∧ j ≤ N ∧ tb < j * V j
def BP (V : Int → Int) (N tb best pt : Int) : Prop := 0 ≤ pt ∧ 0 ≤ best ∧ best ≤ N ∧ pt ≤ 52000001 ∧ (0 ≤ tb ∨ tb = -1 ∧ pt = 0) ∧ tb ≤ 52000000 ∧ ((tb = best * V best ∧ (∀ i, 0 ≤ i → i < best → i * V i < tb) ∧ (∀ i, best ≤ i → i < pt → i ≤ N → i * V i ≤ tb)) ∨ (best = 0 ∧ (∀ i, 0 ≤ i → i < pt → i ≤ N → i * V i ≤ tb) ∧ ∃ j, 0 ≤ j ∧ j ≤ N ∧ tb < j * V j))
theorem CR.zero {V : Int → Int} {N : Int} (hN : 0 ≤ N) : CR V N (-1) := ⟨by omega, by omega, 0, by omega, hN, by rw [Int.zero_mul]; omega⟩
theorem CR.step {V : Int → Int} {N tb c : Int} (h : CR V N tb) (hc : 0 ≤ c ∧ c ≤ N) (hb : c * V c ≤ 52000000) : CR V N (max tb (c * V c - 1)) := by
  obtain ⟨h1, h2, j, h3, h4, h5⟩ := h
  by_cases q : tb ≤ c * V c - 1
  · rw [Int.max_eq_right q]
    exact ⟨by omega, by omega, c, hc.1, hc.2, by omega⟩
  · rw [Int.max_eq_left (by omega)]
    exact ⟨h1, h2, j, h3, h4, h5⟩
theorem BP.init {V : Int → Int} {N tb : Int} (hN : 0 ≤ N) (h : CR V N tb) : BP V N tb 0 0 := by
  obtain ⟨h1, h2, h3⟩ := h
  exact ⟨by omega, by omega, hN, by omega, by omega, h2, Or.inr ⟨rfl, fun i q1 q2 => absurd q1 (by omega), h3⟩⟩
theorem BP.out {V : Int → Int} {N tb best pt : Int} (h : BP V N tb best pt) (hp : N < pt) : IsBest (fun i => i * V i) N best := by
  obtain ⟨h1, h2, h3, -, h4, h5, h6⟩ := h
  rcases h6 with ⟨q1, q2, q3⟩ | ⟨q1, q2, j, q3, q4, q5⟩
  · exact ⟨h2, h3, fun i r1 r2 => by show i * V i < best * V best; rw [← q1]; exact q2 i r1 r2, fun i r1 r2 => by show i * V i ≤ best * V best; rw [← q1]; exact q3 i r1 (by omega) r2⟩
  · exact absurd (q2 j q3 (by omega) q4) (by omega)
theorem mul_np {a b : Int} (ha : 0 ≤ a) (hb : b ≤ 0) : a * b ≤ 0 := by
  have := Int.mul_nonneg ha (show 0 ≤ -b by omega)
  rw [Int.mul_neg] at this
  omega
theorem BP.out0 {V : Int → Int} {N tb best pt : Int} (h : BP V N tb best pt) (hm : Mono V N) (hp : pt ≤ N) (hv : V pt ≤ 0) : IsBest (fun i => i * V i) N best := by
  obtain ⟨h1, h2, h3, -, h4, h5, h6⟩ := h
  have np : ∀ i, pt ≤ i → i ≤ N → i * V i ≤ 0 := fun i r1 r2 => mul_np (by omega) (by have := hm pt i h1 r1 r2; omega)
  rcases h6 with ⟨q1, q2, q3⟩ | ⟨q1, q2, j, q3, q4, q5⟩
  · have h0 : 0 ≤ best * V best := by
      by_cases hb : best = 0
      · rw [hb, Int.zero_mul]; omega
      · have := q2 0 (by omega) (by omega)
        rw [Int.zero_mul] at this
        omega
    refine ⟨h2, h3, fun i r1 r2 => by show i * V i < best * V best; rw [← q1]; exact q2 i r1 r2, fun i r1 r2 => ?_⟩
    show i * V i ≤ best * V best
    by_cases hi : i < pt
    · rw [← q1]; exact q3 i r1 hi r2
    · have := np i (by omega) r2; omega
  · have hj : pt ≤ j := by
      by_cases hj : pt ≤ j
      · exact hj
      · exact absurd (q2 j q3 (by omega) q4) (by omega)
    have hj0 := np j hj q4
    have hpt : pt = 0 := by
      by_cases hpt : pt = 0
      · exact hpt
      · have := q2 0 (by omega) (by omega) (by omega)
        rw [Int.zero_mul] at this
        omega
    subst q1
    refine ⟨by omega, h3, fun i r1 r2 => absurd r1 (by omega), fun i r1 r2 => ?_⟩
    show i * V i ≤ 0 * V 0
    rw [Int.zero_mul]
    exact np i (by omega) r2
theorem leap {V : Int → Int} {N tb pt i : Int} (hm : Mono V N) (h1 : 0 ≤ pt) (htb : 0 ≤ tb) (hv : 0 < V pt) (hf : pt * V pt ≤ tb) (r1 : pt ≤ i) (r2 : i < max (pt + 1) (tb / V pt + 1)) (r3 : i ≤ N) : i * V i ≤ tb := by
  by_cases hi : i = pt
  · subst hi; exact hf
  · have hq : i ≤ tb / V pt := by omega
    have e1 : i * V i ≤ i * V pt := Int.mul_le_mul_of_nonneg_left (hm pt i h1 r1 r3) (by omega)
    have e2 : i * V pt ≤ tb / V pt * V pt := Int.mul_le_mul_of_nonneg_right hq (by omega)
    have e3 : tb / V pt * V pt ≤ tb := Int.ediv_mul_le tb (by omega)
    omega
theorem div_b {tb v : Int} (h : 0 ≤ tb ∧ tb ≤ 52000000) (hv : 0 < v) : 0 ≤ tb / v ∧ tb / v ≤ 52000000 := by
  have h1 : 0 ≤ tb / v := Int.ediv_nonneg h.1 (by omega)
  have h2 : tb / v ≤ tb := Int.ediv_le_self _ h.1
  omega
theorem BP.nn {V : Int → Int} {N tb best pt : Int} (h : BP V N tb best pt) (hf : pt * V pt ≤ tb) : 0 ≤ tb := by
  obtain ⟨h1, h2, h3, -, h4, h5, h6⟩ := h
  rcases h4 with h4 | ⟨h4, h7⟩
  · exact h4
  · subst h7
    rw [Int.zero_mul] at hf
    exact hf
theorem BP.no {V : Int → Int} {N tb best pt : Int} (h : BP V N tb best pt) (hm : Mono V N) (hN : N ≤ 7200) (hp : pt ≤ N) (hv : 0 < V pt) (hf : pt * V pt ≤ tb) : BP V N tb best (max (pt + 1) (tb / V pt + 1)) := by
  have h0 := h.nn hf
  obtain ⟨h1, h2, h3, h9, h4, h5, h6⟩ := h
  have hd := div_b ⟨h0, h5⟩ hv
  refine ⟨by omega, h2, h3, by omega, Or.inl h0, h5, ?_⟩
  have key : ∀ i, pt ≤ i → i < max (pt + 1) (tb / V pt + 1) → i ≤ N → i * V i ≤ tb := fun i r1 r2 r3 => leap hm h1 h0 hv hf r1 r2 r3
  rcases h6 with ⟨q1, q2, q3⟩ | ⟨q1, q2, q3⟩
  · refine Or.inl ⟨q1, q2, fun i r1 r2 r3 => ?_⟩
    by_cases hi : i < pt
    · exact q3 i r1 hi r3
    · exact key i (by omega) r2 r3
  · refine Or.inr ⟨q1, fun i r1 r2 r3 => ?_, q3⟩
    by_cases hi : i < pt
    · exact q2 i r1 hi r3
    · exact key i (by omega) r2 r3
theorem BP.yes {V : Int → Int} {N tb best pt : Int} (h : BP V N tb best pt) (hm : Mono V N) (hN : N ≤ 7200) (hp : pt ≤ N) (hv : 0 < V pt) (hf : tb < pt * V pt) (hb : pt * V pt ≤ 52000000) : BP V N (pt * V pt) pt (max (pt + 1) (pt * V pt / V pt + 1)) := by
  obtain ⟨h1, h2, h3, h9, h4, h5, h6⟩ := h
  have h0 : 0 ≤ pt * V pt := Int.mul_nonneg h1 (by omega)
  have hd := div_b ⟨h0, hb⟩ hv
  refine ⟨by omega, h1, hp, by omega, Or.inl h0, hb, Or.inl ⟨rfl, fun i r1 r2 => ?_, fun i r1 r2 r3 => leap hm h1 h0 hv (Int.le_refl _) r1 r2 r3⟩⟩
  have : i * V i ≤ tb := by
    rcases h6 with ⟨q1, q2, q3⟩ | ⟨q1, q2, q3⟩
    · by_cases hi : i < best
      · have := q2 i r1 hi; omega
      · exact q3 i (by omega) r2 (by omega)
    · exact q2 i r1 r2 (by omega)
  omega
/-- halving -/
def dlvT (F : Int → Int) (v : Int) : Nat → Int
  | 0 => 0
  | n + 1 => if v ≤ F ((n + 1 : Nat) : Int) then ((n + 1 : Nat) : Int) else dlvT F v n
theorem dlvT_b (F : Int → Int) (v : Int) : ∀ n : Nat, 0 ≤ dlvT F v n ∧ dlvT F v n ≤ n
  | 0 => by simp [dlvT]
  | n + 1 => by
    have := dlvT_b F v n
    unfold dlvT
    split <;> omega
theorem dlvT_eq {F : Int → Int} {v : Int} : ∀ (n : Nat) {a : Int}, 0 ≤ a → a ≤ n → (a = 0 ∨ v ≤ F a) → (∀ i, a < i → i ≤ n → F i < v) → dlvT F v n = a
  | 0, a, h1, h2, h3, h4 => by
    have : a = 0 := by omega
    subst this; rfl
  | n + 1, a, h1, h2, h3, h4 => by
    unfold dlvT
    by_cases h : a = ((n + 1 : Nat) : Int)
    · subst h
      rw [if_pos (by rcases h3 with h3 | h3
                     · omega
                     · exact h3)]
    · have := h4 ((n + 1 : Nat) : Int) (by omega) (by omega)
      rw [if_neg (by omega)]
      exact dlvT_eq n h1 (by omega) h3 (fun i q1 q2 => h4 i q1 (by omega))
/-- climbing -/
def climbR (f : Int → Int) (N : Int) : Nat → Int → Int
  | 0, c => c
  | n + 1, c => if c < N ∧ f c < f (c + 1) then climbR f N n (c + 1) else if 0 < c ∧ f c < f (c - 1) then climbR f N n (c - 1) else c
/-- how many points up to n have more than x -/
def more (f : Int → Int) (x : Int) : Nat → Nat
  | 0 => 0
  | n + 1 => more f x n + (if x < f n then 1 else 0)
theorem more_le {f : Int → Int} {x y : Int} (h : x ≤ y) : ∀ n : Nat, more f y n ≤ more f x n
  | 0 => Nat.le_refl _
  | n + 1 => by
    have := more_le (f := f) h n
    unfold more
    split <;> split <;> omega
theorem more_lt {f : Int → Int} {x : Int} : ∀ (n : Nat) {c : Int}, 0 ≤ c → c < n → x < f c → more f (f c) n < more f x n
  | 0, c, h1, h2, h3 => absurd h1 (by omega)
  | n + 1, c, h1, h2, h3 => by
    unfold more
    by_cases h : c = (n : Int)
    · subst h
      have := more_le (f := f) (Int.le_of_lt h3) n
      rw [if_pos h3, if_neg (by omega)]
      omega
    · have := more_lt n h1 (by omega) h3
      split <;> split <;> omega
theorem more_n (f : Int → Int) (x : Int) : ∀ n : Nat, more f x n ≤ n
  | 0 => Nat.le_refl _
  | n + 1 => by
    have := more_n f x n
    unfold more
    split <;> omega
theorem more_c {f : Int → Int} : ∀ (n : Nat) {c : Int}, 0 ≤ c → c < n → more f (f c) n + 1 ≤ n
  | 0, c, h1, h2 => absurd h1 (by omega)
  | n + 1, c, h1, h2 => by
    unfold more
    by_cases h : c = (n : Int)
    · subst h
      have := more_n f (f n) n
      rw [if_neg (by omega)]
      omega
    · have := more_c (f := f) n h1 (by omega)
      split <;> omega
theorem climb_more {f : Int → Int} {N : Int} : ∀ (n : Nat) (c : Int), 0 ≤ c → c ≤ N → more f (f c) (N + 1).toNat ≤ n → climbR f N (n + 1) c = climbR f N n c
  | 0, c, h1, h2, h3 => by
    show (if c < N ∧ f c < f (c + 1) then climbR f N 0 (c + 1) else if 0 < c ∧ f c < f (c - 1) then climbR f N 0 (c - 1) else c) = c
    rw [if_neg, if_neg]
    · rintro ⟨q1, q2⟩
      have := more_lt (N + 1).toNat (f := f) (x := f c) (c := c - 1) (by omega) (by omega) q2
      omega
    · rintro ⟨q1, q2⟩
      have := more_lt (N + 1).toNat (f := f) (x := f c) (c := c + 1) (by omega) (by omega) q2
      omega
  | n + 1, c, h1, h2, h3 => by
    rw [climbR]
    conv => rhs; rw [climbR]
    by_cases q : c < N ∧ f c < f (c + 1)
    · rw [if_pos q, if_pos q]
      have := more_lt (N + 1).toNat (f := f) (x := f c) (c := c + 1) (by omega) (by omega) q.2
      exact climb_more n (c + 1) (by omega) (by omega) (by omega)
    · rw [if_neg q, if_neg q]
      by_cases q : 0 < c ∧ f c < f (c - 1)
      · rw [if_pos q, if_pos q]
        have := more_lt (N + 1).toNat (f := f) (x := f c) (c := c - 1) (by omega) (by omega) q.2
        exact climb_more n (c - 1) (by omega) (by omega) (by omega)
      · rw [if_neg q, if_neg q]
def climb (f : Int → Int) (N c : Int) : Int := climbR f N N.toNat c
theorem climb_eq {f : Int → Int} {N c : Int} (h1 : 0 ≤ c) (h2 : c ≤ N) : climb f N c = if c < N ∧ f c < f (c + 1) then climb f N (c + 1) else if 0 < c ∧ f c < f (c - 1) then climb f N (c - 1) else c := by
  unfold climb
  have h3 := more_c (f := f) (N + 1).toNat h1 (by omega)
  rw [← climb_more N.toNat c h1 h2 (by omega), climbR]
theorem climbR_b {f : Int → Int} {N : Int} : ∀ (n : Nat) (c : Int), 0 ≤ c → c ≤ N → 0 ≤ climbR f N n c ∧ climbR f N n c ≤ N
  | 0, c, h1, h2 => ⟨h1, h2⟩
  | n + 1, c, h1, h2 => by
    rw [climbR]
    split
    · exact climbR_b n _ (by omega) (by omega)
    · split
      · exact climbR_b n _ (by omega) (by omega)
      · exact ⟨h1, h2⟩
/-- scanning the multiples of v -/
def scanT (f : Int → Int) (v : Int) : Nat → Int
  | 0 => 0
  | n + 1 => if f (scanT f v n) < f (n * v) then n * v else scanT f v n
def scan (f : Int → Int) (N v : Int) : Int := scanT f v (N / v + 1).toNat
/-- peaks -/
abbrev isPk (f : Int → Int) (N i : Int) : Prop := f (i - 1) < f i ∧ (i = N ∨ f (i + 1) < f i)
def pkB (f : Int → Int) (N i : Int) : Bool := decide (isPk f N i)
theorem pkB_t {f : Int → Int} {N i : Int} (h : isPk f N i) : pkB f N i = true := decide_eq_true h
theorem pkB_f {f : Int → Int} {N i : Int} (h : ¬ isPk f N i) : pkB f N i = false := decide_eq_false h
def pkN (f : Int → Int) (N : Int) : Nat → Int
  | 0 => 0
  | n + 1 => pkN f N n + (if pkB f N ((n + 1 : Nat) : Int) = true then 1 else 0)
def pkS (f : Int → Int) (N : Int) : Nat → Int → Int → Int
  | 0, _, _ => -1005
  | n + 1, i, k => if pkB f N i = true then (if k = 0 then i else pkS f N n (i + 1) (k - 1)) else pkS f N n (i + 1) k
/-- the tracker -/
def pobs (f : Int → Int) (N step : Int) : Nat → Int → Bool → Int
  | 0, c, _ => c
  | n + 1, c, u => if f c < f (if u = true then min (c + step) N else max (c - step) 0) then pobs f N step n (if u = true then min (c + step) N else max (c - step) 0) u else pobs f N step n c (!u)
