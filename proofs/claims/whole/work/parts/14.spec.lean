/-! the rooms of the methods; bounds; what a state means -/
abbrev rm_X0_bestPoint : Room := { frames := 4, cells := 0, slots := 0, locals := 95 }
abbrev rm_X0_greatestProduct : Room := { frames := 5, cells := 0, slots := 0, locals := 122 }
abbrev rm_X0_productAt : Room := { frames := 4, cells := 0, slots := 0, locals := 95 }
abbrev rm_X2_end : Room := { frames := 0, cells := 0, slots := 0, locals := 0 }
abbrev rm_X2_valueAt : Room := { frames := 3, cells := 0, slots := 0, locals := 72 }
abbrev rm_X3_end : Room := { frames := 0, cells := 0, slots := 0, locals := 0 }
abbrev rm_X3_illuminate : Room := { frames := 0, cells := 0, slots := 0, locals := 0 }
abbrev rm_X3_valueAt : Room := { frames := 0, cells := 0, slots := 0, locals := 0 }
abbrev rm_X4_bestOfScan : Room := { frames := 5, cells := 0, slots := 0, locals := 116 }
abbrev rm_X4_bypassedAt : Room := { frames := 0, cells := 0, slots := 0, locals := 0 }
abbrev rm_X4_climbFrom : Room := { frames := 5, cells := 0, slots := 0, locals := 116 }
abbrev rm_X4_deliveredAt : Room := { frames := 2, cells := 0, slots := 0, locals := 48 }
abbrev rm_X4_end : Room := { frames := 1, cells := 0, slots := 0, locals := 24 }
abbrev rm_X4_isFull : Room := { frames := 0, cells := 0, slots := 0, locals := 0 }
abbrev rm_X4_isPeak : Room := { frames := 5, cells := 0, slots := 0, locals := 116 }
abbrev rm_X4_valueAt : Room := { frames := 1, cells := 0, slots := 0, locals := 22 }
abbrev rm_X5_addModule : Room := { frames := 2, cells := 0, slots := 0, locals := 46 }
abbrev rm_X5_addString : Room := { frames := 0, cells := 0, slots := 0, locals := 0 }
abbrev rm_X5_arrayCurrent : Room := { frames := 4, cells := 0, slots := 0, locals := 95 }
abbrev rm_X5_bestArrayVoltage : Room := { frames := 5, cells := 0, slots := 0, locals := 122 }
abbrev rm_X5_bestCurrent : Room := { frames := 5, cells := 0, slots := 0, locals := 122 }
abbrev rm_X5_bestPower : Room := { frames := 6, cells := 0, slots := 0, locals := 142 }
abbrev rm_X5_bestSwapGain : Room := { frames := 7, cells := 0, slots := 0, locals := 170 }
abbrev rm_X5_bestSwapHigher : Room := { frames := 7, cells := 0, slots := 0, locals := 170 }
abbrev rm_X5_bestSwapLower : Room := { frames := 7, cells := 0, slots := 0, locals := 170 }
abbrev rm_X5_bypassedModules : Room := { frames := 2, cells := 0, slots := 0, locals := 48 }
abbrev rm_X5_currentLimit : Room := { frames := 2, cells := 0, slots := 0, locals := 48 }
abbrev rm_X5_exchange : Room := { frames := 1, cells := 0, slots := 0, locals := 23 }
abbrev rm_X5_findBestSwap : Room := { frames := 6, cells := 0, slots := 0, locals := 142 }
abbrev rm_X5_isModule : Room := { frames := 0, cells := 0, slots := 0, locals := 0 }
abbrev rm_X5_isString : Room := { frames := 0, cells := 0, slots := 0, locals := 0 }
abbrev rm_X5_isWithin : Room := { frames := 0, cells := 0, slots := 0, locals := 0 }
abbrev rm_X5_mismatchLoss : Room := { frames := 6, cells := 0, slots := 0, locals := 142 }
abbrev rm_X5_moduleAt : Room := { frames := 1, cells := 0, slots := 0, locals := 21 }
abbrev rm_X5_modulePeakPower : Room := { frames := 6, cells := 0, slots := 0, locals := 142 }
abbrev rm_X5_moduleVoltage : Room := { frames := 1, cells := 0, slots := 0, locals := 22 }
abbrev rm_X5_moveModule : Room := { frames := 2, cells := 0, slots := 0, locals := 47 }
abbrev rm_X5_peakCount : Room := { frames := 6, cells := 0, slots := 0, locals := 140 }
abbrev rm_X5_peakCurrent : Room := { frames := 6, cells := 0, slots := 0, locals := 140 }
abbrev rm_X5_perturbAndObserve : Room := { frames := 5, cells := 0, slots := 0, locals := 116 }
abbrev rm_X5_photocurrent : Room := { frames := 1, cells := 0, slots := 0, locals := 21 }
abbrev rm_X5_place : Room := { frames := 0, cells := 0, slots := 0, locals := 0 }
abbrev rm_X5_putLast : Room := { frames := 1, cells := 0, slots := 0, locals := 23 }
abbrev rm_X5_regroup : Room := { frames := 1, cells := 0, slots := 0, locals := 23 }
abbrev rm_X5_scanAndClimb : Room := { frames := 6, cells := 0, slots := 0, locals := 144 }
abbrev rm_X5_setBypassDiode : Room := { frames := 1, cells := 0, slots := 0, locals := 21 }
abbrev rm_X5_setDiodeDrop : Room := { frames := 1, cells := 0, slots := 0, locals := 22 }
abbrev rm_X5_setIrradiance : Room := { frames := 1, cells := 0, slots := 0, locals := 22 }
abbrev rm_X5_setResistance : Room := { frames := 1, cells := 0, slots := 0, locals := 22 }
abbrev rm_X5_shade : Room := { frames := 1, cells := 0, slots := 0, locals := 22 }
abbrev rm_X5_sortByLightCurrent : Room := { frames := 0, cells := 0, slots := 0, locals := 0 }
abbrev rm_X5_stringOf : Room := { frames := 1, cells := 0, slots := 0, locals := 21 }
abbrev rm_X5_stringPower : Room := { frames := 5, cells := 0, slots := 0, locals := 116 }
abbrev rm_X5_stringVoltage : Room := { frames := 2, cells := 0, slots := 0, locals := 48 }
abbrev rm_X5_swapModules : Room := { frames := 2, cells := 0, slots := 0, locals := 47 }
abbrev rm_X5_takeOut : Room := { frames := 1, cells := 0, slots := 0, locals := 23 }
abbrev rm_X5_totalBestPower : Room := { frames := 6, cells := 0, slots := 0, locals := 142 }
abbrev rm_X6_addDelivered : Room := { frames := 3, cells := 0, slots := 0, locals := 69 }
abbrev rm_X6_addModule : Room := { frames := 2, cells := 0, slots := 0, locals := 43 }
abbrev rm_X6_addString : Room := { frames := 0, cells := 0, slots := 0, locals := 0 }
abbrev rm_X6_append : Room := { frames := 0, cells := 0, slots := 0, locals := 0 }
abbrev rm_X6_arrayCurrent : Room := { frames := 5, cells := 0, slots := 0, locals := 114 }
abbrev rm_X6_bestArrayVoltage : Room := { frames := 5, cells := 0, slots := 0, locals := 114 }
abbrev rm_X6_bestCurrent : Room := { frames := 6, cells := 0, slots := 0, locals := 136 }
abbrev rm_X6_bestOf : Room := { frames := 5, cells := 0, slots := 0, locals := 113 }
abbrev rm_X6_bestPower : Room := { frames := 7, cells := 0, slots := 0, locals := 157 }
abbrev rm_X6_bestPowerOf : Room := { frames := 6, cells := 0, slots := 0, locals := 136 }
abbrev rm_X6_bestSwapGain : Room := { frames := 8, cells := 0, slots := 0, locals := 183 }
abbrev rm_X6_bestSwapHigher : Room := { frames := 8, cells := 0, slots := 0, locals := 183 }
abbrev rm_X6_bestSwapLower : Room := { frames := 8, cells := 0, slots := 0, locals := 183 }
abbrev rm_X6_bypassedModules : Room := { frames := 2, cells := 0, slots := 0, locals := 46 }
abbrev rm_X6_currentLimit : Room := { frames := 2, cells := 0, slots := 0, locals := 46 }
abbrev rm_X6_exchange : Room := { frames := 1, cells := 0, slots := 0, locals := 23 }
abbrev rm_X6_findBestSwap : Room := { frames := 7, cells := 0, slots := 0, locals := 157 }
abbrev rm_X6_isBetween : Room := { frames := 0, cells := 0, slots := 0, locals := 0 }
abbrev rm_X6_isModule : Room := { frames := 1, cells := 0, slots := 0, locals := 22 }
abbrev rm_X6_isPeak : Room := { frames := 0, cells := 0, slots := 0, locals := 0 }
abbrev rm_X6_isString : Room := { frames := 1, cells := 0, slots := 0, locals := 22 }
abbrev rm_X6_layOut : Room := { frames := 4, cells := 0, slots := 0, locals := 91 }
abbrev rm_X6_layOutArray : Room := { frames := 4, cells := 0, slots := 0, locals := 93 }
abbrev rm_X6_limitOf : Room := { frames := 1, cells := 0, slots := 0, locals := 21 }
abbrev rm_X6_litVoltage : Room := { frames := 0, cells := 0, slots := 0, locals := 0 }
abbrev rm_X6_mismatchLoss : Room := { frames := 8, cells := 0, slots := 0, locals := 180 }
abbrev rm_X6_moduleAt : Room := { frames := 2, cells := 0, slots := 0, locals := 43 }
abbrev rm_X6_modulePeakPower : Room := { frames := 2, cells := 0, slots := 0, locals := 49 }
abbrev rm_X6_moduleVoltage : Room := { frames := 2, cells := 0, slots := 0, locals := 45 }
abbrev rm_X6_moveModule : Room := { frames := 2, cells := 0, slots := 0, locals := 47 }
abbrev rm_X6_peakCount : Room := { frames := 5, cells := 0, slots := 0, locals := 113 }
abbrev rm_X6_peakCurrent : Room := { frames := 5, cells := 0, slots := 0, locals := 113 }
abbrev rm_X6_peakPowerOf : Room := { frames := 1, cells := 0, slots := 0, locals := 23 }
abbrev rm_X6_perturbAndObserve : Room := { frames := 5, cells := 0, slots := 0, locals := 113 }
abbrev rm_X6_photocurrent : Room := { frames := 2, cells := 0, slots := 0, locals := 43 }
abbrev rm_X6_photocurrentOf : Room := { frames := 0, cells := 0, slots := 0, locals := 0 }
abbrev rm_X6_placeOf : Room := { frames := 0, cells := 0, slots := 0, locals := 0 }
abbrev rm_X6_powerAt : Room := { frames := 3, cells := 0, slots := 0, locals := 69 }
abbrev rm_X6_regroup : Room := { frames := 1, cells := 0, slots := 0, locals := 23 }
abbrev rm_X6_remove : Room := { frames := 1, cells := 0, slots := 0, locals := 23 }
abbrev rm_X6_scanAndClimb : Room := { frames := 5, cells := 0, slots := 0, locals := 113 }
abbrev rm_X6_setBypassDiode : Room := { frames := 2, cells := 0, slots := 0, locals := 43 }
abbrev rm_X6_setDiodeDrop : Room := { frames := 1, cells := 0, slots := 0, locals := 22 }
abbrev rm_X6_setIrradiance : Room := { frames := 2, cells := 0, slots := 0, locals := 43 }
abbrev rm_X6_setResistance : Room := { frames := 2, cells := 0, slots := 0, locals := 43 }
abbrev rm_X6_shade : Room := { frames := 2, cells := 0, slots := 0, locals := 43 }
abbrev rm_X6_stringOf : Room := { frames := 2, cells := 0, slots := 0, locals := 43 }
abbrev rm_X6_stringPower : Room := { frames := 4, cells := 0, slots := 0, locals := 91 }
abbrev rm_X6_stringVoltage : Room := { frames := 3, cells := 0, slots := 0, locals := 69 }
abbrev rm_X6_swapModules : Room := { frames := 2, cells := 0, slots := 0, locals := 47 }
abbrev rm_X6_totalBestPower : Room := { frames := 8, cells := 0, slots := 0, locals := 180 }
abbrev rm_X6_totalNow : Room := { frames := 7, cells := 0, slots := 0, locals := 157 }
abbrev rm_X6_voltageAt : Room := { frames := 2, cells := 0, slots := 0, locals := 45 }
abbrev rm_X6_voltageOf : Room := { frames := 1, cells := 0, slots := 0, locals := 23 }
def Bd (g : Nat → Int → Int) : Prop :=
  (0 ≤ g 0 0 ∧ g 0 0 ≤ 20) ∧ (0 ≤ g 0 1 ∧ g 0 1 ≤ 24) ∧ (0 ≤ g 0 2 ∧ g 0 2 ≤ 6) ∧
  (∀ i, 0 ≤ g 1 i ∧ g 1 i ≤ 1000) ∧ (∀ i, 0 ≤ g 2 i ∧ g 2 i ≤ 600) ∧ (∀ i, 0 ≤ g 3 i ∧ g 3 i ≤ 1200) ∧ (∀ i, 0 ≤ g 4 i ∧ g 4 i ≤ 5000) ∧ (∀ i, 0 ≤ g 5 i ∧ g 5 i ≤ 1) ∧ (∀ s, 0 ≤ g 6 s ∧ g 6 s ≤ 12) ∧ (∀ j, 0 ≤ g 7 j ∧ g 7 j ≤ 23)
theorem Bd.d {g : Nat → Int → Int} (h : Bd g) : 0 ≤ g 0 0 ∧ g 0 0 ≤ 20 := h.1
theorem Bd.mc {g : Nat → Int → Int} (h : Bd g) : 0 ≤ g 0 1 ∧ g 0 1 ≤ 24 := h.2.1
theorem Bd.sc {g : Nat → Int → Int} (h : Bd g) : 0 ≤ g 0 2 ∧ g 0 2 ≤ 6 := h.2.2.1
theorem Bd.b1 {g : Nat → Int → Int} (h : Bd g) (i : Int) : 0 ≤ g 1 i ∧ g 1 i ≤ 1000 := h.2.2.2.1 i
theorem Bd.b2 {g : Nat → Int → Int} (h : Bd g) (i : Int) : 0 ≤ g 2 i ∧ g 2 i ≤ 600 := h.2.2.2.2.1 i
theorem Bd.b3 {g : Nat → Int → Int} (h : Bd g) (i : Int) : 0 ≤ g 3 i ∧ g 3 i ≤ 1200 := h.2.2.2.2.2.1 i
theorem Bd.b4 {g : Nat → Int → Int} (h : Bd g) (i : Int) : 0 ≤ g 4 i ∧ g 4 i ≤ 5000 := h.2.2.2.2.2.2.1 i
theorem Bd.b5 {g : Nat → Int → Int} (h : Bd g) (i : Int) : 0 ≤ g 5 i ∧ g 5 i ≤ 1 := h.2.2.2.2.2.2.2.1 i
theorem Bd.b6 {g : Nat → Int → Int} (h : Bd g) (i : Int) : 0 ≤ g 6 i ∧ g 6 i ≤ 12 := h.2.2.2.2.2.2.2.2.1 i
theorem Bd.b7 {g : Nat → Int → Int} (h : Bd g) (i : Int) : 0 ≤ g 7 i ∧ g 7 i ≤ 23 := h.2.2.2.2.2.2.2.2.2 i
theorem mul_b {a b A B : Int} (ha : 0 ≤ a ∧ a ≤ A) (hb : 0 ≤ b ∧ b ≤ B) : 0 ≤ a * b ∧ a * b ≤ A * B := ⟨Int.mul_nonneg ha.1 hb.1, Int.mul_le_mul ha.2 hb.2 hb.1 (Int.le_trans ha.1 ha.2)⟩
def photo (g : Nat → Int → Int) (i : Int) : Int := g 3 i * g 1 i / 1000
theorem photo_b {g : Nat → Int → Int} (h : Bd g) (i : Int) : 0 ≤ photo g i ∧ photo g i ≤ 1200 := by
  have h1 := mul_b (h.b3 i) (h.b1 i)
  unfold photo
  omega
def lit (g : Nat → Int → Int) (i c : Int) : Int := max 0 (g 2 i - g 4 i * c / 10000)
def volt (g : Nat → Int → Int) (i c : Int) : Int := if photo g i < c then - g 0 0 else lit g i c
theorem lit_b {g : Nat → Int → Int} (h : Bd g) (i : Int) {c : Int} (hc : 0 ≤ c) : 0 ≤ lit g i c ∧ lit g i c ≤ 600 := by
  have h1 := h.b2 i
  have h2 : 0 ≤ g 4 i * c := Int.mul_nonneg (h.b4 i).1 hc
  unfold lit
  omega
theorem volt_b {g : Nat → Int → Int} (h : Bd g) (i : Int) {c : Int} (hc : 0 ≤ c) : -20 ≤ volt g i c ∧ volt g i c ≤ 600 := by
  have h1 := lit_b h i hc
  have h2 := h.d
  unfold volt
  split <;> omega
/-- sums, greatest and least over the first n places -/
def sumP (F : Int → Int) : Nat → Int
  | 0 => 0
  | n + 1 => sumP F n + F n
def mxP (F : Int → Int) : Nat → Int
  | 0 => 0
  | n + 1 => max (mxP F n) (F n)
def cpP (B F : Int → Int) : Nat → Int
  | 0 => 1200
  | n + 1 => if B n = 0 then min (cpP B F n) (F n) else cpP B F n
theorem sumP_s (F : Int → Int) {p : Int} (h : 0 ≤ p) : sumP F (p + 1).toNat = sumP F p.toNat + F p := by
  rw [show (p + 1).toNat = p.toNat + 1 by omega]
  show sumP F p.toNat + F (p.toNat : Int) = _
  rw [show (p.toNat : Int) = p by omega]
theorem mxP_s (F : Int → Int) {p : Int} (h : 0 ≤ p) : mxP F (p + 1).toNat = max (mxP F p.toNat) (F p) := by
  rw [show (p + 1).toNat = p.toNat + 1 by omega]
  show max (mxP F p.toNat) (F (p.toNat : Int)) = _
  rw [show (p.toNat : Int) = p by omega]
theorem cpP_s (B F : Int → Int) {p : Int} (h : 0 ≤ p) : cpP B F (p + 1).toNat = if B p = 0 then min (cpP B F p.toNat) (F p) else cpP B F p.toNat := by
  rw [show (p + 1).toNat = p.toNat + 1 by omega]
  show (if B (p.toNat : Int) = 0 then min (cpP B F p.toNat) (F (p.toNat : Int)) else cpP B F p.toNat) = _
  rw [show (p.toNat : Int) = p by omega]
theorem sumP_b {F : Int → Int} {a b : Int} (h : ∀ i, a ≤ F i ∧ F i ≤ b) : ∀ n : Nat, a * n ≤ sumP F n ∧ sumP F n ≤ b * n
  | 0 => by simp [sumP]
  | n + 1 => by
    have h1 := sumP_b h n
    have h2 := h n
    show a * ((n + 1 : Nat) : Int) ≤ sumP F n + F n ∧ sumP F n + F n ≤ b * ((n + 1 : Nat) : Int)
    rw [show ((n + 1 : Nat) : Int) = (n : Int) + 1 by omega, Int.mul_add, Int.mul_add]
    omega
theorem mxP_b {F : Int → Int} {b : Int} (hb : 0 ≤ b) (h : ∀ i, F i ≤ b) : ∀ n : Nat, 0 ≤ mxP F n ∧ mxP F n ≤ b
  | 0 => by simp [mxP]; exact hb
  | n + 1 => by
    have h1 := mxP_b hb h n
    have h2 := h n
    show 0 ≤ max (mxP F n) (F n) ∧ max (mxP F n) (F n) ≤ b
    omega
theorem cpP_b {B F : Int → Int} (h : ∀ i, 0 ≤ F i) : ∀ n : Nat, 0 ≤ cpP B F n ∧ cpP B F n ≤ 1200
  | 0 => by simp [cpP]
  | n + 1 => by
    have h1 := cpP_b (B := B) h n
    have h2 := h n
    show 0 ≤ (if B n = 0 then min (cpP B F n) (F n) else cpP B F n) ∧ (if B n = 0 then min (cpP B F n) (F n) else cpP B F n) ≤ 1200
    split <;> omega
def memb (g : Nat → Int → Int) (s p : Int) : Int := g 7 (12 * s + p)
def svolt (g : Nat → Int → Int) (s c : Int) : Int := sumP (fun p => volt g (memb g s p) c) (g 6 s).toNat
def limit (g : Nat → Int → Int) (s : Int) : Int := min (mxP (fun p => photo g (memb g s p)) (g 6 s).toNat) (cpP (fun p => g 5 (memb g s p)) (fun p => photo g (memb g s p)) (g 6 s).toNat)
def spow (g : Nat → Int → Int) (s c : Int) : Int := c * svolt g s c
theorem limit_b {g : Nat → Int → Int} (h : Bd g) (s : Int) : 0 ≤ limit g s ∧ limit g s ≤ 1200 := by
  have h1 := mxP_b (F := fun p => photo g (memb g s p)) (b := 1200) (by omega) (fun p => (photo_b h _).2) (g 6 s).toNat
  have h2 := cpP_b (B := fun p => g 5 (memb g s p)) (F := fun p => photo g (memb g s p)) (fun p => (photo_b h _).1) (g 6 s).toNat
  unfold limit
  omega
theorem sv_b {g : Nat → Int → Int} (h : Bd g) (s : Int) {c : Int} (hc : 0 ≤ c) {n : Nat} (hn : n ≤ 12) : -240 ≤ sumP (fun p => volt g (memb g s p) c) n ∧ sumP (fun p => volt g (memb g s p) c) n ≤ 7200 := by
  have h1 := sumP_b (F := fun p => volt g (memb g s p) c) (a := -20) (b := 600) (fun p => volt_b h _ hc) n
  omega
theorem svolt_b {g : Nat → Int → Int} (h : Bd g) (s : Int) {c : Int} (hc : 0 ≤ c) : -240 ≤ svolt g s c ∧ svolt g s c ≤ 7200 := sv_b h s hc (by have := h.b6 s; omega)
theorem mul_bb {a b A B C : Int} (ha : 0 ≤ a ∧ a ≤ A) (hb : -B ≤ b ∧ b ≤ C) (hB : 0 ≤ B) (hC : 0 ≤ C) : -(A * B) ≤ a * b ∧ a * b ≤ A * C := by
  have hA : 0 ≤ A := Int.le_trans ha.1 ha.2
  constructor
  · have h1 : a * (-b) ≤ a * B := Int.mul_le_mul_of_nonneg_left (by omega) ha.1
    have h2 : a * B ≤ A * B := Int.mul_le_mul_of_nonneg_right ha.2 hB
    rw [Int.mul_neg] at h1
    omega
  · have h1 : a * b ≤ a * C := Int.mul_le_mul_of_nonneg_left hb.2 ha.1
    have h2 : a * C ≤ A * C := Int.mul_le_mul_of_nonneg_right ha.2 hC
    omega
theorem spow_b {g : Nat → Int → Int} (h : Bd g) (s : Int) {c : Int} (hc : 0 ≤ c ∧ c ≤ 1200) : -288000 ≤ spow g s c ∧ spow g s c ≤ 8640000 := by
  have h1 := mul_bb hc (svolt_b h s hc.1) (by omega) (by omega)
  unfold spow
  omega
theorem rdI_of {x r : Int} {w : va_W} (h : x = r) : rdI r w (some (.int (zI x))) w := ⟨by rw [h], rfl⟩
theorem rdJ_of {x r : Int} {w : va_W} (h : x = r) : rdJ r w (some (.long (zJ x))) w := ⟨by rw [h], rfl⟩
theorem rdB_1 {c : Prop} {w : va_W} (h : c) : rdB c w (some (.int (zI 1))) w := Or.inl ⟨rfl, rfl, h⟩
theorem rdB_0 {c : Prop} {w : va_W} (h : ¬ c) : rdB c w (some (.int (zI 0))) w := Or.inr ⟨rfl, rfl, h⟩
/-- the light current of each module is kept right -/
def LC (σ : Nat → Int → Int) : Prop := ∀ i, σ 8 i = photo σ i
