/-! numbers: a Java int or long as the image of a whole number -/
def zI (z : Int) : Int32 := Int32.ofInt z
def zJ (z : Int) : Int64 := Int64.ofInt z
theorem zI_toInt {a : Int} (h1 : -2147483648 ≤ a) (h2 : a ≤ 2147483647) : (zI a).toInt = a := Int32.toInt_ofInt_of_le (by omega) (by omega)
theorem zJ_toInt {a : Int} (h1 : -9223372036854775808 ≤ a) (h2 : a ≤ 9223372036854775807) : (zJ a).toInt = a := Int64.toInt_ofInt_of_le (by omega) (by omega)
theorem zI_add (a b : Int) : zI a + zI b = zI (a + b) := (Int32.ofInt_add ..).symm
theorem zI_sub (a b : Int) : zI a - zI b = zI (a - b) := (Int32.ofInt_sub ..).symm
theorem zI_mul (a b : Int) : zI a * zI b = zI (a * b) := (Int32.ofInt_mul ..).symm
theorem zI_neg (a : Int) : - zI a = zI (-a) := (Int32.ofInt_neg ..).symm
theorem zJ_add (a b : Int) : zJ a + zJ b = zJ (a + b) := (Int64.ofInt_add ..).symm
theorem zJ_sub (a b : Int) : zJ a - zJ b = zJ (a - b) := (Int64.ofInt_sub ..).symm
theorem zJ_mul (a b : Int) : zJ a * zJ b = zJ (a * b) := (Int64.ofInt_mul ..).symm
theorem zI_le {a b : Int} (ha : -2147483648 ≤ a ∧ a ≤ 2147483647) (hb : -2147483648 ≤ b ∧ b ≤ 2147483647) : zI a ≤ zI b ↔ a ≤ b := by
  rw [Int32.le_iff_toInt_le, zI_toInt ha.1 ha.2, zI_toInt hb.1 hb.2]
theorem zI_lt {a b : Int} (ha : -2147483648 ≤ a ∧ a ≤ 2147483647) (hb : -2147483648 ≤ b ∧ b ≤ 2147483647) : zI a < zI b ↔ a < b := by
  rw [Int32.lt_iff_toInt_lt, zI_toInt ha.1 ha.2, zI_toInt hb.1 hb.2]
theorem zI_inj {a b : Int} (ha : -2147483648 ≤ a ∧ a ≤ 2147483647) (hb : -2147483648 ≤ b ∧ b ≤ 2147483647) : zI a = zI b ↔ a = b := by
  rw [← Int32.toInt_inj, zI_toInt ha.1 ha.2, zI_toInt hb.1 hb.2]
theorem zJ_lt {a b : Int} (ha : -9223372036854775808 ≤ a ∧ a ≤ 9223372036854775807) (hb : -9223372036854775808 ≤ b ∧ b ≤ 9223372036854775807) : zJ a < zJ b ↔ a < b := by
  rw [Int64.lt_iff_toInt_lt, zJ_toInt ha.1 ha.2, zJ_toInt hb.1 hb.2]
theorem zJ_inj {a b : Int} (ha : -9223372036854775808 ≤ a ∧ a ≤ 9223372036854775807) (hb : -9223372036854775808 ≤ b ∧ b ≤ 9223372036854775807) : zJ a = zJ b ↔ a = b := by
  rw [← Int64.toInt_inj, zJ_toInt ha.1 ha.2, zJ_toInt hb.1 hb.2]
theorem zI_div {a b : Int} (ha : 0 ≤ a ∧ a ≤ 2147483647) (hb : 0 < b ∧ b ≤ 2147483647) : zI a / zI b = zI (a / b) := by
  have e : a / b = a.tdiv b := (Int.tdiv_eq_ediv_of_nonneg ha.1).symm
  rw [e]
  exact (Int32.ofInt_tdiv (by show (-2147483648 : Int) ≤ a; omega) (by show a ≤ (2147483647 : Int); omega) (by show (-2147483648 : Int) ≤ b; omega) (by show b ≤ (2147483647 : Int); omega)).symm
theorem zJ_div {a b : Int} (ha : 0 ≤ a ∧ a ≤ 9223372036854775807) (hb : 0 < b ∧ b ≤ 9223372036854775807) : zJ a / zJ b = zJ (a / b) := by
  have e : a / b = a.tdiv b := (Int.tdiv_eq_ediv_of_nonneg ha.1).symm
  rw [e]
  exact (Int64.ofInt_tdiv (by show (-9223372036854775808 : Int) ≤ a; omega) (by show a ≤ (9223372036854775807 : Int); omega) (by show (-9223372036854775808 : Int) ≤ b; omega) (by show b ≤ (9223372036854775807 : Int); omega)).symm
theorem zI_0 : (0 : Int32) = zI 0 := rfl
theorem zI_ne0 {a : Int} (ha : -2147483648 ≤ a ∧ a ≤ 2147483647) (h : a ≠ 0) : ¬ zI a = 0 := by
  rw [zI_0, zI_inj ha ⟨by omega, by omega⟩]; exact h
theorem zJ_ne0 {a : Int} (ha : -9223372036854775808 ≤ a ∧ a ≤ 9223372036854775807) (h : a ≠ 0) : ¬ zJ a = 0 := by
  rw [show (0 : Int64) = zJ 0 from rfl, zJ_inj ha ⟨by omega, by omega⟩]; exact h
theorem zI_clamp {a : Int} (h1 : 0 ≤ a) (h2 : a ≤ 2147483647) : (zI a).toNatClampNeg = a.toNat := by
  show (zI a).toInt.toNat = a.toNat
  rw [zI_toInt (by omega) h2]
theorem zI_in {a : Int} {n : Nat} (h1 : 0 ≤ a) (h2 : a < n) (h3 : a ≤ 2147483647) : vp_in (zI a) n := by
  intro h
  rcases h with h | h
  · rw [zI_0, zI_lt ⟨by omega, by omega⟩ ⟨by omega, by omega⟩] at h; omega
  · rw [zI_clamp h1 h3] at h; omega
theorem zI_i2l {a : Int} (h1 : -2147483648 ≤ a) (h2 : a ≤ 2147483647) : (zI a).toInt64 = zJ a := Int32.toInt64_ofInt (by show (-2147483648 : Int) ≤ a; omega) (by show a ≤ (2147483647 : Int); omega)
theorem zJ_l2i (a : Int) : (zJ a).toInt32 = zI a := Int64.toInt32_ofInt
theorem zI_max {a b : Int} (ha : -2147483648 ≤ a ∧ a ≤ 2147483647) (hb : -2147483648 ≤ b ∧ b ≤ 2147483647) : (if zI a < zI b then zI b else zI a) = zI (max a b) := by
  by_cases h : a < b
  · rw [if_pos ((zI_lt ha hb).mpr h)]; congr 1; omega
  · rw [if_neg (fun q => h ((zI_lt ha hb).mp q))]; congr 1; omega
theorem zI_ex (x : Int32) : ∃ z : Int, (-2147483648 ≤ z ∧ z ≤ 2147483647) ∧ x = zI z := ⟨x.toInt, ⟨by have := x.le_toInt; omega, by have := x.toInt_lt; omega⟩, (Int32.ofInt_toInt x).symm⟩
/-- a row of whole numbers, changed at one place -/
def zup (F : Int → Int) (i v : Int) : Int → Int := fun j => if j = i then v else F j
theorem zup_s (F : Int → Int) (i v : Int) : zup F i v i = v := if_pos rfl
theorem zup_n (F : Int → Int) {i j : Int} (v : Int) (h : j ≠ i) : zup F i v j = F j := if_neg h
/-- a table of rows, changed at one place of one row -/
def up (σ : Nat → Int → Int) (f : Nat) (i v : Int) : Nat → Int → Int := fun g => if g = f then zup (σ f) i v else σ g
theorem up_r (σ : Nat → Int → Int) (f : Nat) (i v : Int) : up σ f i v f = zup (σ f) i v := if_pos rfl
theorem up_o (σ : Nat → Int → Int) {f g : Nat} (i v : Int) (h : g ≠ f) : up σ f i v g = σ g := if_neg h
theorem zup_row32 (F : Int → Int) {i : Int} (h : 0 ≤ i) (v : Int) : upd (fun k : Nat => zI (F k)) i.toNat (zI v) = fun k : Nat => zI (zup F i v k) := by
  funext k
  unfold upd zup
  by_cases hk : k = i.toNat
  · have : (k : Int) = i := by omega
    rw [if_pos hk, if_pos this]
  · have : ¬ (k : Int) = i := by omega
    rw [if_neg hk, if_neg this]
theorem zup_row64 (F : Int → Int) {i : Int} (h : 0 ≤ i) (v : Int) : vp_updL (fun k : Nat => zJ (F k)) i.toNat (zJ v) = fun k : Nat => zJ (zup F i v k) := by
  funext k
  unfold vp_updL zup
  by_cases hk : k = i.toNat
  · have : (k : Int) = i := by omega
    rw [if_pos hk, if_pos this]
  · have : ¬ (k : Int) = i := by omega
    rw [if_neg hk, if_neg this]
