theorem volt_mono {g : Nat → Int → Int} (h : Bd g) (m : Int) {i j : Int} (hi : 0 ≤ i) (hij : i ≤ j) : volt g m j ≤ volt g m i := by
  have h1 := lit_b h m hi
  have h2 := lit_b h m (Int.le_trans hi hij)
  have h3 := h.d
  have h4 : g 4 m * i ≤ g 4 m * j := Int.mul_le_mul_of_nonneg_left hij (h.b4 m).1
  unfold volt
  split <;> split <;> first | omega | (unfold lit at *; omega)
theorem sumP_mono {F G : Int → Int} (h : ∀ p, F p ≤ G p) : ∀ n : Nat, sumP F n ≤ sumP G n
  | 0 => Int.le_refl _
  | n + 1 => by
    have h1 := sumP_mono h n
    have h2 := h n
    show sumP F n + F n ≤ sumP G n + G n
    omega
theorem volt_Mono {g : Nat → Int → Int} (h : Bd g) (m N : Int) : Mono (volt g m) N := fun _ _ h1 h2 _ => volt_mono h m h1 h2
theorem svolt_Mono {g : Nat → Int → Int} (h : Bd g) (s N : Int) : Mono (svolt g s) N := fun _ _ h1 h2 _ => sumP_mono (fun _ => volt_mono h _ h1 h2) _
def mpow (g : Nat → Int → Int) (i c : Int) : Int := c * volt g i c
def mbest (g : Nat → Int → Int) (i : Int) : Int := bestTo (mpow g i) (photo g i).toNat
def mpeak (g : Nat → Int → Int) (i : Int) : Int := mpow g i (mbest g i)
def bestC (g : Nat → Int → Int) (s : Int) : Int := bestTo (spow g s) (limit g s).toNat
def bestP (g : Nat → Int → Int) (s : Int) : Int := spow g s (bestC g s)
def dlv (g : Nat → Int → Int) (s v : Int) : Int := dlvT (svolt g s) v (limit g s).toNat
def acur (g : Nat → Int → Int) (v : Int) : Int := sumP (fun s => dlv g s v) (g 0 2).toNat
def apow (g : Nat → Int → Int) (v : Int) : Int := v * acur g v
def bestV (g : Nat → Int → Int) : Int := bestTo (apow g) 7200
theorem dlv_b {g : Nat → Int → Int} (h : Bd g) (s v : Int) : 0 ≤ dlv g s v ∧ dlv g s v ≤ 1200 := by
  have h1 := dlvT_b (svolt g s) v (limit g s).toNat
  have h2 := limit_b h s
  unfold dlv
  omega
theorem dlvT_mono (F : Int → Int) {v u : Int} (h : v ≤ u) : ∀ n : Nat, dlvT F u n ≤ dlvT F v n
  | 0 => Int.le_refl _
  | n + 1 => by
    have h1 := dlvT_mono F h n
    have h2 := dlvT_b F u n
    have h3 := dlvT_b F v n
    unfold dlvT
    split <;> split <;> omega
theorem acur_Mono {g : Nat → Int → Int} (N : Int) : Mono (acur g) N := fun _ _ _ h2 _ => sumP_mono (fun _ => dlvT_mono _ h2 _) _
theorem ac_b {g : Nat → Int → Int} (h : Bd g) (v : Int) {n : Nat} (hn : n ≤ 6) : 0 ≤ sumP (fun s => dlv g s v) n ∧ sumP (fun s => dlv g s v) n ≤ 7200 := by
  have h1 := sumP_b (F := fun s => dlv g s v) (a := 0) (b := 1200) (fun s => dlv_b h s v) n
  omega
theorem acur_b {g : Nat → Int → Int} (h : Bd g) (v : Int) : 0 ≤ acur g v ∧ acur g v ≤ 7200 := ac_b h v (by have := h.sc; omega)
theorem mpow_b {g : Nat → Int → Int} (h : Bd g) (i : Int) {c : Int} (hc : 0 ≤ c ∧ c ≤ 7200) : -1728000 ≤ mpow g i c ∧ mpow g i c ≤ 51840000 := by
  have h0 := volt_b h i hc.1
  have h1 := mul_bb hc (B := 240) (C := 7200) (show -240 ≤ volt g i c ∧ volt g i c ≤ 7200 by omega) (by omega) (by omega)
  unfold mpow
  omega
theorem spow_b2 {g : Nat → Int → Int} (h : Bd g) (s : Int) {c : Int} (hc : 0 ≤ c ∧ c ≤ 7200) : -1728000 ≤ spow g s c ∧ spow g s c ≤ 51840000 := by
  have h1 := mul_bb hc (svolt_b h s hc.1) (by omega) (by omega)
  unfold spow
  omega
theorem apow_b {g : Nat → Int → Int} (h : Bd g) {c : Int} (hc : 0 ≤ c ∧ c ≤ 7200) : -1728000 ≤ apow g c ∧ apow g c ≤ 51840000 := by
  have h0 := acur_b h c
  have h1 := mul_bb hc (B := 240) (C := 7200) (show -240 ≤ acur g c ∧ acur g c ≤ 7200 by omega) (by omega) (by omega)
  unfold apow
  omega
def bitP (B : Int → Bool) : Nat → Int32
  | 0 => 0
  | n + 1 => if B n = true then bitP B n ||| (zI 1 <<< (zI n &&& 31)) else bitP B n
def byp (g : Nat → Int → Int) (s c : Int) : Int32 := bitP (fun p => decide (photo g (memb g s p) < c)) (g 6 s).toNat
theorem bitP_s (B : Int → Bool) {p : Int} (h : 0 ≤ p) : bitP B (p + 1).toNat = if B p = true then bitP B p.toNat ||| (zI 1 <<< (zI p &&& 31)) else bitP B p.toNat := by
  rw [show (p + 1).toNat = p.toNat + 1 by omega]
  show (if B (p.toNat : Int) = true then bitP B p.toNat ||| (zI 1 <<< (zI (p.toNat : Int) &&& 31)) else bitP B p.toNat) = _
  rw [show (p.toNat : Int) = p by omega]
section GO4
variable {D : va_G} {cy : Nat → ClassId} {l : Launch} {R : Room} {cc : ByteArray} {nL : Nat} {own : String} {ret : Option FieldType} {w0 : va_W} {Q : Option Value → va_W → Prop} {w : va_W} {pc : Nat} {lv lv' : List (Nat × Value)} {st : List Value}
theorem g_ishl {a b : Int32} (hd : decode cc pc = .ok (.ishl, 1)) (k : GO D cy l R cc nL own ret w0 Q w (pc + 1) lv (.int (a <<< (b &&& 31)) :: st)) : GO D cy l R cc nL own ret w0 Q w pc lv (.int b :: .int a :: st) := by
  intro p e s m args below meth c H locs ls C hP hD hS hl
  exact lv_ishl C.1 C.2.1 hd (k p e s m args below meth c H locs ls C hP hD hS hl)
end GO4
