/-! what holds of the class's state between calls, and what ties the reference's state to it -/
def Inv (σ : Nat → Int → Int) : Prop := Bd σ ∧ LC σ ∧ Pos σ (σ 9) (σ 10) ∧ Unu σ ∧ (∀ s, σ 0 2 ≤ s → σ 6 s = 0) ∧ (∀ i, σ 0 1 ≤ i → σ 4 i = 0 ∧ σ 5 i = 1) ∧ off σ (σ 0 2) = σ 0 1 ∧ (∀ j, 0 ≤ σ 12 j ∧ σ 12 j ≤ 23) ∧ (∀ i, 0 ≤ σ 9 i ∧ σ 9 i ≤ 5)
def Rel (σ τ : Nat → Int → Int) : Prop := τ 0 0 = σ 0 0 ∧ τ 0 1 = σ 0 1 ∧ τ 0 2 = σ 0 2 ∧ τ 1 = σ 1 ∧ τ 2 = σ 2 ∧ τ 3 = σ 3 ∧ τ 4 = σ 4 ∧ (∀ i, 0 ≤ i → i < σ 0 1 → τ 5 i = σ 5 i) ∧ (∀ i, 0 ≤ τ 5 i ∧ τ 5 i ≤ 1) ∧ τ 6 = σ 6 ∧ τ 7 = σ 7 ∧ τ 11 = σ 12
theorem Rel_Bd {σ τ : Nat → Int → Int} (h : Rel σ τ) (hB : Bd σ) : Bd τ := by
  obtain ⟨h0, h1, h2, r1, r2, r3, r4, r5, r5b, r6, r7, r11⟩ := h
  unfold Bd
  rw [h0, h1, h2, r1, r2, r3, r4, r6, r7]
  exact ⟨hB.1, hB.2.1, hB.2.2.1, hB.2.2.2.1, hB.2.2.2.2.1, hB.2.2.2.2.2.1, hB.2.2.2.2.2.2.1, r5b, hB.2.2.2.2.2.2.2.2.1, hB.2.2.2.2.2.2.2.2.2⟩
theorem Rel_Pos {σ τ : Nat → Int → Int} (h : Rel σ τ) {st po : Int → Int} (hP : Pos σ st po) : Pos τ st po := by
  obtain ⟨h0, h1, h2, r1, r2, r3, r4, r5, r5b, r6, r7, r11⟩ := h
  exact Pos_cg hP h1 h2 r6 r7
theorem Rel_Sx {σ τ ρ : Nat → Int → Int} (h : Rel σ τ) (hx : Sx τ ρ) : Rel σ ρ := by
  obtain ⟨h0, h1, h2, r1, r2, r3, r4, r5, r5b, r6, r7, r11⟩ := h
  obtain ⟨k1, k2, k3, k4, k5, k6, k7, k8, k9, k10, k11⟩ := hx
  exact ⟨k1.trans h0, k2.trans h1, k3.trans h2, k4.trans r1, k5.trans r2, k6.trans r3, k7.trans r4, fun i q1 q2 => by rw [k8]; exact r5 i q1 q2, fun i => by rw [k8]; exact r5b i, k9.trans r6, k10.trans r7, k11.trans r11⟩
/-- two states whose curves of the string s are the same -/
def SmD (g h : Nat → Int → Int) (s : Int) : Prop := g 0 0 = h 0 0 ∧ g 1 = h 1 ∧ g 2 = h 2 ∧ g 3 = h 3 ∧ g 4 = h 4 ∧ g 6 = h 6 ∧ g 7 = h 7 ∧ ∀ p, 0 ≤ p → p < g 6 s → g 5 (memb g s p) = h 5 (memb g s p)
theorem cpP_cg {B B' F : Int → Int} : ∀ n : Nat, (∀ p : Int, 0 ≤ p → p < n → B p = B' p) → cpP B F n = cpP B' F n
  | 0, _ => rfl
  | n + 1, h => by
    show (if B n = 0 then min (cpP B F n) (F n) else cpP B F n) = (if B' n = 0 then min (cpP B' F n) (F n) else cpP B' F n)
    rw [cpP_cg n (fun p q1 q2 => h p q1 (by omega)), h n (by omega) (by omega)]
theorem SmD_photo {g h : Nat → Int → Int} (e1 : g 1 = h 1) (e3 : g 3 = h 3) : photo g = photo h := by
  funext i
  unfold photo
  rw [e1, e3]
theorem SmD_volt {g h : Nat → Int → Int} (e0 : g 0 0 = h 0 0) (e1 : g 1 = h 1) (e2 : g 2 = h 2) (e3 : g 3 = h 3) (e4 : g 4 = h 4) : volt g = volt h := by
  funext m c
  unfold volt lit photo
  rw [e0, e1, e2, e3, e4]
theorem SmD_svolt {g h : Nat → Int → Int} {s : Int} (e : SmD g h s) : svolt g s = svolt h s := by
  obtain ⟨e0, e1, e2, e3, e4, e6, e7, e5⟩ := e
  funext c
  unfold svolt memb
  rw [SmD_volt e0 e1 e2 e3 e4, e6, e7]
theorem SmD_limit {g h : Nat → Int → Int} {s : Int} (e : SmD g h s) : limit g s = limit h s := by
  obtain ⟨e0, e1, e2, e3, e4, e6, e7, e5⟩ := e
  have ec := cpP_cg (B := fun p => g 5 (memb g s p)) (B' := fun p => h 5 (memb g s p)) (F := fun p => photo g (memb g s p)) (g 6 s).toNat (fun p q1 q2 => e5 p q1 (by omega))
  unfold limit
  rw [ec]
  unfold memb
  rw [SmD_photo e1 e3, e6, e7]
theorem SmD_spow {g h : Nat → Int → Int} {s : Int} (e : SmD g h s) : spow g s = spow h s := by
  funext c
  unfold spow
  rw [SmD_svolt e]
theorem SmD_bestC {g h : Nat → Int → Int} {s : Int} (e : SmD g h s) : bestC g s = bestC h s := by
  unfold bestC
  rw [SmD_spow e, SmD_limit e]
theorem SmD_bestP {g h : Nat → Int → Int} {s : Int} (e : SmD g h s) : bestP g s = bestP h s := by
  unfold bestP
  rw [SmD_spow e, SmD_bestC e]
theorem SmD_dlv {g h : Nat → Int → Int} {s : Int} (e : SmD g h s) (v : Int) : dlv g s v = dlv h s v := by
  unfold dlv
  rw [SmD_svolt e, SmD_limit e]
theorem sumP_cg {F G : Int → Int} : ∀ n : Nat, (∀ p : Int, 0 ≤ p → p < n → F p = G p) → sumP F n = sumP G n
  | 0, _ => rfl
  | n + 1, h => by
    show sumP F n + F n = sumP G n + G n
    rw [sumP_cg n (fun p q1 q2 => h p q1 (by omega)), h n (by omega) (by omega)]
theorem Rel_SmD {σ τ : Nat → Int → Int} (h : Rel σ τ) {st po : Int → Int} (hP : Pos σ st po) {s : Int} (hs : 0 ≤ s ∧ s < σ 0 2) : SmD τ σ s := by
  obtain ⟨h0, h1, h2, r1, r2, r3, r4, r5, r5b, r6, r7, r11⟩ := h
  refine ⟨h0, r1, r2, r3, r4, r6, r7, fun p q1 q2 => ?_⟩
  rw [r6] at q2
  have := (hP.2 s p hs.1 hs.2 q1 q2).1
  unfold memb
  rw [r7]
  exact r5 _ this.1 this.2
section RelA
variable {σ τ : Nat → Int → Int}
theorem Ra_moduleAt (h : Rel σ τ) (s p : Int) : a_moduleAt τ s p = a_moduleAt σ s p := by
  obtain ⟨h0, h1, h2, r1, r2, r3, r4, r5, r5b, r6, r7, r11⟩ := h
  unfold a_moduleAt memb
  rw [h2, r6, r7]
theorem Ra_photocurrent (h : Rel σ τ) (m : Int) : a_photocurrent τ m = a_photocurrent σ m := by
  obtain ⟨h0, h1, h2, r1, r2, r3, r4, r5, r5b, r6, r7, r11⟩ := h
  unfold a_photocurrent
  rw [h1, SmD_photo r1 r3]
theorem Ra_moduleVoltage (h : Rel σ τ) (m c : Int) : a_moduleVoltage τ m c = a_moduleVoltage σ m c := by
  obtain ⟨h0, h1, h2, r1, r2, r3, r4, r5, r5b, r6, r7, r11⟩ := h
  unfold a_moduleVoltage
  rw [h1, SmD_photo r1 r3, SmD_volt h0 r1 r2 r3 r4]
  by_cases q : 0 ≤ m ∧ m < σ 0 1
  · rw [if_pos q, if_pos q, r5 m q.1 q.2]
  · rw [if_neg q, if_neg q]
theorem R_mpeak (h : Rel σ τ) : mpeak τ = mpeak σ := by
  obtain ⟨h0, h1, h2, r1, r2, r3, r4, r5, r5b, r6, r7, r11⟩ := h
  have e : mpow τ = mpow σ := by
    funext i c
    unfold mpow
    rw [SmD_volt h0 r1 r2 r3 r4]
  funext i
  unfold mpeak mbest
  rw [e, SmD_photo r1 r3]
theorem Ra_modulePeakPower (h : Rel σ τ) (m : Int) : a_modulePeakPower τ m = a_modulePeakPower σ m := by
  unfold a_modulePeakPower
  rw [h.2.1, R_mpeak h]
theorem Ra_currentLimit (h : Rel σ τ) (hP : Pos σ (σ 9) (σ 10)) (s : Int) : a_currentLimit τ s = a_currentLimit σ s := by
  unfold a_currentLimit
  rw [h.2.2.1]
  by_cases q : 0 ≤ s ∧ s < σ 0 2
  · rw [if_pos q, if_pos q, SmD_limit (Rel_SmD h hP q)]
  · rw [if_neg q, if_neg q]
theorem Ra_stringVoltage (h : Rel σ τ) (hP : Pos σ (σ 9) (σ 10)) (s c : Int) : a_stringVoltage τ s c = a_stringVoltage σ s c := by
  unfold a_stringVoltage
  rw [h.2.2.1]
  by_cases q : 0 ≤ s ∧ s < σ 0 2
  · rw [if_pos q, if_pos q, SmD_limit (Rel_SmD h hP q), SmD_svolt (Rel_SmD h hP q)]
  · rw [if_neg q, if_neg q]
theorem Ra_stringPower (h : Rel σ τ) (hP : Pos σ (σ 9) (σ 10)) (s c : Int) : a_stringPower τ s c = a_stringPower σ s c := by
  unfold a_stringPower
  rw [h.2.2.1]
  by_cases q : 0 ≤ s ∧ s < σ 0 2
  · rw [if_pos q, if_pos q, SmD_limit (Rel_SmD h hP q), SmD_spow (Rel_SmD h hP q)]
  · rw [if_neg q, if_neg q]
theorem Ra_bypassedModules (h : Rel σ τ) (hP : Pos σ (σ 9) (σ 10)) (s c : Int) : a_bypassedModules τ s c = a_bypassedModules σ s c := by
  have e : byp τ s c = byp σ s c := by
    obtain ⟨h0, h1, h2, r1, r2, r3, r4, r5, r5b, r6, r7, r11⟩ := h
    unfold byp memb
    rw [SmD_photo r1 r3, r6, r7]
  unfold a_bypassedModules
  rw [h.2.2.1, e]
  by_cases q : 0 ≤ s ∧ s < σ 0 2
  · rw [if_pos q, if_pos q, SmD_limit (Rel_SmD h hP q)]
  · rw [if_neg q, if_neg q]
theorem Ra_peakCount (h : Rel σ τ) (hP : Pos σ (σ 9) (σ 10)) (s : Int) : a_peakCount τ s = a_peakCount σ s := by
  unfold a_peakCount
  rw [h.2.2.1]
  by_cases q : 0 ≤ s ∧ s < σ 0 2
  · rw [if_pos q, if_pos q, SmD_limit (Rel_SmD h hP q), SmD_spow (Rel_SmD h hP q)]
  · rw [if_neg q, if_neg q]
theorem Ra_peakCurrent (h : Rel σ τ) (hP : Pos σ (σ 9) (σ 10)) (s k : Int) : a_peakCurrent τ s k = a_peakCurrent σ s k := by
  unfold a_peakCurrent
  rw [h.2.2.1]
  by_cases q : 0 ≤ s ∧ s < σ 0 2
  · rw [if_pos q, if_pos q, SmD_limit (Rel_SmD h hP q), SmD_spow (Rel_SmD h hP q)]
  · rw [if_neg q, if_neg q]
theorem Ra_bestCurrent (h : Rel σ τ) (hP : Pos σ (σ 9) (σ 10)) (s : Int) : a_bestCurrent τ s = a_bestCurrent σ s := by
  unfold a_bestCurrent
  rw [h.2.2.1]
  by_cases q : 0 ≤ s ∧ s < σ 0 2
  · rw [if_pos q, if_pos q, SmD_bestC (Rel_SmD h hP q)]
  · rw [if_neg q, if_neg q]
theorem Ra_bestPower (h : Rel σ τ) (hP : Pos σ (σ 9) (σ 10)) (s : Int) : a_bestPower τ s = a_bestPower σ s := by
  unfold a_bestPower
  rw [h.2.2.1]
  by_cases q : 0 ≤ s ∧ s < σ 0 2
  · rw [if_pos q, if_pos q, SmD_bestP (Rel_SmD h hP q)]
  · rw [if_neg q, if_neg q]
theorem Ra_perturb (h : Rel σ τ) (hP : Pos σ (σ 9) (σ 10)) (s a t n : Int) : a_perturb τ s a t n = a_perturb σ s a t n := by
  unfold a_perturb
  rw [h.2.2.1]
  by_cases q : 0 ≤ s ∧ s < σ 0 2
  · rw [if_pos q, if_pos q, SmD_limit (Rel_SmD h hP q), SmD_spow (Rel_SmD h hP q)]
  · rw [if_neg q, if_neg q]
theorem Ra_scan (h : Rel σ τ) (hP : Pos σ (σ 9) (σ 10)) (s v : Int) : a_scan τ s v = a_scan σ s v := by
  unfold a_scan
  rw [h.2.2.1]
  by_cases q : 0 ≤ s ∧ s < σ 0 2
  · rw [if_pos q, if_pos q, SmD_limit (Rel_SmD h hP q), SmD_spow (Rel_SmD h hP q)]
  · rw [if_neg q, if_neg q]
theorem R_acur (h : Rel σ τ) (hB : Bd σ) (hP : Pos σ (σ 9) (σ 10)) : acur τ = acur σ := by
  have hc := hB.sc
  funext v
  unfold acur
  rw [h.2.2.1]
  exact sumP_cg _ (fun s q1 q2 => SmD_dlv (Rel_SmD h hP (by omega)) v)
theorem Ra_arrayCurrent (h : Rel σ τ) (hB : Bd σ) (hP : Pos σ (σ 9) (σ 10)) (v : Int) : a_arrayCurrent τ v = a_arrayCurrent σ v := by
  unfold a_arrayCurrent
  rw [R_acur h hB hP]
theorem R_bestV (h : Rel σ τ) (hB : Bd σ) (hP : Pos σ (σ 9) (σ 10)) : bestV τ = bestV σ := by
  have e : apow τ = apow σ := by
    funext v
    unfold apow
    rw [R_acur h hB hP]
  unfold bestV
  rw [e]
theorem R_total (h : Rel σ τ) (hB : Bd σ) (hP : Pos σ (σ 9) (σ 10)) : a_total τ = a_total σ := by
  have hc := hB.sc
  unfold a_total
  rw [h.2.2.1]
  exact sumP_cg _ (fun s q1 q2 => SmD_bestP (Rel_SmD h hP (by omega)))
theorem R_loss (h : Rel σ τ) (hB : Bd σ) (hP : Pos σ (σ 9) (σ 10)) : a_loss τ = a_loss σ := by
  have e := R_total h hB hP
  unfold a_total at e
  unfold a_loss
  rw [e, R_mpeak h, h.2.1]
theorem xc_SmD (h : Rel σ τ) (hB : Bd σ) (hP : Pos σ (σ 9) (σ 10)) {a b : Int} (ha : 0 ≤ a ∧ a < σ 0 1) (hb : 0 ≤ b ∧ b < σ 0 1) {s : Int} (hs : 0 ≤ s ∧ s < σ 0 2) : SmD (xcM τ (σ 9) (σ 10) a b) (exc σ a b) s := by
  have hPt := Rel_Pos h hP
  have hPx := Pos_exc hB hP ha hb
  have e7 : xcM τ (σ 9) (σ 10) a b 7 = exc σ a b 7 := by
    rw [xcM_7 hPt (by rw [h.2.1]; exact ha) (by rw [h.2.1]; exact hb), exc_7, h.2.2.2.2.2.2.2.2.2.2.1]
  obtain ⟨h0, h1, h2, r1, r2, r3, r4, r5, r5b, r6, r7, r11⟩ := h
  refine ⟨h0, r1, r2, r3, r4, r6, e7, fun p q1 q2 => ?_⟩
  have q2' : p < τ 6 s := q2
  rw [r6] at q2'
  have q3 := (hPx.2 s p hs.1 hs.2 q1 q2').1
  unfold memb
  rw [e7]
  exact r5 _ q3.1 q3.2
theorem R_G (h : Rel σ τ) (hB : Bd σ) (hP : Pos σ (σ 9) (σ 10)) {a b : Int} (ha : 0 ≤ a ∧ a < σ 0 1) (hb : 0 ≤ b ∧ b < σ 0 1) : Gm τ (σ 9) (σ 10) a b = Gc σ a b := by
  have sa := (hP.1 a ha.1 ha.2).1
  have sb := (hP.1 b hb.1 hb.2).1
  unfold Gm Gc
  rw [SmD_bestP (xc_SmD h hB hP ha hb sa), SmD_bestP (xc_SmD h hB hP ha hb sb), SmD_bestP (Rel_SmD h hP sa), SmD_bestP (Rel_SmD h hP sb)]
theorem swI_cg {G G' : Int → Int → Int} {a : Int} : ∀ (n : Nat) (b : Int) (t : Int × Int × Int), (∀ c, b ≤ c → c < b + n → G a c = G' a c) → swI G a n b t = swI G' a n b t
  | 0, _, _, _ => rfl
  | n + 1, b, t, h => by
    rw [swI, swI, swI_cg n (b + 1) _ (fun c q1 q2 => h c (by omega) (by omega))]
    unfold swStep
    rw [h b (by omega) (by omega)]
theorem swO_cg {G G' : Int → Int → Int} {mc : Int} : ∀ (n : Nat) (a : Int) (t : Int × Int × Int), 0 ≤ a → a + n = mc → (∀ a b, 0 ≤ a → a < b → b < mc → G a b = G' a b) → swO G mc n a t = swO G' mc n a t
  | 0, _, _, _, _, _ => rfl
  | n + 1, a, t, h0, h1, h => by
    rw [swO, swO, swI_cg _ _ _ (fun c q1 q2 => h a c h0 (by omega) (by omega))]
    exact swO_cg n (a + 1) _ (by omega) (by omega) h
theorem R_sw (h : Rel σ τ) (hB : Bd σ) (hP : Pos σ (σ 9) (σ 10)) : swM τ (σ 9) (σ 10) = swT σ := by
  have hm := hB.mc
  unfold swM swT
  rw [h.2.1]
  exact swO_cg _ _ _ (by omega) (by omega) (fun a b q1 q2 q3 => R_G h hB hP (by omega) (by omega))
end RelA
