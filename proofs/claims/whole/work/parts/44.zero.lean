/-! the two first states hold together -/
theorem s0z {f : Nat} {i : Int} (h0 : f ≠ 0) (h5 : f ≠ 5) : σ0 f i = 0 := by
  unfold σ0
  rw [if_neg (fun h => h0 h.1), if_neg (fun h => h0 h.1), if_neg h5]
theorem s05 {i : Int} : σ0 5 i = 1 := rfl
theorem t0z {f : Nat} {i : Int} (h0 : f ≠ 0) : τ0 f i = 0 := by
  unfold τ0
  rw [if_neg (fun h => h0 h.1)]
theorem off0 : off σ0 (σ0 0 2) = σ0 0 1 := rfl
theorem Inv0 : Inv σ0 := by
  refine ⟨⟨by decide, by decide, by decide, ?_, ?_, ?_, ?_, ?_, ?_, ?_⟩, ?_, ⟨?_, ?_⟩, ?_, ?_, ?_, off0, ?_, ?_⟩
  · intro i; rw [s0z (by decide) (by decide)]; decide
  · intro i; rw [s0z (by decide) (by decide)]; decide
  · intro i; rw [s0z (by decide) (by decide)]; decide
  · intro i; rw [s0z (by decide) (by decide)]; decide
  · intro i; rw [s05]; decide
  · intro i; rw [s0z (by decide) (by decide)]; decide
  · intro i; rw [s0z (by decide) (by decide)]; decide
  · intro i
    unfold photo
    rw [s0z (by decide) (by decide), s0z (by decide) (by decide), s0z (by decide) (by decide)]
    decide
  · intro i h1 h2
    have : σ0 0 1 = 0 := rfl
    omega
  · intro s p h1 h2
    have : σ0 0 2 = 0 := rfl
    omega
  · intro i _
    exact ⟨s0z (by decide) (by decide), s0z (by decide) (by decide)⟩
  · intro s _
    exact s0z (by decide) (by decide)
  · intro i _
    exact ⟨s0z (by decide) (by decide), s05⟩
  · intro j; rw [s0z (by decide) (by decide)]; decide
  · intro j; rw [s0z (by decide) (by decide)]; decide
theorem eq0 {f g : Nat} (h : f ≠ 0) (h0 : g ≠ 0) (h5 : g ≠ 5) : τ0 f = σ0 g := funext fun i => by rw [t0z h, s0z h0 h5]
theorem Rel0 : Rel σ0 τ0 := by
  refine ⟨rfl, rfl, rfl, eq0 (by decide) (by decide) (by decide), eq0 (by decide) (by decide) (by decide), eq0 (by decide) (by decide) (by decide), eq0 (by decide) (by decide) (by decide), ?_, ?_, eq0 (by decide) (by decide) (by decide), eq0 (by decide) (by decide) (by decide), eq0 (by decide) (by decide) (by decide)⟩
  · intro i h1 h2
    have : σ0 0 1 = 0 := rfl
    omega
  · intro i; rw [t0z (by decide)]; decide
