/-! A LAW BROUGHT BACK. -/
def CPU (σ τ : jM) (k : Int) : Prop := k = 0 ∨ τ.1 147 (k - 1).toNat = σ.1 150 ((64 * (σ.1 117 53)) + (k - 1)).toNat
theorem cpu_end {σ τ : jM} {k : Int} (h : CPU σ τ k) (h1 : τ.1 148 0 = k) (hk : KP σ) (h2 : σ.1 151 (σ.1 117 53).toNat = k) (h3 : 0 ≤ σ.1 117 53) (h4 : σ.1 117 53 < 20) : l0 τ = 22 := by
  unfold l0
  rw [h1]
  by_cases e : k = 0
  · rw [if_pos e]
  · rw [if_neg e, h.resolve_left e]
    have := (hk _ h3 h4).resolve_left (by rw [h2]; exact e)
    rw [h2] at this
    exact this
