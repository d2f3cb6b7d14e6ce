/-! ROWS COPIED: the last cell. -/
def CPR (σ τ : jM) (k : Int) : Prop := k = 0 ∨ τ.1 149 (k - 1).toNat = σ.1 146 (k - 1).toNat
theorem cpr_end {σ τ : jM} {k : Int} (h1 : τ.1 117 49 = k) (h2 : σ.1 117 44 = k) (h : CPR σ τ k) : tl τ = rl σ := by
  unfold tl rl
  rw [h1, h2]
  by_cases h0 : k = 0
  · rw [if_pos h0, if_pos h0]
  · rw [if_neg h0, if_neg h0]
    exact h.resolve_left h0
