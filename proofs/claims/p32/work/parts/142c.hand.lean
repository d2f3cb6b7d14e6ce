/-! ROWS COPIED AND READ. -/
def CPL0 (σ τ : jM) (k : Int) : Prop := k = 0 ∨ τ.1 149 (k - 1).toNat = σ.1 147 ((64 * 0) + (k - 1)).toNat
def CPL1 (σ τ : jM) (k : Int) : Prop := k = 0 ∨ τ.1 149 (k - 1).toNat = σ.1 147 ((64 * 1) + (k - 1)).toNat
theorem cpl0_end {σ τ : jM} {k : Int} (h1 : τ.1 117 49 = k) (h2 : σ.1 148 0 = k) (h : CPL0 σ τ k) : tl τ = l0 σ := by
  unfold tl l0
  rw [h1, h2]
  by_cases h0 : k = 0
  · rw [if_pos h0, if_pos h0]
  · rw [if_neg h0, if_neg h0, h.resolve_left h0, show (64 * 0 + (k - 1) : Int) = k - 1 by omega]
theorem cpl1_end {σ τ : jM} {k : Int} (h1 : τ.1 117 49 = k) (h2 : σ.1 148 1 = k) (h : CPL1 σ τ k) : tl τ = l1 σ := by
  unfold tl l1
  rw [h1, h2]
  by_cases h0 : k = 0
  · rw [if_pos h0, if_pos h0]
  · rw [if_neg h0, if_neg h0, h.resolve_left h0, show (64 * 1 + (k - 1) : Int) = 63 + k by omega]
theorem tl_ne {σ : jM} {p : Int} (h : tl σ = 22) (h0 : 0 ≤ p) (h1 : p < σ.1 117 49) (hne : σ.1 149 p.toNat ≠ 22) : p + 1 < σ.1 117 49 := by
  unfold tl at h
  rw [if_neg (by omega)] at h
  by_cases e : p + 1 < σ.1 117 49
  · exact e
  · rw [show σ.1 117 49 - 1 = p by omega] at h
    exact absurd h hne
