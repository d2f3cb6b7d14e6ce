/-! LAWS LAID. -/
def CPT0 (σ τ : jM) (k : Int) : Prop := k = 0 ∨ τ.1 147 ((64 * 0) + (k - 1)).toNat = σ.1 149 (k - 1).toNat
def CPT1 (σ τ : jM) (k : Int) : Prop := k = 0 ∨ τ.1 147 ((64 * 1) + (k - 1)).toNat = σ.1 149 (k - 1).toNat
theorem cpt0_end {σ τ : jM} {k : Int} (h1 : τ.1 148 0 = k) (h2 : σ.1 117 49 = k) (h : CPT0 σ τ k) : l0 τ = tl σ := by
  unfold tl l0
  rw [h1, h2]
  by_cases h0 : k = 0
  · rw [if_pos h0, if_pos h0]
  · rw [if_neg h0, if_neg h0, ← h.resolve_left h0, show (64 * 0 + (k - 1) : Int) = k - 1 by omega]
theorem cpt1_end {σ τ : jM} {k : Int} (h1 : τ.1 148 1 = k) (h2 : σ.1 117 49 = k) (h : CPT1 σ τ k) : l1 τ = tl σ := by
  unfold tl l1
  rw [h1, h2]
  by_cases h0 : k = 0
  · rw [if_pos h0, if_pos h0]
  · rw [if_neg h0, if_neg h0, ← h.resolve_left h0, show (64 * 1 + (k - 1) : Int) = 63 + k by omega]
theorem l1_w {σ τ : jM} {j : Nat} (h : FRw 147 j σ τ) (hj : j < 64) (h0 : 0 ≤ σ.1 148 1) : l1 τ = l1 σ := by
  unfold l1
  rw [h.na (b := 148) (by decide)]
  by_cases e : σ.1 148 1 = 0
  · rw [if_pos e, if_pos e]
  · rw [if_neg e, if_neg e, h.nj (b := 147) (by omega)]
theorem l0_w {σ τ : jM} {j : Nat} (h : FRw 147 j σ τ) (hj : 64 ≤ j) (h0 : σ.1 148 0 ≤ 60) : l0 τ = l0 σ := by
  unfold l0
  rw [h.na (b := 148) (by decide)]
  by_cases e : σ.1 148 0 = 0
  · rw [if_pos e, if_pos e]
  · rw [if_neg e, if_neg e, h.nj (b := 147) (by omega)]
