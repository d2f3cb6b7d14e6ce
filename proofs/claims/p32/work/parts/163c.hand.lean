/-! THE NEXT BYTE, AS IT WAS SEEN. -/
theorem cb_1 {σ : jM} (h1 : σ.1 10 2 < σ.1 10 1) (h2 : σ.1 11 (σ.1 10 2).toNat ≠ 10) (h3 : σ.1 11 (σ.1 10 2).toNat ≠ 32) : cb σ = 1 := if_pos ⟨h1, h2, h3⟩
theorem cb_o {σ : jM} (h : cb σ = 1) : σ.1 10 2 < σ.1 10 1 ∧ σ.1 11 (σ.1 10 2).toNat ≠ 10 ∧ σ.1 11 (σ.1 10 2).toNat ≠ 32 := by
  unfold cb at h
  by_cases hc : σ.1 10 2 < σ.1 10 1 ∧ σ.1 11 (σ.1 10 2).toNat ≠ 10 ∧ σ.1 11 (σ.1 10 2).toNat ≠ 32
  · exact hc
  · rw [if_neg hc] at h
    cases h
