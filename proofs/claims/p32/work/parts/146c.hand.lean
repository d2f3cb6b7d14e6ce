/-! A LAW PUT AWAY. -/
def CPK (σ τ : jM) (nw k : Int) : Prop := k = 0 ∨ τ.1 150 ((64 * nw) + (k - 1)).toNat = σ.1 147 (k - 1).toNat
def KX (τ : jM) (nw : Int) : Prop := ∀ i : Int, 0 ≤ i → i < 20 → i ≠ nw → (τ.1 151 i.toNat = 0 ∨ τ.1 150 ((64 * i) + (τ.1 151 i.toNat - 1)).toNat = 22)
theorem kx_in {σ τ ρ : jM} {nw : Int} (h1 : FRw 117 53 σ τ) (h2 : FRw 151 nw.toNat τ ρ) (h : KP σ) (h0 : 0 ≤ nw) : KX ρ nw := by
  intro i hi hi2 hn
  rw [h2.nj (b := 151) (j := i.toNat) (by omega), h1.na (b := 151) (by decide), h2.na (b := 150) (by decide), h1.na (b := 150) (by decide)]
  exact h i hi hi2
theorem kx_w {σ τ : jM} {nw k : Int} (h : KX σ nw) (hf : FRw 150 ((64 * nw) + k).toNat σ τ) (h0 : 0 ≤ nw) (h1 : 0 ≤ k) (h2 : k < 60) (hr : ∀ i : Nat, 0 ≤ σ.1 151 i ∧ σ.1 151 i ≤ 60) : KX τ nw := by
  intro i hi hi2 hn
  rw [hf.na (b := 151) (by decide)]
  have hb := hr i.toNat
  by_cases e : σ.1 151 i.toNat = 0
  · exact Or.inl e
  · rw [hf.nj (b := 150) (by omega)]
    exact h i hi hi2 hn
theorem kp_out {σ τ : jM} {nw k : Int} (hx : KX τ nw) (h0 : 0 ≤ nw) (h1 : τ.1 151 nw.toNat = k) (hc : CPK σ τ nw k) (hl : l0 σ = 22) (hm : σ.1 148 0 = k) : KP τ := by
  intro i hi hi2
  by_cases e : i = nw
  · subst e
    rw [h1]
    rcases hc with hc | hc
    · exact Or.inl hc
    · by_cases hk : k = 0
      · exact Or.inl hk
      · right
        rw [hc]
        unfold l0 at hl
        rw [hm, if_neg hk] at hl
        exact hl
  · exact hx i hi hi2 e
