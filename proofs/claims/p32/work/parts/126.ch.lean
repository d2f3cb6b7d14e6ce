/-! THE BYTE THAT STANDS NEXT ON THE REFERENCE'S TAPE. -/
theorem ch_ge {σ τ : jM} (hf : FR Wat σ τ) (h : σ.1 117 3 ≤ τ.1 117 2) : ch τ = -1 := by
  unfold ch
  rw [hf.at 117 3 rfl, if_neg (by omega)]
theorem ch_lt {σ τ : jM} (hf : FR Wat σ τ) (h : τ.1 117 2 < σ.1 117 3) : ch τ = σ.1 118 (τ.1 117 2).toNat := by
  unfold ch
  rw [hf.at 117 3 rfl, if_pos h, hf.at 118 _ rfl]
theorem ch_at {σ τ : jM} (hf : FR Wat σ τ) (h : τ.1 117 2 = σ.1 117 2) : ch τ = ch σ := ch_cg h (hf.at 117 3 rfl) (fun j => hf.at 118 j rfl)
theorem nb_cgc {σ τ : jM} (h : ch τ = ch σ) : nb τ = nb σ := by
  have e : ∀ ρ, nb ρ = if ch ρ ≠ 10 ∧ ch ρ ≠ 32 then 1 else 0 := fun _ => rfl
  rw [e, e, h]
theorem nb_1 {σ : jM} (h : ch σ ≠ 10 ∧ ch σ ≠ 32) : nb σ = 1 := if_pos h
theorem nb_ch {σ : jM} (h : nb σ = 1) : ch σ ≠ 10 ∧ ch σ ≠ 32 := by
  unfold nb at h
  split at h
  · assumption
  · cases h
theorem rl_push {τ : jM} {n v : Int} (h1 : τ.1 117 44 = n + 1) (h2 : τ.1 146 n.toNat = v) (h0 : 0 ≤ n) : rl τ = v := by
  unfold rl
  rw [if_neg (by omega), h1, show n + 1 - 1 = n by omega, h2]
theorem rl_0 {τ : jM} (h : τ.1 117 44 = 0) : rl τ = 22 := by
  unfold rl
  rw [if_pos h]
