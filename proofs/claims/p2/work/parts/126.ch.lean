/-! THE BYTE THAT STANDS NEXT ON THE REFERENCE'S TAPE. -/
noncomputable def ch (σ : jM) : Int := if σ.1 117 2 < σ.1 117 3 then σ.1 118 (σ.1 117 2).toNat else -1
noncomputable def nb (σ : jM) : Int := if ch σ ≠ 10 ∧ ch σ ≠ 32 then 1 else 0
theorem ch_cg {σ τ : jM} (h2 : τ.1 117 2 = σ.1 117 2) (h3 : τ.1 117 3 = σ.1 117 3) (h : ∀ j, τ.1 118 j = σ.1 118 j) : ch τ = ch σ := by
  unfold ch
  rw [h2, h3, h]
theorem nb_cg {σ τ : jM} (h : ch τ = ch σ) : nb τ = nb σ := by
  unfold nb
  rw [h]
theorem ch_fr {W : Nat → Nat → Bool} {σ τ : jM} (h : FR W σ τ) (h1 : W 117 2 = false) (h2 : W 117 3 = false) (h3 : ∀ j, W 118 j = false) : ch τ = ch σ := ch_cg (h.at 117 2 h1) (h.at 117 3 h2) (fun j => h.at 118 j (h3 j))
theorem ch_wr {a f : Nat} {σ τ : jM} (h : FRw a f σ τ) (hn : (¬ (a = 117 ∧ (f = 2 ∨ f = 3))) ∧ a ≠ 118) : ch τ = ch σ := ch_cg (h 117 2 (fun z => hn.1 ⟨z.1.symm, Or.inl z.2.symm⟩)).1 (h 117 3 (fun z => hn.1 ⟨z.1.symm, Or.inr z.2.symm⟩)).1 (fun j => (h 118 j (fun z => hn.2 z.1.symm)).1)
theorem ch_ge {σ τ : jM} (hf : FR Wat σ τ) (h : σ.1 117 3 ≤ τ.1 117 2) : ch τ = -1 := by
  unfold ch
  rw [hf.at 117 3 rfl, if_neg (by omega)]
theorem ch_lt {σ τ : jM} (hf : FR Wat σ τ) (h : τ.1 117 2 < σ.1 117 3) : ch τ = σ.1 118 (τ.1 117 2).toNat := by
  unfold ch
  rw [hf.at 117 3 rfl, if_pos h, hf.at 118 _ rfl]
theorem ch_at {σ τ : jM} (hf : FR Wat σ τ) (h : τ.1 117 2 = σ.1 117 2) : ch τ = ch σ := ch_cg h (hf.at 117 3 rfl) (fun j => hf.at 118 j rfl)
theorem nb_1 {σ : jM} (h : ch σ ≠ 10 ∧ ch σ ≠ 32) : nb σ = 1 := if_pos h
theorem nb_ch {σ : jM} (h : nb σ = 1) : ch σ ≠ 10 ∧ ch σ ≠ 32 := by
  unfold nb at h
  split at h
  · assumption
  · cases h
