/-! WHAT WAS PUT AWAY ENDS WITH STOPS. -/
def KP (σ : jM) : Prop := ∀ i : Int, 0 ≤ i → i < 20 → (σ.1 151 i.toNat = 0 ∨ σ.1 150 ((64 * i) + (σ.1 151 i.toNat - 1)).toNat = 22)
noncomputable def kpf (P : Prop) : Int := @ite Int P (Classical.propDecidable P) 1 0
theorem kpf_1 {P : Prop} (h : P) : kpf P = 1 := @if_pos P (Classical.propDecidable P) h Int 1 0
theorem kpf_o {P : Prop} (h : kpf P = 1) : P := by
  unfold kpf at h
  split at h
  · assumption
  · cases h
