/-! FRAMES. -/

theorem sb_Wla_Wla : ∀ x y, Wla x y = true → Wla x y = true := by
  intro x y h
  simp only [Wla, Wla, Bool.and_eq_true, Bool.or_eq_true, Bool.not_eq_true', Nat.beq_eq, Nat.ble_eq] at h ⊢
  omega
/-! WHAT IS READ OFF SEVERAL CELLS AT ONCE. -/
