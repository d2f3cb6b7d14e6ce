/-! FRAMES. -/

theorem sb_WW104_WY1 : ∀ x y, WW104 x y = true → WY1 x y = true := by
  intro x y h
  simp only [WW104, WY1, Bool.and_eq_true, Bool.or_eq_true, Bool.not_eq_true', Nat.beq_eq, Nat.ble_eq] at h ⊢
  omega
theorem sb_WW109_WY : ∀ x y, WW109 x y = true → WY x y = true := by
  intro x y h
  simp only [WW109, WY, Bool.and_eq_true, Bool.or_eq_true, Bool.not_eq_true', Nat.beq_eq, Nat.ble_eq] at h ⊢
  omega
theorem sb_WY_WY : ∀ x y, WY x y = true → WY x y = true := by
  intro x y h
  simp only [WY, WY, Bool.and_eq_true, Bool.or_eq_true, Bool.not_eq_true', Nat.beq_eq, Nat.ble_eq] at h ⊢
  omega
theorem sb_WY1_WY : ∀ x y, WY1 x y = true → WY x y = true := by
  intro x y h
  simp only [WY1, WY, Bool.and_eq_true, Bool.or_eq_true, Bool.not_eq_true', Nat.beq_eq, Nat.ble_eq] at h ⊢
  omega
/-! WHAT IS READ OFF SEVERAL CELLS AT ONCE. -/
