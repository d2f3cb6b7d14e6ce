/-! FRAMES. -/
def Wway (a f : Nat) : Bool := (((Nat.beq a 117 && (Nat.beq f 49 || Nat.beq f 63 || Nat.beq f 65)) || Nat.beq a 149) || Nat.beq a 155) || Nat.beq a 156
theorem sb_Was_Wway : ∀ x y, Was x y = true → Wway x y = true := by
  intro x y h
  simp only [Was, Wway, Bool.and_eq_true, Bool.or_eq_true, Bool.not_eq_true', Nat.beq_eq, Nat.ble_eq] at h ⊢
  omega
theorem sb_Wch_Wway : ∀ x y, Wch x y = true → Wway x y = true := by
  intro x y h
  simp only [Wch, Wway, Bool.and_eq_true, Bool.or_eq_true, Bool.not_eq_true', Nat.beq_eq, Nat.ble_eq] at h ⊢
  omega
theorem sb_Wtr_Wway : ∀ x y, Wtr x y = true → Wway x y = true := by
  intro x y h
  simp only [Wtr, Wway, Bool.and_eq_true, Bool.or_eq_true, Bool.not_eq_true', Nat.beq_eq, Nat.ble_eq] at h ⊢
  omega
theorem sb_Wway_Wway : ∀ x y, Wway x y = true → Wway x y = true := by
  intro x y h
  simp only [Wway, Wway, Bool.and_eq_true, Bool.or_eq_true, Bool.not_eq_true', Nat.beq_eq, Nat.ble_eq] at h ⊢
  omega
/-! WHAT IS READ OFF SEVERAL CELLS AT ONCE. -/
