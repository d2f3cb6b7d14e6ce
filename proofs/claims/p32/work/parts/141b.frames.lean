/-! FRAMES. -/
def Wtr (a f : Nat) : Bool := (Nat.beq a 117 && (Nat.beq f 49)) || Nat.beq a 149
def Wla (a f : Nat) : Bool := Nat.beq a 147 || Nat.beq a 148
theorem sb_Wtr_Wtr : ∀ x y, Wtr x y = true → Wtr x y = true := by
  intro x y h
  simp only [Wtr, Wtr, Bool.and_eq_true, Bool.or_eq_true, Bool.not_eq_true', Nat.beq_eq, Nat.ble_eq] at h ⊢
  omega
/-! WHAT IS READ OFF SEVERAL CELLS AT ONCE. -/
