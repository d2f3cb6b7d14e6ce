/-! FRAMES. -/
def Wset (a f : Nat) : Bool := ((Nat.beq a 117 && (Nat.beq f 42)) || Nat.beq a 144) || Nat.beq a 145
def Wfd (a f : Nat) : Bool := ((Nat.beq a 117 && (Nat.beq f 1)) || Nat.beq a 118) || Nat.beq a 119
theorem sb_Wset_Wset : ∀ x y, Wset x y = true → Wset x y = true := by
  intro x y h
  simp only [Wset, Wset, Bool.and_eq_true, Bool.or_eq_true, Bool.not_eq_true', Nat.beq_eq, Nat.ble_eq] at h ⊢
  omega
/-! WHAT IS READ OFF SEVERAL CELLS AT ONCE. -/
