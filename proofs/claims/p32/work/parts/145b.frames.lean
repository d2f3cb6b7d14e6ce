/-! FRAMES. -/
def Wfw (a f : Nat) : Bool := Nat.beq a 117 && (Nat.beq f 59 || Nat.beq f 60 || Nat.beq f 61)
def Was (a f : Nat) : Bool := (Nat.beq a 117 && (Nat.beq f 65)) || Nat.beq a 156
theorem sb_Was_Was : ∀ x y, Was x y = true → Was x y = true := by
  intro x y h
  simp only [Was, Was, Bool.and_eq_true, Bool.or_eq_true, Bool.not_eq_true', Nat.beq_eq, Nat.ble_eq] at h ⊢
  omega
theorem sb_Wfw_Wfw : ∀ x y, Wfw x y = true → Wfw x y = true := by
  intro x y h
  simp only [Wfw, Wfw, Bool.and_eq_true, Bool.or_eq_true, Bool.not_eq_true', Nat.beq_eq, Nat.ble_eq] at h ⊢
  omega
/-! WHAT IS READ OFF SEVERAL CELLS AT ONCE. -/
