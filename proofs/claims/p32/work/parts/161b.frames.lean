/-! FRAMES. -/
def Wtp (a f : Nat) : Bool := (Nat.beq a 10 && (Nat.ble 2 f && Nat.ble f 8))
def Wap (a f : Nat) : Bool := (Nat.ble 11 a && Nat.ble a 11) || (Nat.beq a 10 && (Nat.ble 1 f && Nat.ble f 1))
theorem sb_Wtp_Wtp : ∀ x y, Wtp x y = true → Wtp x y = true := by
  intro x y h
  simp only [Wtp, Wtp, Bool.and_eq_true, Bool.or_eq_true, Bool.not_eq_true', Nat.beq_eq, Nat.ble_eq] at h ⊢
  omega
/-! WHAT IS READ OFF SEVERAL CELLS AT ONCE. -/
