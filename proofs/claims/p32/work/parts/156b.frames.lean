/-! FRAMES. -/
def Wimg (a f : Nat) : Bool := (Nat.beq a 117 && (Nat.beq f 97)) || Nat.beq a 179
theorem sb_Wimg_Wimg : ∀ x y, Wimg x y = true → Wimg x y = true := by
  intro x y h
  simp only [Wimg, Wimg, Bool.and_eq_true, Bool.or_eq_true, Bool.not_eq_true', Nat.beq_eq, Nat.ble_eq] at h ⊢
  omega
/-! WHAT IS READ OFF SEVERAL CELLS AT ONCE. -/
