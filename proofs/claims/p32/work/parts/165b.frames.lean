/-! FRAMES. -/
def Wc91 (a f : Nat) : Bool := Nat.beq a 91
theorem sb_WS_WS : ∀ x y, WS x y = true → WS x y = true := by
  intro x y h
  simp only [WS, WS, Bool.and_eq_true, Bool.or_eq_true, Bool.not_eq_true', Nat.beq_eq, Nat.ble_eq] at h ⊢
  omega
theorem sb_Wc71_Wtb : ∀ x y, Wc71 x y = true → Wtb x y = true := by
  intro x y h
  simp only [Wc71, Wtb, Bool.and_eq_true, Bool.or_eq_true, Bool.not_eq_true', Nat.beq_eq, Nat.ble_eq] at h ⊢
  omega
theorem sb_Wc91_Wac : ∀ x y, Wc91 x y = true → Wac x y = true := by
  intro x y h
  simp only [Wc91, Wac, Bool.and_eq_true, Bool.or_eq_true, Bool.not_eq_true', Nat.beq_eq, Nat.ble_eq] at h ⊢
  omega
theorem sb_Wc97_WS : ∀ x y, Wc97 x y = true → WS x y = true := by
  intro x y h
  simp only [Wc97, WS, Bool.and_eq_true, Bool.or_eq_true, Bool.not_eq_true', Nat.beq_eq, Nat.ble_eq] at h ⊢
  omega
/-! WHAT IS READ OFF SEVERAL CELLS AT ONCE. -/
