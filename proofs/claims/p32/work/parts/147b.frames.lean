/-! FRAMES. -/
def Wundo (a f : Nat) : Bool := (((Nat.beq a 117 && (Nat.beq f 52 || Nat.beq f 53)) || Nat.beq a 119) || Nat.beq a 147) || Nat.beq a 148
def Wmk (a f : Nat) : Bool := ((((((Nat.beq a 117 && (Nat.beq f 49 || Nat.beq f 52 || Nat.beq f 53)) || Nat.beq a 119) || Nat.beq a 147) || Nat.beq a 148) || Nat.beq a 149) || Nat.beq a 150) || Nat.beq a 151
theorem sb_Wkeep_Wmk : ∀ x y, Wkeep x y = true → Wmk x y = true := by
  intro x y h
  simp only [Wkeep, Wmk, Bool.and_eq_true, Bool.or_eq_true, Bool.not_eq_true', Nat.beq_eq, Nat.ble_eq] at h ⊢
  omega
theorem sb_Wla_Wmk : ∀ x y, Wla x y = true → Wmk x y = true := by
  intro x y h
  simp only [Wla, Wmk, Bool.and_eq_true, Bool.or_eq_true, Bool.not_eq_true', Nat.beq_eq, Nat.ble_eq] at h ⊢
  omega
theorem sb_Wla_Wundo : ∀ x y, Wla x y = true → Wundo x y = true := by
  intro x y h
  simp only [Wla, Wundo, Bool.and_eq_true, Bool.or_eq_true, Bool.not_eq_true', Nat.beq_eq, Nat.ble_eq] at h ⊢
  omega
theorem sb_Wtr_Wmk : ∀ x y, Wtr x y = true → Wmk x y = true := by
  intro x y h
  simp only [Wtr, Wmk, Bool.and_eq_true, Bool.or_eq_true, Bool.not_eq_true', Nat.beq_eq, Nat.ble_eq] at h ⊢
  omega
/-! WHAT IS READ OFF SEVERAL CELLS AT ONCE. -/
