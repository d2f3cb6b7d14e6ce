/-! FRAMES. -/
def Wspr (a f : Nat) : Bool := ((((((Nat.beq a 117 && (Nat.beq f 49 || Nat.beq f 52 || Nat.beq f 53)) || Nat.beq a 119) || Nat.beq a 147) || Nat.beq a 148) || Nat.beq a 149) || Nat.beq a 150) || Nat.beq a 151
def Wstk (a f : Nat) : Bool := ((((((Nat.beq a 117 && (Nat.beq f 66 || Nat.beq f 49 || Nat.beq f 52 || Nat.beq f 53)) || Nat.beq a 119) || Nat.beq a 147) || Nat.beq a 148) || Nat.beq a 149) || Nat.beq a 150) || Nat.beq a 151
theorem sb_Wkeep_Wspr : ∀ x y, Wkeep x y = true → Wspr x y = true := by
  intro x y h
  simp only [Wkeep, Wspr, Bool.and_eq_true, Bool.or_eq_true, Bool.not_eq_true', Nat.beq_eq, Nat.ble_eq] at h ⊢
  omega
theorem sb_Wkeep_Wstk : ∀ x y, Wkeep x y = true → Wstk x y = true := by
  intro x y h
  simp only [Wkeep, Wstk, Bool.and_eq_true, Bool.or_eq_true, Bool.not_eq_true', Nat.beq_eq, Nat.ble_eq] at h ⊢
  omega
theorem sb_Wla_Wspr : ∀ x y, Wla x y = true → Wspr x y = true := by
  intro x y h
  simp only [Wla, Wspr, Bool.and_eq_true, Bool.or_eq_true, Bool.not_eq_true', Nat.beq_eq, Nat.ble_eq] at h ⊢
  omega
theorem sb_Wla_Wstk : ∀ x y, Wla x y = true → Wstk x y = true := by
  intro x y h
  simp only [Wla, Wstk, Bool.and_eq_true, Bool.or_eq_true, Bool.not_eq_true', Nat.beq_eq, Nat.ble_eq] at h ⊢
  omega
theorem sb_Wtr_Wspr : ∀ x y, Wtr x y = true → Wspr x y = true := by
  intro x y h
  simp only [Wtr, Wspr, Bool.and_eq_true, Bool.or_eq_true, Bool.not_eq_true', Nat.beq_eq, Nat.ble_eq] at h ⊢
  omega
theorem sb_Wtr_Wstk : ∀ x y, Wtr x y = true → Wstk x y = true := by
  intro x y h
  simp only [Wtr, Wstk, Bool.and_eq_true, Bool.or_eq_true, Bool.not_eq_true', Nat.beq_eq, Nat.ble_eq] at h ⊢
  omega
/-! WHAT IS READ OFF SEVERAL CELLS AT ONCE. -/
