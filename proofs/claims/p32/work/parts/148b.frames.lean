/-! FRAMES. -/
def Wlaw (a f : Nat) : Bool := (((((((Nat.beq a 117 && (Nat.beq f 1 || Nat.beq f 2 || Nat.beq f 3 || Nat.beq f 4 || Nat.beq f 5 || Nat.beq f 6 || Nat.beq f 7 || Nat.beq f 8 || Nat.beq f 28 || Nat.beq f 44 || Nat.beq f 45 || Nat.beq f 49 || Nat.beq f 52 || Nat.beq f 53)) || Nat.beq a 119) || Nat.beq a 146) || Nat.beq a 147) || Nat.beq a 148) || Nat.beq a 149) || Nat.beq a 150) || Nat.beq a 151
theorem sb_Wat_Wlaw : ∀ x y, Wat x y = true → Wlaw x y = true := by
  intro x y h
  simp only [Wat, Wlaw, Bool.and_eq_true, Bool.or_eq_true, Bool.not_eq_true', Nat.beq_eq, Nat.ble_eq] at h ⊢
  omega
theorem sb_Wkeep_Wlaw : ∀ x y, Wkeep x y = true → Wlaw x y = true := by
  intro x y h
  simp only [Wkeep, Wlaw, Bool.and_eq_true, Bool.or_eq_true, Bool.not_eq_true', Nat.beq_eq, Nat.ble_eq] at h ⊢
  omega
theorem sb_Wla_Wlaw : ∀ x y, Wla x y = true → Wlaw x y = true := by
  intro x y h
  simp only [Wla, Wlaw, Bool.and_eq_true, Bool.or_eq_true, Bool.not_eq_true', Nat.beq_eq, Nat.ble_eq] at h ⊢
  omega
theorem sb_Wlw_Wlaw : ∀ x y, Wlw x y = true → Wlaw x y = true := by
  intro x y h
  simp only [Wlw, Wlaw, Bool.and_eq_true, Bool.or_eq_true, Bool.not_eq_true', Nat.beq_eq, Nat.ble_eq] at h ⊢
  omega
theorem sb_Wsgn_Wlaw : ∀ x y, Wsgn x y = true → Wlaw x y = true := by
  intro x y h
  simp only [Wsgn, Wlaw, Bool.and_eq_true, Bool.or_eq_true, Bool.not_eq_true', Nat.beq_eq, Nat.ble_eq] at h ⊢
  omega
theorem sb_Wtr_Wlaw : ∀ x y, Wtr x y = true → Wlaw x y = true := by
  intro x y h
  simp only [Wtr, Wlaw, Bool.and_eq_true, Bool.or_eq_true, Bool.not_eq_true', Nat.beq_eq, Nat.ble_eq] at h ⊢
  omega
/-! WHAT IS READ OFF SEVERAL CELLS AT ONCE. -/
