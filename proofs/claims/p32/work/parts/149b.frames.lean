/-! FRAMES. -/
def Wfe (a f : Nat) : Bool := (Nat.beq a 117 && (Nat.beq f 49 || Nat.beq f 59 || Nat.beq f 60 || Nat.beq f 61)) || Nat.beq a 149
def Wch (a f : Nat) : Bool := ((Nat.beq a 117 && (Nat.beq f 49 || Nat.beq f 63)) || Nat.beq a 149) || Nat.beq a 155
def Wrf (a f : Nat) : Bool := (Nat.beq a 117 && (Nat.beq f 66)) || Nat.beq a 119
def Wend (a f : Nat) : Bool := (Nat.beq a 117 && (Nat.beq f 1)) || Nat.beq a 119
theorem sb_Wch_Wch : ∀ x y, Wch x y = true → Wch x y = true := by
  intro x y h
  simp only [Wch, Wch, Bool.and_eq_true, Bool.or_eq_true, Bool.not_eq_true', Nat.beq_eq, Nat.ble_eq] at h ⊢
  omega
theorem sb_Wfw_Wfe : ∀ x y, Wfw x y = true → Wfe x y = true := by
  intro x y h
  simp only [Wfw, Wfe, Bool.and_eq_true, Bool.or_eq_true, Bool.not_eq_true', Nat.beq_eq, Nat.ble_eq] at h ⊢
  omega
theorem sb_Wtr_Wch : ∀ x y, Wtr x y = true → Wch x y = true := by
  intro x y h
  simp only [Wtr, Wch, Bool.and_eq_true, Bool.or_eq_true, Bool.not_eq_true', Nat.beq_eq, Nat.ble_eq] at h ⊢
  omega
theorem sb_Wtr_Wfe : ∀ x y, Wtr x y = true → Wfe x y = true := by
  intro x y h
  simp only [Wtr, Wfe, Bool.and_eq_true, Bool.or_eq_true, Bool.not_eq_true', Nat.beq_eq, Nat.ble_eq] at h ⊢
  omega
/-! WHAT IS READ OFF SEVERAL CELLS AT ONCE. -/
