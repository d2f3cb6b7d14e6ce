/-! FRAMES. -/
def Wsi (a f : Nat) : Bool := ((Nat.beq a 117 && (Nat.beq f 56)) || Nat.beq a 152) || Nat.beq a 153
def Wshl (a f : Nat) : Bool := (Nat.beq a 117 && (Nat.beq f 58)) || Nat.beq a 154
def Wsho (a f : Nat) : Bool := (((Nat.beq a 117 && (Nat.beq f 58 || Nat.beq f 56)) || Nat.beq a 152) || Nat.beq a 153) || Nat.beq a 154
theorem sb_Wshl_Wsho : ∀ x y, Wshl x y = true → Wsho x y = true := by
  intro x y h
  simp only [Wshl, Wsho, Bool.and_eq_true, Bool.or_eq_true, Bool.not_eq_true', Nat.beq_eq, Nat.ble_eq] at h ⊢
  omega
theorem sb_Wsi_Wsho : ∀ x y, Wsi x y = true → Wsho x y = true := by
  intro x y h
  simp only [Wsi, Wsho, Bool.and_eq_true, Bool.or_eq_true, Bool.not_eq_true', Nat.beq_eq, Nat.ble_eq] at h ⊢
  omega
theorem sb_Wsi_Wsi : ∀ x y, Wsi x y = true → Wsi x y = true := by
  intro x y h
  simp only [Wsi, Wsi, Bool.and_eq_true, Bool.or_eq_true, Bool.not_eq_true', Nat.beq_eq, Nat.ble_eq] at h ⊢
  omega
/-! WHAT IS READ OFF SEVERAL CELLS AT ONCE. -/
