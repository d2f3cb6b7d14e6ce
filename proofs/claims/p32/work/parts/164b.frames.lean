/-! FRAMES. -/
def Wc76 (a f : Nat) : Bool := Nat.beq a 76
def Wc71 (a f : Nat) : Bool := Nat.beq a 71
def Wc81 (a f : Nat) : Bool := Nat.beq a 81
def Wc110 (a f : Nat) : Bool := Nat.beq a 110
def Wc105 (a f : Nat) : Bool := Nat.beq a 105
theorem sb_WW104_WW104 : ∀ x y, WW104 x y = true → WW104 x y = true := by
  intro x y h
  simp only [WW104, WW104, Bool.and_eq_true, Bool.or_eq_true, Bool.not_eq_true', Nat.beq_eq, Nat.ble_eq] at h ⊢
  omega
theorem sb_WW109_WW109 : ∀ x y, WW109 x y = true → WW109 x y = true := by
  intro x y h
  simp only [WW109, WW109, Bool.and_eq_true, Bool.or_eq_true, Bool.not_eq_true', Nat.beq_eq, Nat.ble_eq] at h ⊢
  omega
theorem sb_WW70_WW70 : ∀ x y, WW70 x y = true → WW70 x y = true := by
  intro x y h
  simp only [WW70, WW70, Bool.and_eq_true, Bool.or_eq_true, Bool.not_eq_true', Nat.beq_eq, Nat.ble_eq] at h ⊢
  omega
theorem sb_WW75_WW75 : ∀ x y, WW75 x y = true → WW75 x y = true := by
  intro x y h
  simp only [WW75, WW75, Bool.and_eq_true, Bool.or_eq_true, Bool.not_eq_true', Nat.beq_eq, Nat.ble_eq] at h ⊢
  omega
theorem sb_WW80_WW80 : ∀ x y, WW80 x y = true → WW80 x y = true := by
  intro x y h
  simp only [WW80, WW80, Bool.and_eq_true, Bool.or_eq_true, Bool.not_eq_true', Nat.beq_eq, Nat.ble_eq] at h ⊢
  omega
theorem sb_WW85_WW85 : ∀ x y, WW85 x y = true → WW85 x y = true := by
  intro x y h
  simp only [WW85, WW85, Bool.and_eq_true, Bool.or_eq_true, Bool.not_eq_true', Nat.beq_eq, Nat.ble_eq] at h ⊢
  omega
theorem sb_Wc105_WW104 : ∀ x y, Wc105 x y = true → WW104 x y = true := by
  intro x y h
  simp only [Wc105, WW104, Bool.and_eq_true, Bool.or_eq_true, Bool.not_eq_true', Nat.beq_eq, Nat.ble_eq] at h ⊢
  omega
theorem sb_Wc110_WW109 : ∀ x y, Wc110 x y = true → WW109 x y = true := by
  intro x y h
  simp only [Wc110, WW109, Bool.and_eq_true, Bool.or_eq_true, Bool.not_eq_true', Nat.beq_eq, Nat.ble_eq] at h ⊢
  omega
theorem sb_Wc71_WW70 : ∀ x y, Wc71 x y = true → WW70 x y = true := by
  intro x y h
  simp only [Wc71, WW70, Bool.and_eq_true, Bool.or_eq_true, Bool.not_eq_true', Nat.beq_eq, Nat.ble_eq] at h ⊢
  omega
theorem sb_Wc76_WW75 : ∀ x y, Wc76 x y = true → WW75 x y = true := by
  intro x y h
  simp only [Wc76, WW75, Bool.and_eq_true, Bool.or_eq_true, Bool.not_eq_true', Nat.beq_eq, Nat.ble_eq] at h ⊢
  omega
theorem sb_Wc81_WW80 : ∀ x y, Wc81 x y = true → WW80 x y = true := by
  intro x y h
  simp only [Wc81, WW80, Bool.and_eq_true, Bool.or_eq_true, Bool.not_eq_true', Nat.beq_eq, Nat.ble_eq] at h ⊢
  omega
theorem sb_Wra104_WW104 : ∀ x y, Wra104 x y = true → WW104 x y = true := by
  intro x y h
  simp only [Wra104, WW104, Bool.and_eq_true, Bool.or_eq_true, Bool.not_eq_true', Nat.beq_eq, Nat.ble_eq] at h ⊢
  omega
theorem sb_Wra109_WW109 : ∀ x y, Wra109 x y = true → WW109 x y = true := by
  intro x y h
  simp only [Wra109, WW109, Bool.and_eq_true, Bool.or_eq_true, Bool.not_eq_true', Nat.beq_eq, Nat.ble_eq] at h ⊢
  omega
theorem sb_Wra70_WW70 : ∀ x y, Wra70 x y = true → WW70 x y = true := by
  intro x y h
  simp only [Wra70, WW70, Bool.and_eq_true, Bool.or_eq_true, Bool.not_eq_true', Nat.beq_eq, Nat.ble_eq] at h ⊢
  omega
theorem sb_Wra75_WW75 : ∀ x y, Wra75 x y = true → WW75 x y = true := by
  intro x y h
  simp only [Wra75, WW75, Bool.and_eq_true, Bool.or_eq_true, Bool.not_eq_true', Nat.beq_eq, Nat.ble_eq] at h ⊢
  omega
theorem sb_Wra80_WW80 : ∀ x y, Wra80 x y = true → WW80 x y = true := by
  intro x y h
  simp only [Wra80, WW80, Bool.and_eq_true, Bool.or_eq_true, Bool.not_eq_true', Nat.beq_eq, Nat.ble_eq] at h ⊢
  omega
/-! WHAT IS READ OFF SEVERAL CELLS AT ONCE. -/
