/-! FRAMES. -/
def Ww138 (a f : Nat) : Bool := Nat.beq a 138
def Ww139 (a f : Nat) : Bool := Nat.beq a 139
def Ww142 (a f : Nat) : Bool := Nat.beq a 142
def Wwpv (a f : Nat) : Bool := Nat.beq a 140 || Nat.beq a 141
def Wstd (a f : Nat) : Bool := ((((((((((((Nat.beq a 117 && (Nat.beq f 34 || Nat.beq f 38 || Nat.beq f 52 || Nat.beq f 42 || Nat.beq f 58 || Nat.beq f 56)) || Nat.beq a 138) || Nat.beq a 139) || Nat.beq a 140) || Nat.beq a 141) || Nat.beq a 142) || Nat.beq a 143) || Nat.beq a 144) || Nat.beq a 145) || Nat.beq a 148) || Nat.beq a 152) || Nat.beq a 153) || Nat.beq a 154
theorem sb_Wset_Wstd : ∀ x y, Wset x y = true → Wstd x y = true := by
  intro x y h
  simp only [Wset, Wstd, Bool.and_eq_true, Bool.or_eq_true, Bool.not_eq_true', Nat.beq_eq, Nat.ble_eq] at h ⊢
  omega
theorem sb_Wsho_Wstd : ∀ x y, Wsho x y = true → Wstd x y = true := by
  intro x y h
  simp only [Wsho, Wstd, Bool.and_eq_true, Bool.or_eq_true, Bool.not_eq_true', Nat.beq_eq, Nat.ble_eq] at h ⊢
  omega
theorem sb_Ww138_Wstd : ∀ x y, Ww138 x y = true → Wstd x y = true := by
  intro x y h
  simp only [Ww138, Wstd, Bool.and_eq_true, Bool.or_eq_true, Bool.not_eq_true', Nat.beq_eq, Nat.ble_eq] at h ⊢
  omega
theorem sb_Ww139_Wstd : ∀ x y, Ww139 x y = true → Wstd x y = true := by
  intro x y h
  simp only [Ww139, Wstd, Bool.and_eq_true, Bool.or_eq_true, Bool.not_eq_true', Nat.beq_eq, Nat.ble_eq] at h ⊢
  omega
theorem sb_Ww142_Wstd : ∀ x y, Ww142 x y = true → Wstd x y = true := by
  intro x y h
  simp only [Ww142, Wstd, Bool.and_eq_true, Bool.or_eq_true, Bool.not_eq_true', Nat.beq_eq, Nat.ble_eq] at h ⊢
  omega
theorem sb_Wwpv_Wstd : ∀ x y, Wwpv x y = true → Wstd x y = true := by
  intro x y h
  simp only [Wwpv, Wstd, Bool.and_eq_true, Bool.or_eq_true, Bool.not_eq_true', Nat.beq_eq, Nat.ble_eq] at h ⊢
  omega
/-! WHAT IS READ OFF SEVERAL CELLS AT ONCE. -/
