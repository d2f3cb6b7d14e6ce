/-! FRAMES. -/
def WG20 (a f : Nat) : Bool := (Nat.ble 20 a && Nat.ble a 44)
def Wc21 (a f : Nat) : Bool := (Nat.ble 21 a && Nat.ble a 21)
def Wc22 (a f : Nat) : Bool := (Nat.ble 22 a && Nat.ble a 22)
def Wc25 (a f : Nat) : Bool := (Nat.ble 25 a && Nat.ble a 25)
def Wc26 (a f : Nat) : Bool := (Nat.ble 26 a && Nat.ble a 26)
def WG45 (a f : Nat) : Bool := (Nat.ble 45 a && Nat.ble a 69)
def Wc46 (a f : Nat) : Bool := (Nat.ble 46 a && Nat.ble a 46)
def Wc47 (a f : Nat) : Bool := (Nat.ble 47 a && Nat.ble a 47)
def Wc50 (a f : Nat) : Bool := (Nat.ble 50 a && Nat.ble a 50)
def Wc51 (a f : Nat) : Bool := (Nat.ble 51 a && Nat.ble a 51)
def WT27 (a f : Nat) : Bool := (Nat.ble 27 a && Nat.ble a 32)
def WT33 (a f : Nat) : Bool := (Nat.ble 33 a && Nat.ble a 38)
def WT39 (a f : Nat) : Bool := (Nat.ble 39 a && Nat.ble a 44)
def WT52 (a f : Nat) : Bool := (Nat.ble 52 a && Nat.ble a 57)
def WT58 (a f : Nat) : Bool := (Nat.ble 58 a && Nat.ble a 63)
def WT64 (a f : Nat) : Bool := (Nat.ble 64 a && Nat.ble a 69)
theorem sb_WG20_WG20 : ∀ x y, WG20 x y = true → WG20 x y = true := by
  intro x y h
  simp only [WG20, WG20, Bool.and_eq_true, Bool.or_eq_true, Bool.not_eq_true', Nat.beq_eq, Nat.ble_eq] at h ⊢
  omega
theorem sb_WG45_WG45 : ∀ x y, WG45 x y = true → WG45 x y = true := by
  intro x y h
  simp only [WG45, WG45, Bool.and_eq_true, Bool.or_eq_true, Bool.not_eq_true', Nat.beq_eq, Nat.ble_eq] at h ⊢
  omega
theorem sb_WT27_WG20 : ∀ x y, WT27 x y = true → WG20 x y = true := by
  intro x y h
  simp only [WT27, WG20, Bool.and_eq_true, Bool.or_eq_true, Bool.not_eq_true', Nat.beq_eq, Nat.ble_eq] at h ⊢
  omega
theorem sb_WT27_WT27 : ∀ x y, WT27 x y = true → WT27 x y = true := by
  intro x y h
  simp only [WT27, WT27, Bool.and_eq_true, Bool.or_eq_true, Bool.not_eq_true', Nat.beq_eq, Nat.ble_eq] at h ⊢
  omega
theorem sb_WT33_WG20 : ∀ x y, WT33 x y = true → WG20 x y = true := by
  intro x y h
  simp only [WT33, WG20, Bool.and_eq_true, Bool.or_eq_true, Bool.not_eq_true', Nat.beq_eq, Nat.ble_eq] at h ⊢
  omega
theorem sb_WT33_WT33 : ∀ x y, WT33 x y = true → WT33 x y = true := by
  intro x y h
  simp only [WT33, WT33, Bool.and_eq_true, Bool.or_eq_true, Bool.not_eq_true', Nat.beq_eq, Nat.ble_eq] at h ⊢
  omega
theorem sb_WT39_WG20 : ∀ x y, WT39 x y = true → WG20 x y = true := by
  intro x y h
  simp only [WT39, WG20, Bool.and_eq_true, Bool.or_eq_true, Bool.not_eq_true', Nat.beq_eq, Nat.ble_eq] at h ⊢
  omega
theorem sb_WT39_WT39 : ∀ x y, WT39 x y = true → WT39 x y = true := by
  intro x y h
  simp only [WT39, WT39, Bool.and_eq_true, Bool.or_eq_true, Bool.not_eq_true', Nat.beq_eq, Nat.ble_eq] at h ⊢
  omega
theorem sb_WT52_WG45 : ∀ x y, WT52 x y = true → WG45 x y = true := by
  intro x y h
  simp only [WT52, WG45, Bool.and_eq_true, Bool.or_eq_true, Bool.not_eq_true', Nat.beq_eq, Nat.ble_eq] at h ⊢
  omega
theorem sb_WT52_WT52 : ∀ x y, WT52 x y = true → WT52 x y = true := by
  intro x y h
  simp only [WT52, WT52, Bool.and_eq_true, Bool.or_eq_true, Bool.not_eq_true', Nat.beq_eq, Nat.ble_eq] at h ⊢
  omega
theorem sb_WT58_WG45 : ∀ x y, WT58 x y = true → WG45 x y = true := by
  intro x y h
  simp only [WT58, WG45, Bool.and_eq_true, Bool.or_eq_true, Bool.not_eq_true', Nat.beq_eq, Nat.ble_eq] at h ⊢
  omega
theorem sb_WT58_WT58 : ∀ x y, WT58 x y = true → WT58 x y = true := by
  intro x y h
  simp only [WT58, WT58, Bool.and_eq_true, Bool.or_eq_true, Bool.not_eq_true', Nat.beq_eq, Nat.ble_eq] at h ⊢
  omega
theorem sb_WT64_WG45 : ∀ x y, WT64 x y = true → WG45 x y = true := by
  intro x y h
  simp only [WT64, WG45, Bool.and_eq_true, Bool.or_eq_true, Bool.not_eq_true', Nat.beq_eq, Nat.ble_eq] at h ⊢
  omega
theorem sb_WT64_WT64 : ∀ x y, WT64 x y = true → WT64 x y = true := by
  intro x y h
  simp only [WT64, WT64, Bool.and_eq_true, Bool.or_eq_true, Bool.not_eq_true', Nat.beq_eq, Nat.ble_eq] at h ⊢
  omega
theorem sb_Wc21_WG20 : ∀ x y, Wc21 x y = true → WG20 x y = true := by
  intro x y h
  simp only [Wc21, WG20, Bool.and_eq_true, Bool.or_eq_true, Bool.not_eq_true', Nat.beq_eq, Nat.ble_eq] at h ⊢
  omega
theorem sb_Wc22_WG20 : ∀ x y, Wc22 x y = true → WG20 x y = true := by
  intro x y h
  simp only [Wc22, WG20, Bool.and_eq_true, Bool.or_eq_true, Bool.not_eq_true', Nat.beq_eq, Nat.ble_eq] at h ⊢
  omega
theorem sb_Wc25_Wc25 : ∀ x y, Wc25 x y = true → Wc25 x y = true := by
  intro x y h
  simp only [Wc25, Wc25, Bool.and_eq_true, Bool.or_eq_true, Bool.not_eq_true', Nat.beq_eq, Nat.ble_eq] at h ⊢
  omega
theorem sb_Wc26_WG20 : ∀ x y, Wc26 x y = true → WG20 x y = true := by
  intro x y h
  simp only [Wc26, WG20, Bool.and_eq_true, Bool.or_eq_true, Bool.not_eq_true', Nat.beq_eq, Nat.ble_eq] at h ⊢
  omega
theorem sb_Wc46_WG45 : ∀ x y, Wc46 x y = true → WG45 x y = true := by
  intro x y h
  simp only [Wc46, WG45, Bool.and_eq_true, Bool.or_eq_true, Bool.not_eq_true', Nat.beq_eq, Nat.ble_eq] at h ⊢
  omega
theorem sb_Wc47_WG45 : ∀ x y, Wc47 x y = true → WG45 x y = true := by
  intro x y h
  simp only [Wc47, WG45, Bool.and_eq_true, Bool.or_eq_true, Bool.not_eq_true', Nat.beq_eq, Nat.ble_eq] at h ⊢
  omega
theorem sb_Wc50_Wc50 : ∀ x y, Wc50 x y = true → Wc50 x y = true := by
  intro x y h
  simp only [Wc50, Wc50, Bool.and_eq_true, Bool.or_eq_true, Bool.not_eq_true', Nat.beq_eq, Nat.ble_eq] at h ⊢
  omega
theorem sb_Wc51_WG45 : ∀ x y, Wc51 x y = true → WG45 x y = true := by
  intro x y h
  simp only [Wc51, WG45, Bool.and_eq_true, Bool.or_eq_true, Bool.not_eq_true', Nat.beq_eq, Nat.ble_eq] at h ⊢
  omega
/-! WHAT IS READ OFF SEVERAL CELLS AT ONCE. -/
