/-! FRAMES. -/
def Wakj (a f : Nat) : Bool := (((Nat.beq a 117 && (Nat.beq f 2 || Nat.beq f 4 || Nat.beq f 5 || Nat.beq f 6 || Nat.beq f 28 || Nat.beq f 90 || Nat.beq f 87 || Nat.beq f 89 || Nat.beq f 91 || Nat.beq f 93 || Nat.beq f 94 || Nat.beq f 95)) || Nat.beq a 176) || Nat.beq a 177) || Nat.beq a 178
def WG20 (a f : Nat) : Bool := (Nat.ble 20 a && Nat.ble a 44)
def Wc21 (a f : Nat) : Bool := (Nat.ble 21 a && Nat.ble a 21)
def Wc22 (a f : Nat) : Bool := (Nat.ble 22 a && Nat.ble a 22)
def Wc25 (a f : Nat) : Bool := (Nat.ble 25 a && Nat.ble a 25)
def Wc26 (a f : Nat) : Bool := (Nat.ble 26 a && Nat.ble a 26)
def WG45 (a f : Nat) : Bool := (Nat.ble 45 a && Nat.ble a 69)
def Wc46 (a f : Nat) : Bool := (Nat.ble 46 a && Nat.ble a 46)
def Wc47 (a f : Nat) : Bool := (Nat.ble 47 a && Nat.ble a 47)
def Wc50 (a f : Nat) : Bool := (Nat.ble 50 a && Nat.ble a 50)
def Wc51 (a f : Nat) : Bool := (Nat.ble 51 a && Nat.ble a 51)
def WT27 (a f : Nat) : Bool := (Nat.ble 27 a && Nat.ble a 32)
def WT33 (a f : Nat) : Bool := (Nat.ble 33 a && Nat.ble a 38)
def WT39 (a f : Nat) : Bool := (Nat.ble 39 a && Nat.ble a 44)
def WT52 (a f : Nat) : Bool := (Nat.ble 52 a && Nat.ble a 57)
def WT58 (a f : Nat) : Bool := (Nat.ble 58 a && Nat.ble a 63)
def WT64 (a f : Nat) : Bool := (Nat.ble 64 a && Nat.ble a 69)
def WR20 (a f : Nat) : Bool := (Nat.ble 20 a && Nat.ble a 44) || (Nat.beq a 10 && (Nat.ble 2 f && Nat.ble f 8))
def WQ27 (a f : Nat) : Bool := (Nat.ble 27 a && Nat.ble a 32) || (Nat.beq a 10 && (Nat.ble 2 f && Nat.ble f 8))
def WQ33 (a f : Nat) : Bool := (Nat.ble 33 a && Nat.ble a 38) || (Nat.beq a 10 && (Nat.ble 2 f && Nat.ble f 8))
def WQ39 (a f : Nat) : Bool := (Nat.ble 39 a && Nat.ble a 44) || (Nat.beq a 10 && (Nat.ble 2 f && Nat.ble f 8))
def WR45 (a f : Nat) : Bool := (Nat.ble 45 a && Nat.ble a 69) || (Nat.beq a 10 && (Nat.ble 2 f && Nat.ble f 8))
def WQ52 (a f : Nat) : Bool := (Nat.ble 52 a && Nat.ble a 57) || (Nat.beq a 10 && (Nat.ble 2 f && Nat.ble f 8))
def WQ58 (a f : Nat) : Bool := (Nat.ble 58 a && Nat.ble a 63) || (Nat.beq a 10 && (Nat.ble 2 f && Nat.ble f 8))
def WQ64 (a f : Nat) : Bool := (Nat.ble 64 a && Nat.ble a 69) || (Nat.beq a 10 && (Nat.ble 2 f && Nat.ble f 8))
def WW70 (a f : Nat) : Bool := (Nat.ble 70 a && Nat.ble a 74)
def Wra70 (a f : Nat) : Bool := (Nat.beq a 70 && (Nat.ble 8 f && Nat.ble f 8))
def WW75 (a f : Nat) : Bool := (Nat.ble 75 a && Nat.ble a 79)
def Wra75 (a f : Nat) : Bool := (Nat.beq a 75 && (Nat.ble 8 f && Nat.ble f 8))
def WW80 (a f : Nat) : Bool := (Nat.ble 80 a && Nat.ble a 84)
def Wra80 (a f : Nat) : Bool := (Nat.beq a 80 && (Nat.ble 8 f && Nat.ble f 8))
def WW85 (a f : Nat) : Bool := (Nat.ble 85 a && Nat.ble a 89)
def Wra85 (a f : Nat) : Bool := (Nat.beq a 85 && (Nat.ble 8 f && Nat.ble f 8))
def WW104 (a f : Nat) : Bool := (Nat.ble 104 a && Nat.ble a 108)
def Wra104 (a f : Nat) : Bool := (Nat.beq a 104 && (Nat.ble 8 f && Nat.ble f 8))
def WW109 (a f : Nat) : Bool := (Nat.ble 109 a && Nat.ble a 113)
def Wra109 (a f : Nat) : Bool := (Nat.beq a 109 && (Nat.ble 8 f && Nat.ble f 8))
def WL80 (a f : Nat) : Bool := (Nat.ble 80 a && Nat.ble a 84) || (Nat.beq a 10 && (Nat.ble 2 f && Nat.ble f 8))
def Wac (a f : Nat) : Bool := (Nat.ble 90 a && Nat.ble a 92)
def Wtb (a f : Nat) : Bool := (Nat.ble 90 a && Nat.ble a 92) || (Nat.ble 71 a && Nat.ble a 71) || (Nat.beq a 70 && (Nat.ble 1 f && Nat.ble f 1))
def WS (a f : Nat) : Bool := (Nat.ble 93 a && Nat.ble a 101)
def Wc97 (a f : Nat) : Bool := (Nat.ble 97 a && Nat.ble a 97)
def WY (a f : Nat) : Bool := (Nat.ble 104 a && Nat.ble a 113)
def WY1 (a f : Nat) : Bool := (Nat.ble 104 a && Nat.ble a 108)
def Wqu1 (a f : Nat) : Bool := (Nat.beq a 10 && (Nat.ble 2 f && Nat.ble f 8))
def WQ (a f : Nat) : Bool := (Nat.ble 18 a && Nat.ble a 18) || (Nat.beq a 10 && (Nat.ble 2 f && Nat.ble f 8)) || (Nat.beq a 16 && (Nat.ble 4 f && Nat.ble f 5))
def WQs (a f : Nat) : Bool := (Nat.ble 18 a && Nat.ble a 18) || (Nat.beq a 16 && (Nat.ble 4 f && Nat.ble f 4))
def WQr (a f : Nat) : Bool := (Nat.ble 18 a && Nat.ble a 18) || (Nat.beq a 10 && (Nat.ble 2 f && Nat.ble f 8)) || (Nat.beq a 16 && (Nat.ble 4 f && Nat.ble f 6))
def WQp (a f : Nat) : Bool := (Nat.ble 19 a && Nat.ble a 19) || (Nat.beq a 16 && (Nat.ble 7 f && Nat.ble f 7))
def WQa (a f : Nat) : Bool := (Nat.ble 19 a && Nat.ble a 19) || (Nat.beq a 16 && (Nat.ble 7 f && Nat.ble f 10))
def WXg (a f : Nat) : Bool := (Nat.ble 11 a && Nat.ble a 19) || (Nat.ble 25 a && Nat.ble a 25) || (Nat.ble 50 a && Nat.ble a 50) || (Nat.ble 70 a && Nat.ble a 116) || (Nat.beq a 10 && (Nat.ble 2 f && Nat.ble f 8)) || (Nat.beq a 9 && (Nat.ble 15 f && Nat.ble f 15))
def WXl (a f : Nat) : Bool := (Nat.ble 11 a && Nat.ble a 19) || (Nat.ble 25 a && Nat.ble a 25) || (Nat.ble 50 a && Nat.ble a 50) || (Nat.ble 70 a && Nat.ble a 116) || (Nat.beq a 10 && (Nat.ble 2 f && Nat.ble f 8)) || (Nat.beq a 9 && (Nat.ble 15 f && Nat.ble f 15)) || (Nat.beq a 10 && (Nat.ble 1 f && Nat.ble f 1))
def WXt (a f : Nat) : Bool := (Nat.ble 9 a && Nat.ble a 116)
def WXf (a f : Nat) : Bool := (Nat.ble 11 a && Nat.ble a 11) || (Nat.ble 116 a && Nat.ble a 116) || (Nat.beq a 10 && (Nat.ble 1 f && Nat.ble f 1))
def WXe (a f : Nat) : Bool := (Nat.ble 116 a && Nat.ble a 116) || (Nat.beq a 10 && (Nat.ble 1 f && Nat.ble f 1))
def WXr (a f : Nat) : Bool := (Nat.ble 116 a && Nat.ble a 116)
def WXlot (a f : Nat) : Bool := (Nat.beq a 9 && (Nat.ble 15 f && Nat.ble f 15))
def WXtr (a f : Nat) : Bool := (Nat.ble 80 a && Nat.ble a 84) || (Nat.ble 25 a && Nat.ble a 25) || (Nat.ble 50 a && Nat.ble a 50)
def Wim (a f : Nat) : Bool := (Nat.ble 114 a && Nat.ble a 114) || (Nat.ble 115 a && Nat.ble a 115)
theorem sb_WG20_WG20 : ∀ x y, WG20 x y = true → WG20 x y = true := by
  intro x y h
  simp only [WG20, WG20, Bool.and_eq_true, Bool.or_eq_true, Bool.not_eq_true', Nat.beq_eq, Nat.ble_eq] at h ⊢
  omega
theorem sb_WG45_WG45 : ∀ x y, WG45 x y = true → WG45 x y = true := by
  intro x y h
  simp only [WG45, WG45, Bool.and_eq_true, Bool.or_eq_true, Bool.not_eq_true', Nat.beq_eq, Nat.ble_eq] at h ⊢
  omega
theorem sb_WT27_WG20 : ∀ x y, WT27 x y = true → WG20 x y = true := by
  intro x y h
  simp only [WT27, WG20, Bool.and_eq_true, Bool.or_eq_true, Bool.not_eq_true', Nat.beq_eq, Nat.ble_eq] at h ⊢
  omega
theorem sb_WT27_WT27 : ∀ x y, WT27 x y = true → WT27 x y = true := by
  intro x y h
  simp only [WT27, WT27, Bool.and_eq_true, Bool.or_eq_true, Bool.not_eq_true', Nat.beq_eq, Nat.ble_eq] at h ⊢
  omega
theorem sb_WT33_WG20 : ∀ x y, WT33 x y = true → WG20 x y = true := by
  intro x y h
  simp only [WT33, WG20, Bool.and_eq_true, Bool.or_eq_true, Bool.not_eq_true', Nat.beq_eq, Nat.ble_eq] at h ⊢
  omega
theorem sb_WT33_WT33 : ∀ x y, WT33 x y = true → WT33 x y = true := by
  intro x y h
  simp only [WT33, WT33, Bool.and_eq_true, Bool.or_eq_true, Bool.not_eq_true', Nat.beq_eq, Nat.ble_eq] at h ⊢
  omega
theorem sb_WT39_WG20 : ∀ x y, WT39 x y = true → WG20 x y = true := by
  intro x y h
  simp only [WT39, WG20, Bool.and_eq_true, Bool.or_eq_true, Bool.not_eq_true', Nat.beq_eq, Nat.ble_eq] at h ⊢
  omega
theorem sb_WT39_WT39 : ∀ x y, WT39 x y = true → WT39 x y = true := by
  intro x y h
  simp only [WT39, WT39, Bool.and_eq_true, Bool.or_eq_true, Bool.not_eq_true', Nat.beq_eq, Nat.ble_eq] at h ⊢
  omega
theorem sb_WT52_WG45 : ∀ x y, WT52 x y = true → WG45 x y = true := by
  intro x y h
  simp only [WT52, WG45, Bool.and_eq_true, Bool.or_eq_true, Bool.not_eq_true', Nat.beq_eq, Nat.ble_eq] at h ⊢
  omega
theorem sb_WT52_WT52 : ∀ x y, WT52 x y = true → WT52 x y = true := by
  intro x y h
  simp only [WT52, WT52, Bool.and_eq_true, Bool.or_eq_true, Bool.not_eq_true', Nat.beq_eq, Nat.ble_eq] at h ⊢
  omega
theorem sb_WT58_WG45 : ∀ x y, WT58 x y = true → WG45 x y = true := by
  intro x y h
  simp only [WT58, WG45, Bool.and_eq_true, Bool.or_eq_true, Bool.not_eq_true', Nat.beq_eq, Nat.ble_eq] at h ⊢
  omega
theorem sb_WT58_WT58 : ∀ x y, WT58 x y = true → WT58 x y = true := by
  intro x y h
  simp only [WT58, WT58, Bool.and_eq_true, Bool.or_eq_true, Bool.not_eq_true', Nat.beq_eq, Nat.ble_eq] at h ⊢
  omega
theorem sb_WT64_WG45 : ∀ x y, WT64 x y = true → WG45 x y = true := by
  intro x y h
  simp only [WT64, WG45, Bool.and_eq_true, Bool.or_eq_true, Bool.not_eq_true', Nat.beq_eq, Nat.ble_eq] at h ⊢
  omega
theorem sb_WT64_WT64 : ∀ x y, WT64 x y = true → WT64 x y = true := by
  intro x y h
  simp only [WT64, WT64, Bool.and_eq_true, Bool.or_eq_true, Bool.not_eq_true', Nat.beq_eq, Nat.ble_eq] at h ⊢
  omega
theorem sb_Wakj_Wak : ∀ x y, Wakj x y = true → Wak x y = true := by
  intro x y h
  simp only [Wakj, Wak, Bool.and_eq_true, Bool.or_eq_true, Bool.not_eq_true', Nat.beq_eq, Nat.ble_eq] at h ⊢
  omega
theorem sb_Wat_Wakj : ∀ x y, Wat x y = true → Wakj x y = true := by
  intro x y h
  simp only [Wat, Wakj, Bool.and_eq_true, Bool.or_eq_true, Bool.not_eq_true', Nat.beq_eq, Nat.ble_eq] at h ⊢
  omega
theorem sb_Wbad_Wakj : ∀ x y, Wbad x y = true → Wakj x y = true := by
  intro x y h
  simp only [Wbad, Wakj, Bool.and_eq_true, Bool.or_eq_true, Bool.not_eq_true', Nat.beq_eq, Nat.ble_eq] at h ⊢
  omega
theorem sb_Wc21_WG20 : ∀ x y, Wc21 x y = true → WG20 x y = true := by
  intro x y h
  simp only [Wc21, WG20, Bool.and_eq_true, Bool.or_eq_true, Bool.not_eq_true', Nat.beq_eq, Nat.ble_eq] at h ⊢
  omega
theorem sb_Wc22_WG20 : ∀ x y, Wc22 x y = true → WG20 x y = true := by
  intro x y h
  simp only [Wc22, WG20, Bool.and_eq_true, Bool.or_eq_true, Bool.not_eq_true', Nat.beq_eq, Nat.ble_eq] at h ⊢
  omega
theorem sb_Wc25_Wc25 : ∀ x y, Wc25 x y = true → Wc25 x y = true := by
  intro x y h
  simp only [Wc25, Wc25, Bool.and_eq_true, Bool.or_eq_true, Bool.not_eq_true', Nat.beq_eq, Nat.ble_eq] at h ⊢
  omega
theorem sb_Wc26_WG20 : ∀ x y, Wc26 x y = true → WG20 x y = true := by
  intro x y h
  simp only [Wc26, WG20, Bool.and_eq_true, Bool.or_eq_true, Bool.not_eq_true', Nat.beq_eq, Nat.ble_eq] at h ⊢
  omega
theorem sb_Wc46_WG45 : ∀ x y, Wc46 x y = true → WG45 x y = true := by
  intro x y h
  simp only [Wc46, WG45, Bool.and_eq_true, Bool.or_eq_true, Bool.not_eq_true', Nat.beq_eq, Nat.ble_eq] at h ⊢
  omega
theorem sb_Wc47_WG45 : ∀ x y, Wc47 x y = true → WG45 x y = true := by
  intro x y h
  simp only [Wc47, WG45, Bool.and_eq_true, Bool.or_eq_true, Bool.not_eq_true', Nat.beq_eq, Nat.ble_eq] at h ⊢
  omega
theorem sb_Wc50_Wc50 : ∀ x y, Wc50 x y = true → Wc50 x y = true := by
  intro x y h
  simp only [Wc50, Wc50, Bool.and_eq_true, Bool.or_eq_true, Bool.not_eq_true', Nat.beq_eq, Nat.ble_eq] at h ⊢
  omega
theorem sb_Wc51_WG45 : ∀ x y, Wc51 x y = true → WG45 x y = true := by
  intro x y h
  simp only [Wc51, WG45, Bool.and_eq_true, Bool.or_eq_true, Bool.not_eq_true', Nat.beq_eq, Nat.ble_eq] at h ⊢
  omega
theorem sb_Wqs_Wakj : ∀ x y, Wqs x y = true → Wakj x y = true := by
  intro x y h
  simp only [Wqs, Wakj, Bool.and_eq_true, Bool.or_eq_true, Bool.not_eq_true', Nat.beq_eq, Nat.ble_eq] at h ⊢
  omega
/-! WHAT IS READ OFF SEVERAL CELLS AT ONCE. -/
