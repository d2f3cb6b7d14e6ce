def W0 (a f : Nat) : Bool := false
def Wat (a f : Nat) : Bool := Nat.beq a 117 && (Nat.beq f 2)
def Wtak (a f : Nat) : Bool := Nat.beq a 117 && (Nat.beq f 2 || Nat.beq f 4)
def Wbad (a f : Nat) : Bool := Nat.beq a 117 && (Nat.beq f 5 || Nat.beq f 6)
def Wask (a f : Nat) : Bool := Nat.beq a 117 && (Nat.beq f 2 || Nat.beq f 4 || Nat.beq f 5 || Nat.beq f 6)
def Wsgn (a f : Nat) : Bool := Nat.beq a 117 && (Nat.beq f 2 || Nat.beq f 5 || Nat.beq f 6)
def Wsp (a f : Nat) : Bool := Nat.beq a 117 && (Nat.beq f 2 || Nat.beq f 4 || Nat.beq f 5 || Nat.beq f 6 || Nat.beq f 28)
def Wnw (a f : Nat) : Bool := (Nat.beq a 117 && (Nat.beq f 2 || Nat.beq f 4 || Nat.beq f 5 || Nat.beq f 6 || Nat.beq f 28)) || Nat.beq a 138
def Wnl (a f : Nat) : Bool := ((Nat.beq a 117 && (Nat.beq f 2 || Nat.beq f 4 || Nat.beq f 5 || Nat.beq f 6 || Nat.beq f 28)) || Nat.beq a 138) || Nat.beq a 139
def Wnp (a f : Nat) : Bool := ((Nat.beq a 117 && (Nat.beq f 2 || Nat.beq f 4 || Nat.beq f 5 || Nat.beq f 6 || Nat.beq f 28 || Nat.beq f 33)) || Nat.beq a 140) || Nat.beq a 141
def Wnr (a f : Nat) : Bool := ((Nat.beq a 117 && (Nat.beq f 2 || Nat.beq f 4 || Nat.beq f 5 || Nat.beq f 6 || Nat.beq f 28)) || Nat.beq a 142) || Nat.beq a 143
def Wst (a f : Nat) : Bool := ((((((Nat.beq a 117 && (Nat.beq f 2 || Nat.beq f 4 || Nat.beq f 5 || Nat.beq f 6 || Nat.beq f 28 || Nat.beq f 33 || Nat.beq f 37 || Nat.beq f 39)) || Nat.beq a 138) || Nat.beq a 139) || Nat.beq a 140) || Nat.beq a 141) || Nat.beq a 142) || Nat.beq a 143
theorem sb_Wask_Wnp : ∀ x y, Wask x y = true → Wnp x y = true := by
  intro x y h
  simp only [Wask, Wnp, Bool.and_eq_true, Bool.or_eq_true, Bool.not_eq_true', Nat.beq_eq, Nat.ble_eq] at h ⊢
  omega
theorem sb_Wat_Wask : ∀ x y, Wat x y = true → Wask x y = true := by
  intro x y h
  simp only [Wat, Wask, Bool.and_eq_true, Bool.or_eq_true, Bool.not_eq_true', Nat.beq_eq, Nat.ble_eq] at h ⊢
  omega
theorem sb_Wat_Wat : ∀ x y, Wat x y = true → Wat x y = true := by
  intro x y h
  simp only [Wat, Wat, Bool.and_eq_true, Bool.or_eq_true, Bool.not_eq_true', Nat.beq_eq, Nat.ble_eq] at h ⊢
  omega
theorem sb_Wat_Wsgn : ∀ x y, Wat x y = true → Wsgn x y = true := by
  intro x y h
  simp only [Wat, Wsgn, Bool.and_eq_true, Bool.or_eq_true, Bool.not_eq_true', Nat.beq_eq, Nat.ble_eq] at h ⊢
  omega
theorem sb_Wat_Wsp : ∀ x y, Wat x y = true → Wsp x y = true := by
  intro x y h
  simp only [Wat, Wsp, Bool.and_eq_true, Bool.or_eq_true, Bool.not_eq_true', Nat.beq_eq, Nat.ble_eq] at h ⊢
  omega
theorem sb_Wat_Wtak : ∀ x y, Wat x y = true → Wtak x y = true := by
  intro x y h
  simp only [Wat, Wtak, Bool.and_eq_true, Bool.or_eq_true, Bool.not_eq_true', Nat.beq_eq, Nat.ble_eq] at h ⊢
  omega
theorem sb_Wbad_Wask : ∀ x y, Wbad x y = true → Wask x y = true := by
  intro x y h
  simp only [Wbad, Wask, Bool.and_eq_true, Bool.or_eq_true, Bool.not_eq_true', Nat.beq_eq, Nat.ble_eq] at h ⊢
  omega
theorem sb_Wbad_Wnl : ∀ x y, Wbad x y = true → Wnl x y = true := by
  intro x y h
  simp only [Wbad, Wnl, Bool.and_eq_true, Bool.or_eq_true, Bool.not_eq_true', Nat.beq_eq, Nat.ble_eq] at h ⊢
  omega
theorem sb_Wbad_Wnp : ∀ x y, Wbad x y = true → Wnp x y = true := by
  intro x y h
  simp only [Wbad, Wnp, Bool.and_eq_true, Bool.or_eq_true, Bool.not_eq_true', Nat.beq_eq, Nat.ble_eq] at h ⊢
  omega
theorem sb_Wbad_Wnw : ∀ x y, Wbad x y = true → Wnw x y = true := by
  intro x y h
  simp only [Wbad, Wnw, Bool.and_eq_true, Bool.or_eq_true, Bool.not_eq_true', Nat.beq_eq, Nat.ble_eq] at h ⊢
  omega
theorem sb_Wbad_Wsgn : ∀ x y, Wbad x y = true → Wsgn x y = true := by
  intro x y h
  simp only [Wbad, Wsgn, Bool.and_eq_true, Bool.or_eq_true, Bool.not_eq_true', Nat.beq_eq, Nat.ble_eq] at h ⊢
  omega
theorem sb_Wbad_Wsp : ∀ x y, Wbad x y = true → Wsp x y = true := by
  intro x y h
  simp only [Wbad, Wsp, Bool.and_eq_true, Bool.or_eq_true, Bool.not_eq_true', Nat.beq_eq, Nat.ble_eq] at h ⊢
  omega
theorem sb_Wsp_Wnl : ∀ x y, Wsp x y = true → Wnl x y = true := by
  intro x y h
  simp only [Wsp, Wnl, Bool.and_eq_true, Bool.or_eq_true, Bool.not_eq_true', Nat.beq_eq, Nat.ble_eq] at h ⊢
  omega
theorem sb_Wsp_Wnp : ∀ x y, Wsp x y = true → Wnp x y = true := by
  intro x y h
  simp only [Wsp, Wnp, Bool.and_eq_true, Bool.or_eq_true, Bool.not_eq_true', Nat.beq_eq, Nat.ble_eq] at h ⊢
  omega
theorem sb_Wsp_Wnw : ∀ x y, Wsp x y = true → Wnw x y = true := by
  intro x y h
  simp only [Wsp, Wnw, Bool.and_eq_true, Bool.or_eq_true, Bool.not_eq_true', Nat.beq_eq, Nat.ble_eq] at h ⊢
  omega
theorem sb_Wsp_Wsp : ∀ x y, Wsp x y = true → Wsp x y = true := by
  intro x y h
  simp only [Wsp, Wsp, Bool.and_eq_true, Bool.or_eq_true, Bool.not_eq_true', Nat.beq_eq, Nat.ble_eq] at h ⊢
  omega
theorem sb_Wtak_Wask : ∀ x y, Wtak x y = true → Wask x y = true := by
  intro x y h
  simp only [Wtak, Wask, Bool.and_eq_true, Bool.or_eq_true, Bool.not_eq_true', Nat.beq_eq, Nat.ble_eq] at h ⊢
  omega
theorem sb_Wtak_Wsp : ∀ x y, Wtak x y = true → Wsp x y = true := by
  intro x y h
  simp only [Wtak, Wsp, Bool.and_eq_true, Bool.or_eq_true, Bool.not_eq_true', Nat.beq_eq, Nat.ble_eq] at h ⊢
  omega
