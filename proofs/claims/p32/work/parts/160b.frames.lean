/-! FRAMES. -/
def Wqu (a f : Nat) : Bool := (Nat.beq a 117 && (Nat.beq f 93)) || Nat.beq a 178
def Wqt (a f : Nat) : Bool := Nat.beq a 117 && (Nat.beq f 94 || Nat.beq f 95)
def Wqr (a f : Nat) : Bool := ((Nat.beq a 117 && (Nat.beq f 93 || Nat.beq f 49)) || Nat.beq a 149) || Nat.beq a 178
def Wql (a f : Nat) : Bool := ((Nat.beq a 117 && (Nat.beq f 93 || Nat.beq f 49 || Nat.beq f 94 || Nat.beq f 95)) || Nat.beq a 149) || Nat.beq a 178
def Wak (a f : Nat) : Bool := ((((Nat.beq a 117 && (Nat.beq f 2 || Nat.beq f 4 || Nat.beq f 5 || Nat.beq f 6 || Nat.beq f 28 || Nat.beq f 3 || Nat.beq f 1 || Nat.beq f 7 || Nat.beq f 8 || Nat.beq f 90 || Nat.beq f 87 || Nat.beq f 89 || Nat.beq f 91 || Nat.beq f 93 || Nat.beq f 49 || Nat.beq f 94 || Nat.beq f 95)) || Nat.beq a 149) || Nat.beq a 176) || Nat.beq a 177) || Nat.beq a 178
theorem sb_Wak_Wak : ∀ x y, Wak x y = true → Wak x y = true := by
  intro x y h
  simp only [Wak, Wak, Bool.and_eq_true, Bool.or_eq_true, Bool.not_eq_true', Nat.beq_eq, Nat.ble_eq] at h ⊢
  omega
theorem sb_Wask_Wak : ∀ x y, Wask x y = true → Wak x y = true := by
  intro x y h
  simp only [Wask, Wak, Bool.and_eq_true, Bool.or_eq_true, Bool.not_eq_true', Nat.beq_eq, Nat.ble_eq] at h ⊢
  omega
theorem sb_Wat_Wak : ∀ x y, Wat x y = true → Wak x y = true := by
  intro x y h
  simp only [Wat, Wak, Bool.and_eq_true, Bool.or_eq_true, Bool.not_eq_true', Nat.beq_eq, Nat.ble_eq] at h ⊢
  omega
theorem sb_Wbad_Wak : ∀ x y, Wbad x y = true → Wak x y = true := by
  intro x y h
  simp only [Wbad, Wak, Bool.and_eq_true, Bool.or_eq_true, Bool.not_eq_true', Nat.beq_eq, Nat.ble_eq] at h ⊢
  omega
theorem sb_Wql_Wak : ∀ x y, Wql x y = true → Wak x y = true := by
  intro x y h
  simp only [Wql, Wak, Bool.and_eq_true, Bool.or_eq_true, Bool.not_eq_true', Nat.beq_eq, Nat.ble_eq] at h ⊢
  omega
theorem sb_Wqr_Wql : ∀ x y, Wqr x y = true → Wql x y = true := by
  intro x y h
  simp only [Wqr, Wql, Bool.and_eq_true, Bool.or_eq_true, Bool.not_eq_true', Nat.beq_eq, Nat.ble_eq] at h ⊢
  omega
theorem sb_Wqr_Wqr : ∀ x y, Wqr x y = true → Wqr x y = true := by
  intro x y h
  simp only [Wqr, Wqr, Bool.and_eq_true, Bool.or_eq_true, Bool.not_eq_true', Nat.beq_eq, Nat.ble_eq] at h ⊢
  omega
theorem sb_Wqs_Wak : ∀ x y, Wqs x y = true → Wak x y = true := by
  intro x y h
  simp only [Wqs, Wak, Bool.and_eq_true, Bool.or_eq_true, Bool.not_eq_true', Nat.beq_eq, Nat.ble_eq] at h ⊢
  omega
theorem sb_Wqt_Wql : ∀ x y, Wqt x y = true → Wql x y = true := by
  intro x y h
  simp only [Wqt, Wql, Bool.and_eq_true, Bool.or_eq_true, Bool.not_eq_true', Nat.beq_eq, Nat.ble_eq] at h ⊢
  omega
theorem sb_Wqu_Wqr : ∀ x y, Wqu x y = true → Wqr x y = true := by
  intro x y h
  simp only [Wqu, Wqr, Bool.and_eq_true, Bool.or_eq_true, Bool.not_eq_true', Nat.beq_eq, Nat.ble_eq] at h ⊢
  omega
theorem sb_Wqu_Wqu : ∀ x y, Wqu x y = true → Wqu x y = true := by
  intro x y h
  simp only [Wqu, Wqu, Bool.and_eq_true, Bool.or_eq_true, Bool.not_eq_true', Nat.beq_eq, Nat.ble_eq] at h ⊢
  omega
theorem sb_Wtr_Wqr : ∀ x y, Wtr x y = true → Wqr x y = true := by
  intro x y h
  simp only [Wtr, Wqr, Bool.and_eq_true, Bool.or_eq_true, Bool.not_eq_true', Nat.beq_eq, Nat.ble_eq] at h ⊢
  omega
/-! WHAT IS READ OFF SEVERAL CELLS AT ONCE. -/
