/-! FRAMES. -/

theorem sb_Wask_Wqs : ∀ x y, Wask x y = true → Wqs x y = true := by
  intro x y h
  simp only [Wask, Wqs, Bool.and_eq_true, Bool.or_eq_true, Bool.not_eq_true', Nat.beq_eq, Nat.ble_eq] at h ⊢
  omega
theorem sb_Wat_Wqs : ∀ x y, Wat x y = true → Wqs x y = true := by
  intro x y h
  simp only [Wat, Wqs, Bool.and_eq_true, Bool.or_eq_true, Bool.not_eq_true', Nat.beq_eq, Nat.ble_eq] at h ⊢
  omega
theorem sb_Wbad_Wqp : ∀ x y, Wbad x y = true → Wqp x y = true := by
  intro x y h
  simp only [Wbad, Wqp, Bool.and_eq_true, Bool.or_eq_true, Bool.not_eq_true', Nat.beq_eq, Nat.ble_eq] at h ⊢
  omega
theorem sb_Wbad_Wqs : ∀ x y, Wbad x y = true → Wqs x y = true := by
  intro x y h
  simp only [Wbad, Wqs, Bool.and_eq_true, Bool.or_eq_true, Bool.not_eq_true', Nat.beq_eq, Nat.ble_eq] at h ⊢
  omega
theorem sb_Wqc_Wqs : ∀ x y, Wqc x y = true → Wqs x y = true := by
  intro x y h
  simp only [Wqc, Wqs, Bool.and_eq_true, Bool.or_eq_true, Bool.not_eq_true', Nat.beq_eq, Nat.ble_eq] at h ⊢
  omega
theorem sb_Wqd_Wqp : ∀ x y, Wqd x y = true → Wqp x y = true := by
  intro x y h
  simp only [Wqd, Wqp, Bool.and_eq_true, Bool.or_eq_true, Bool.not_eq_true', Nat.beq_eq, Nat.ble_eq] at h ⊢
  omega
theorem sb_Wqd_Wqs : ∀ x y, Wqd x y = true → Wqs x y = true := by
  intro x y h
  simp only [Wqd, Wqs, Bool.and_eq_true, Bool.or_eq_true, Bool.not_eq_true', Nat.beq_eq, Nat.ble_eq] at h ⊢
  omega
theorem sb_Wqe_Wqs : ∀ x y, Wqe x y = true → Wqs x y = true := by
  intro x y h
  simp only [Wqe, Wqs, Bool.and_eq_true, Bool.or_eq_true, Bool.not_eq_true', Nat.beq_eq, Nat.ble_eq] at h ⊢
  omega
theorem sb_Wqo_Wqs : ∀ x y, Wqo x y = true → Wqs x y = true := by
  intro x y h
  simp only [Wqo, Wqs, Bool.and_eq_true, Bool.or_eq_true, Bool.not_eq_true', Nat.beq_eq, Nat.ble_eq] at h ⊢
  omega
theorem sb_Wqp_Wqp : ∀ x y, Wqp x y = true → Wqp x y = true := by
  intro x y h
  simp only [Wqp, Wqp, Bool.and_eq_true, Bool.or_eq_true, Bool.not_eq_true', Nat.beq_eq, Nat.ble_eq] at h ⊢
  omega
theorem sb_Wqp_Wqs : ∀ x y, Wqp x y = true → Wqs x y = true := by
  intro x y h
  simp only [Wqp, Wqs, Bool.and_eq_true, Bool.or_eq_true, Bool.not_eq_true', Nat.beq_eq, Nat.ble_eq] at h ⊢
  omega
theorem sb_Wqs_Wqs : ∀ x y, Wqs x y = true → Wqs x y = true := by
  intro x y h
  simp only [Wqs, Wqs, Bool.and_eq_true, Bool.or_eq_true, Bool.not_eq_true', Nat.beq_eq, Nat.ble_eq] at h ⊢
  omega
theorem sb_Wtak_Wqs : ∀ x y, Wtak x y = true → Wqs x y = true := by
  intro x y h
  simp only [Wtak, Wqs, Bool.and_eq_true, Bool.or_eq_true, Bool.not_eq_true', Nat.beq_eq, Nat.ble_eq] at h ⊢
  omega
/-! WHAT IS READ OFF SEVERAL CELLS AT ONCE. -/
