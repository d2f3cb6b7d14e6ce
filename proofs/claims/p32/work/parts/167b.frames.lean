/-! FRAMES. -/

theorem sb_WQ_WQ : ∀ x y, WQ x y = true → WQ x y = true := by
  intro x y h
  simp only [WQ, WQ, Bool.and_eq_true, Bool.or_eq_true, Bool.not_eq_true', Nat.beq_eq, Nat.ble_eq] at h ⊢
  omega
theorem sb_WQ_WQr : ∀ x y, WQ x y = true → WQr x y = true := by
  intro x y h
  simp only [WQ, WQr, Bool.and_eq_true, Bool.or_eq_true, Bool.not_eq_true', Nat.beq_eq, Nat.ble_eq] at h ⊢
  omega
theorem sb_WQp_WQa : ∀ x y, WQp x y = true → WQa x y = true := by
  intro x y h
  simp only [WQp, WQa, Bool.and_eq_true, Bool.or_eq_true, Bool.not_eq_true', Nat.beq_eq, Nat.ble_eq] at h ⊢
  omega
theorem sb_WQp_WQp : ∀ x y, WQp x y = true → WQp x y = true := by
  intro x y h
  simp only [WQp, WQp, Bool.and_eq_true, Bool.or_eq_true, Bool.not_eq_true', Nat.beq_eq, Nat.ble_eq] at h ⊢
  omega
theorem sb_WQs_WQ : ∀ x y, WQs x y = true → WQ x y = true := by
  intro x y h
  simp only [WQs, WQ, Bool.and_eq_true, Bool.or_eq_true, Bool.not_eq_true', Nat.beq_eq, Nat.ble_eq] at h ⊢
  omega
theorem sb_Wtp_WQ : ∀ x y, Wtp x y = true → WQ x y = true := by
  intro x y h
  simp only [Wtp, WQ, Bool.and_eq_true, Bool.or_eq_true, Bool.not_eq_true', Nat.beq_eq, Nat.ble_eq] at h ⊢
  omega
theorem sb_Wtp_WQr : ∀ x y, Wtp x y = true → WQr x y = true := by
  intro x y h
  simp only [Wtp, WQr, Bool.and_eq_true, Bool.or_eq_true, Bool.not_eq_true', Nat.beq_eq, Nat.ble_eq] at h ⊢
  omega
/-! WHAT IS READ OFF SEVERAL CELLS AT ONCE. -/
