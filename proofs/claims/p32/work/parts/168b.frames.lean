/-! FRAMES. -/

theorem sb_WL80_WXl : ∀ x y, WL80 x y = true → WXl x y = true := by
  intro x y h
  simp only [WL80, WXl, Bool.and_eq_true, Bool.or_eq_true, Bool.not_eq_true', Nat.beq_eq, Nat.ble_eq] at h ⊢
  omega
theorem sb_WQa_WXl : ∀ x y, WQa x y = true → WXl x y = true := by
  intro x y h
  simp only [WQa, WXl, Bool.and_eq_true, Bool.or_eq_true, Bool.not_eq_true', Nat.beq_eq, Nat.ble_eq] at h ⊢
  omega
theorem sb_WQr_WXl : ∀ x y, WQr x y = true → WXl x y = true := by
  intro x y h
  simp only [WQr, WXl, Bool.and_eq_true, Bool.or_eq_true, Bool.not_eq_true', Nat.beq_eq, Nat.ble_eq] at h ⊢
  omega
theorem sb_WR20_WXt : ∀ x y, WR20 x y = true → WXt x y = true := by
  intro x y h
  simp only [WR20, WXt, Bool.and_eq_true, Bool.or_eq_true, Bool.not_eq_true', Nat.beq_eq, Nat.ble_eq] at h ⊢
  omega
theorem sb_WR45_WXt : ∀ x y, WR45 x y = true → WXt x y = true := by
  intro x y h
  simp only [WR45, WXt, Bool.and_eq_true, Bool.or_eq_true, Bool.not_eq_true', Nat.beq_eq, Nat.ble_eq] at h ⊢
  omega
theorem sb_WS_WXg : ∀ x y, WS x y = true → WXg x y = true := by
  intro x y h
  simp only [WS, WXg, Bool.and_eq_true, Bool.or_eq_true, Bool.not_eq_true', Nat.beq_eq, Nat.ble_eq] at h ⊢
  omega
theorem sb_WS_WXt : ∀ x y, WS x y = true → WXt x y = true := by
  intro x y h
  simp only [WS, WXt, Bool.and_eq_true, Bool.or_eq_true, Bool.not_eq_true', Nat.beq_eq, Nat.ble_eq] at h ⊢
  omega
theorem sb_WW70_WXg : ∀ x y, WW70 x y = true → WXg x y = true := by
  intro x y h
  simp only [WW70, WXg, Bool.and_eq_true, Bool.or_eq_true, Bool.not_eq_true', Nat.beq_eq, Nat.ble_eq] at h ⊢
  omega
theorem sb_WW70_WXl : ∀ x y, WW70 x y = true → WXl x y = true := by
  intro x y h
  simp only [WW70, WXl, Bool.and_eq_true, Bool.or_eq_true, Bool.not_eq_true', Nat.beq_eq, Nat.ble_eq] at h ⊢
  omega
theorem sb_WW70_WXt : ∀ x y, WW70 x y = true → WXt x y = true := by
  intro x y h
  simp only [WW70, WXt, Bool.and_eq_true, Bool.or_eq_true, Bool.not_eq_true', Nat.beq_eq, Nat.ble_eq] at h ⊢
  omega
theorem sb_WW75_WXl : ∀ x y, WW75 x y = true → WXl x y = true := by
  intro x y h
  simp only [WW75, WXl, Bool.and_eq_true, Bool.or_eq_true, Bool.not_eq_true', Nat.beq_eq, Nat.ble_eq] at h ⊢
  omega
theorem sb_WW75_WXt : ∀ x y, WW75 x y = true → WXt x y = true := by
  intro x y h
  simp only [WW75, WXt, Bool.and_eq_true, Bool.or_eq_true, Bool.not_eq_true', Nat.beq_eq, Nat.ble_eq] at h ⊢
  omega
theorem sb_WW80_WXg : ∀ x y, WW80 x y = true → WXg x y = true := by
  intro x y h
  simp only [WW80, WXg, Bool.and_eq_true, Bool.or_eq_true, Bool.not_eq_true', Nat.beq_eq, Nat.ble_eq] at h ⊢
  omega
theorem sb_WW80_WXl : ∀ x y, WW80 x y = true → WXl x y = true := by
  intro x y h
  simp only [WW80, WXl, Bool.and_eq_true, Bool.or_eq_true, Bool.not_eq_true', Nat.beq_eq, Nat.ble_eq] at h ⊢
  omega
theorem sb_WW85_WXg : ∀ x y, WW85 x y = true → WXg x y = true := by
  intro x y h
  simp only [WW85, WXg, Bool.and_eq_true, Bool.or_eq_true, Bool.not_eq_true', Nat.beq_eq, Nat.ble_eq] at h ⊢
  omega
theorem sb_WXg_WXg : ∀ x y, WXg x y = true → WXg x y = true := by
  intro x y h
  simp only [WXg, WXg, Bool.and_eq_true, Bool.or_eq_true, Bool.not_eq_true', Nat.beq_eq, Nat.ble_eq] at h ⊢
  omega
theorem sb_WXg_WXl : ∀ x y, WXg x y = true → WXl x y = true := by
  intro x y h
  simp only [WXg, WXl, Bool.and_eq_true, Bool.or_eq_true, Bool.not_eq_true', Nat.beq_eq, Nat.ble_eq] at h ⊢
  omega
theorem sb_WXlot_WXg : ∀ x y, WXlot x y = true → WXg x y = true := by
  intro x y h
  simp only [WXlot, WXg, Bool.and_eq_true, Bool.or_eq_true, Bool.not_eq_true', Nat.beq_eq, Nat.ble_eq] at h ⊢
  omega
theorem sb_WXr_WXe : ∀ x y, WXr x y = true → WXe x y = true := by
  intro x y h
  simp only [WXr, WXe, Bool.and_eq_true, Bool.or_eq_true, Bool.not_eq_true', Nat.beq_eq, Nat.ble_eq] at h ⊢
  omega
theorem sb_WXr_WXf : ∀ x y, WXr x y = true → WXf x y = true := by
  intro x y h
  simp only [WXr, WXf, Bool.and_eq_true, Bool.or_eq_true, Bool.not_eq_true', Nat.beq_eq, Nat.ble_eq] at h ⊢
  omega
theorem sb_WXr_WXg : ∀ x y, WXr x y = true → WXg x y = true := by
  intro x y h
  simp only [WXr, WXg, Bool.and_eq_true, Bool.or_eq_true, Bool.not_eq_true', Nat.beq_eq, Nat.ble_eq] at h ⊢
  omega
theorem sb_WXr_WXl : ∀ x y, WXr x y = true → WXl x y = true := by
  intro x y h
  simp only [WXr, WXl, Bool.and_eq_true, Bool.or_eq_true, Bool.not_eq_true', Nat.beq_eq, Nat.ble_eq] at h ⊢
  omega
theorem sb_WXr_WXt : ∀ x y, WXr x y = true → WXt x y = true := by
  intro x y h
  simp only [WXr, WXt, Bool.and_eq_true, Bool.or_eq_true, Bool.not_eq_true', Nat.beq_eq, Nat.ble_eq] at h ⊢
  omega
theorem sb_WY_WXg : ∀ x y, WY x y = true → WXg x y = true := by
  intro x y h
  simp only [WY, WXg, Bool.and_eq_true, Bool.or_eq_true, Bool.not_eq_true', Nat.beq_eq, Nat.ble_eq] at h ⊢
  omega
theorem sb_Wac_WXg : ∀ x y, Wac x y = true → WXg x y = true := by
  intro x y h
  simp only [Wac, WXg, Bool.and_eq_true, Bool.or_eq_true, Bool.not_eq_true', Nat.beq_eq, Nat.ble_eq] at h ⊢
  omega
theorem sb_Wac_WXl : ∀ x y, Wac x y = true → WXl x y = true := by
  intro x y h
  simp only [Wac, WXl, Bool.and_eq_true, Bool.or_eq_true, Bool.not_eq_true', Nat.beq_eq, Nat.ble_eq] at h ⊢
  omega
theorem sb_Wac_WXt : ∀ x y, Wac x y = true → WXt x y = true := by
  intro x y h
  simp only [Wac, WXt, Bool.and_eq_true, Bool.or_eq_true, Bool.not_eq_true', Nat.beq_eq, Nat.ble_eq] at h ⊢
  omega
theorem sb_Wap_WXf : ∀ x y, Wap x y = true → WXf x y = true := by
  intro x y h
  simp only [Wap, WXf, Bool.and_eq_true, Bool.or_eq_true, Bool.not_eq_true', Nat.beq_eq, Nat.ble_eq] at h ⊢
  omega
theorem sb_Wc25_WXg : ∀ x y, Wc25 x y = true → WXg x y = true := by
  intro x y h
  simp only [Wc25, WXg, Bool.and_eq_true, Bool.or_eq_true, Bool.not_eq_true', Nat.beq_eq, Nat.ble_eq] at h ⊢
  omega
theorem sb_Wc50_WXg : ∀ x y, Wc50 x y = true → WXg x y = true := by
  intro x y h
  simp only [Wc50, WXg, Bool.and_eq_true, Bool.or_eq_true, Bool.not_eq_true', Nat.beq_eq, Nat.ble_eq] at h ⊢
  omega
theorem sb_Wim_WXg : ∀ x y, Wim x y = true → WXg x y = true := by
  intro x y h
  simp only [Wim, WXg, Bool.and_eq_true, Bool.or_eq_true, Bool.not_eq_true', Nat.beq_eq, Nat.ble_eq] at h ⊢
  omega
theorem sb_Wim_Wim : ∀ x y, Wim x y = true → Wim x y = true := by
  intro x y h
  simp only [Wim, Wim, Bool.and_eq_true, Bool.or_eq_true, Bool.not_eq_true', Nat.beq_eq, Nat.ble_eq] at h ⊢
  omega
theorem sb_Wtb_WXg : ∀ x y, Wtb x y = true → WXg x y = true := by
  intro x y h
  simp only [Wtb, WXg, Bool.and_eq_true, Bool.or_eq_true, Bool.not_eq_true', Nat.beq_eq, Nat.ble_eq] at h ⊢
  omega
/-! WHAT IS READ OFF SEVERAL CELLS AT ONCE. -/
