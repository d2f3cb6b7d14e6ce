/-! FRAMES. -/
def Wtc (a f : Nat) : Bool := (Nat.beq a 10 && (Nat.ble 6 f && Nat.ble f 7))
theorem sb_WG20_WR20 : ∀ x y, WG20 x y = true → WR20 x y = true := by
  intro x y h
  simp only [WG20, WR20, Bool.and_eq_true, Bool.or_eq_true, Bool.not_eq_true', Nat.beq_eq, Nat.ble_eq] at h ⊢
  omega
theorem sb_WG45_WR45 : ∀ x y, WG45 x y = true → WR45 x y = true := by
  intro x y h
  simp only [WG45, WR45, Bool.and_eq_true, Bool.or_eq_true, Bool.not_eq_true', Nat.beq_eq, Nat.ble_eq] at h ⊢
  omega
theorem sb_WL80_WL80 : ∀ x y, WL80 x y = true → WL80 x y = true := by
  intro x y h
  simp only [WL80, WL80, Bool.and_eq_true, Bool.or_eq_true, Bool.not_eq_true', Nat.beq_eq, Nat.ble_eq] at h ⊢
  omega
theorem sb_WQ27_WQ27 : ∀ x y, WQ27 x y = true → WQ27 x y = true := by
  intro x y h
  simp only [WQ27, WQ27, Bool.and_eq_true, Bool.or_eq_true, Bool.not_eq_true', Nat.beq_eq, Nat.ble_eq] at h ⊢
  omega
theorem sb_WQ27_WR20 : ∀ x y, WQ27 x y = true → WR20 x y = true := by
  intro x y h
  simp only [WQ27, WR20, Bool.and_eq_true, Bool.or_eq_true, Bool.not_eq_true', Nat.beq_eq, Nat.ble_eq] at h ⊢
  omega
theorem sb_WQ33_WQ33 : ∀ x y, WQ33 x y = true → WQ33 x y = true := by
  intro x y h
  simp only [WQ33, WQ33, Bool.and_eq_true, Bool.or_eq_true, Bool.not_eq_true', Nat.beq_eq, Nat.ble_eq] at h ⊢
  omega
theorem sb_WQ33_WR20 : ∀ x y, WQ33 x y = true → WR20 x y = true := by
  intro x y h
  simp only [WQ33, WR20, Bool.and_eq_true, Bool.or_eq_true, Bool.not_eq_true', Nat.beq_eq, Nat.ble_eq] at h ⊢
  omega
theorem sb_WQ39_WQ39 : ∀ x y, WQ39 x y = true → WQ39 x y = true := by
  intro x y h
  simp only [WQ39, WQ39, Bool.and_eq_true, Bool.or_eq_true, Bool.not_eq_true', Nat.beq_eq, Nat.ble_eq] at h ⊢
  omega
theorem sb_WQ39_WR20 : ∀ x y, WQ39 x y = true → WR20 x y = true := by
  intro x y h
  simp only [WQ39, WR20, Bool.and_eq_true, Bool.or_eq_true, Bool.not_eq_true', Nat.beq_eq, Nat.ble_eq] at h ⊢
  omega
theorem sb_WQ52_WQ52 : ∀ x y, WQ52 x y = true → WQ52 x y = true := by
  intro x y h
  simp only [WQ52, WQ52, Bool.and_eq_true, Bool.or_eq_true, Bool.not_eq_true', Nat.beq_eq, Nat.ble_eq] at h ⊢
  omega
theorem sb_WQ52_WR45 : ∀ x y, WQ52 x y = true → WR45 x y = true := by
  intro x y h
  simp only [WQ52, WR45, Bool.and_eq_true, Bool.or_eq_true, Bool.not_eq_true', Nat.beq_eq, Nat.ble_eq] at h ⊢
  omega
theorem sb_WQ58_WQ58 : ∀ x y, WQ58 x y = true → WQ58 x y = true := by
  intro x y h
  simp only [WQ58, WQ58, Bool.and_eq_true, Bool.or_eq_true, Bool.not_eq_true', Nat.beq_eq, Nat.ble_eq] at h ⊢
  omega
theorem sb_WQ58_WR45 : ∀ x y, WQ58 x y = true → WR45 x y = true := by
  intro x y h
  simp only [WQ58, WR45, Bool.and_eq_true, Bool.or_eq_true, Bool.not_eq_true', Nat.beq_eq, Nat.ble_eq] at h ⊢
  omega
theorem sb_WQ64_WQ64 : ∀ x y, WQ64 x y = true → WQ64 x y = true := by
  intro x y h
  simp only [WQ64, WQ64, Bool.and_eq_true, Bool.or_eq_true, Bool.not_eq_true', Nat.beq_eq, Nat.ble_eq] at h ⊢
  omega
theorem sb_WQ64_WR45 : ∀ x y, WQ64 x y = true → WR45 x y = true := by
  intro x y h
  simp only [WQ64, WR45, Bool.and_eq_true, Bool.or_eq_true, Bool.not_eq_true', Nat.beq_eq, Nat.ble_eq] at h ⊢
  omega
theorem sb_WR20_WR20 : ∀ x y, WR20 x y = true → WR20 x y = true := by
  intro x y h
  simp only [WR20, WR20, Bool.and_eq_true, Bool.or_eq_true, Bool.not_eq_true', Nat.beq_eq, Nat.ble_eq] at h ⊢
  omega
theorem sb_WR45_WR45 : ∀ x y, WR45 x y = true → WR45 x y = true := by
  intro x y h
  simp only [WR45, WR45, Bool.and_eq_true, Bool.or_eq_true, Bool.not_eq_true', Nat.beq_eq, Nat.ble_eq] at h ⊢
  omega
theorem sb_WT27_WQ27 : ∀ x y, WT27 x y = true → WQ27 x y = true := by
  intro x y h
  simp only [WT27, WQ27, Bool.and_eq_true, Bool.or_eq_true, Bool.not_eq_true', Nat.beq_eq, Nat.ble_eq] at h ⊢
  omega
theorem sb_WT27_WR20 : ∀ x y, WT27 x y = true → WR20 x y = true := by
  intro x y h
  simp only [WT27, WR20, Bool.and_eq_true, Bool.or_eq_true, Bool.not_eq_true', Nat.beq_eq, Nat.ble_eq] at h ⊢
  omega
theorem sb_WT33_WQ33 : ∀ x y, WT33 x y = true → WQ33 x y = true := by
  intro x y h
  simp only [WT33, WQ33, Bool.and_eq_true, Bool.or_eq_true, Bool.not_eq_true', Nat.beq_eq, Nat.ble_eq] at h ⊢
  omega
theorem sb_WT33_WR20 : ∀ x y, WT33 x y = true → WR20 x y = true := by
  intro x y h
  simp only [WT33, WR20, Bool.and_eq_true, Bool.or_eq_true, Bool.not_eq_true', Nat.beq_eq, Nat.ble_eq] at h ⊢
  omega
theorem sb_WT39_WQ39 : ∀ x y, WT39 x y = true → WQ39 x y = true := by
  intro x y h
  simp only [WT39, WQ39, Bool.and_eq_true, Bool.or_eq_true, Bool.not_eq_true', Nat.beq_eq, Nat.ble_eq] at h ⊢
  omega
theorem sb_WT39_WR20 : ∀ x y, WT39 x y = true → WR20 x y = true := by
  intro x y h
  simp only [WT39, WR20, Bool.and_eq_true, Bool.or_eq_true, Bool.not_eq_true', Nat.beq_eq, Nat.ble_eq] at h ⊢
  omega
theorem sb_WT52_WQ52 : ∀ x y, WT52 x y = true → WQ52 x y = true := by
  intro x y h
  simp only [WT52, WQ52, Bool.and_eq_true, Bool.or_eq_true, Bool.not_eq_true', Nat.beq_eq, Nat.ble_eq] at h ⊢
  omega
theorem sb_WT52_WR45 : ∀ x y, WT52 x y = true → WR45 x y = true := by
  intro x y h
  simp only [WT52, WR45, Bool.and_eq_true, Bool.or_eq_true, Bool.not_eq_true', Nat.beq_eq, Nat.ble_eq] at h ⊢
  omega
theorem sb_WT58_WQ58 : ∀ x y, WT58 x y = true → WQ58 x y = true := by
  intro x y h
  simp only [WT58, WQ58, Bool.and_eq_true, Bool.or_eq_true, Bool.not_eq_true', Nat.beq_eq, Nat.ble_eq] at h ⊢
  omega
theorem sb_WT58_WR45 : ∀ x y, WT58 x y = true → WR45 x y = true := by
  intro x y h
  simp only [WT58, WR45, Bool.and_eq_true, Bool.or_eq_true, Bool.not_eq_true', Nat.beq_eq, Nat.ble_eq] at h ⊢
  omega
theorem sb_WT64_WQ64 : ∀ x y, WT64 x y = true → WQ64 x y = true := by
  intro x y h
  simp only [WT64, WQ64, Bool.and_eq_true, Bool.or_eq_true, Bool.not_eq_true', Nat.beq_eq, Nat.ble_eq] at h ⊢
  omega
theorem sb_WT64_WR45 : ∀ x y, WT64 x y = true → WR45 x y = true := by
  intro x y h
  simp only [WT64, WR45, Bool.and_eq_true, Bool.or_eq_true, Bool.not_eq_true', Nat.beq_eq, Nat.ble_eq] at h ⊢
  omega
theorem sb_WW80_WL80 : ∀ x y, WW80 x y = true → WL80 x y = true := by
  intro x y h
  simp only [WW80, WL80, Bool.and_eq_true, Bool.or_eq_true, Bool.not_eq_true', Nat.beq_eq, Nat.ble_eq] at h ⊢
  omega
theorem sb_Wtc_Wtp : ∀ x y, Wtc x y = true → Wtp x y = true := by
  intro x y h
  simp only [Wtc, Wtp, Bool.and_eq_true, Bool.or_eq_true, Bool.not_eq_true', Nat.beq_eq, Nat.ble_eq] at h ⊢
  omega
theorem sb_Wtp_WL80 : ∀ x y, Wtp x y = true → WL80 x y = true := by
  intro x y h
  simp only [Wtp, WL80, Bool.and_eq_true, Bool.or_eq_true, Bool.not_eq_true', Nat.beq_eq, Nat.ble_eq] at h ⊢
  omega
theorem sb_Wtp_WQ27 : ∀ x y, Wtp x y = true → WQ27 x y = true := by
  intro x y h
  simp only [Wtp, WQ27, Bool.and_eq_true, Bool.or_eq_true, Bool.not_eq_true', Nat.beq_eq, Nat.ble_eq] at h ⊢
  omega
theorem sb_Wtp_WQ33 : ∀ x y, Wtp x y = true → WQ33 x y = true := by
  intro x y h
  simp only [Wtp, WQ33, Bool.and_eq_true, Bool.or_eq_true, Bool.not_eq_true', Nat.beq_eq, Nat.ble_eq] at h ⊢
  omega
theorem sb_Wtp_WQ39 : ∀ x y, Wtp x y = true → WQ39 x y = true := by
  intro x y h
  simp only [Wtp, WQ39, Bool.and_eq_true, Bool.or_eq_true, Bool.not_eq_true', Nat.beq_eq, Nat.ble_eq] at h ⊢
  omega
theorem sb_Wtp_WQ52 : ∀ x y, Wtp x y = true → WQ52 x y = true := by
  intro x y h
  simp only [Wtp, WQ52, Bool.and_eq_true, Bool.or_eq_true, Bool.not_eq_true', Nat.beq_eq, Nat.ble_eq] at h ⊢
  omega
theorem sb_Wtp_WQ58 : ∀ x y, Wtp x y = true → WQ58 x y = true := by
  intro x y h
  simp only [Wtp, WQ58, Bool.and_eq_true, Bool.or_eq_true, Bool.not_eq_true', Nat.beq_eq, Nat.ble_eq] at h ⊢
  omega
theorem sb_Wtp_WQ64 : ∀ x y, Wtp x y = true → WQ64 x y = true := by
  intro x y h
  simp only [Wtp, WQ64, Bool.and_eq_true, Bool.or_eq_true, Bool.not_eq_true', Nat.beq_eq, Nat.ble_eq] at h ⊢
  omega
theorem sb_Wtp_WR20 : ∀ x y, Wtp x y = true → WR20 x y = true := by
  intro x y h
  simp only [Wtp, WR20, Bool.and_eq_true, Bool.or_eq_true, Bool.not_eq_true', Nat.beq_eq, Nat.ble_eq] at h ⊢
  omega
theorem sb_Wtp_WR45 : ∀ x y, Wtp x y = true → WR45 x y = true := by
  intro x y h
  simp only [Wtp, WR45, Bool.and_eq_true, Bool.or_eq_true, Bool.not_eq_true', Nat.beq_eq, Nat.ble_eq] at h ⊢
  omega
/-! WHAT IS READ OFF SEVERAL CELLS AT ONCE. -/
noncomputable def cb (σ : jM) : Int := if σ.1 10 2 < σ.1 10 1 ∧ σ.1 11 (σ.1 10 2).toNat ≠ 10 ∧ σ.1 11 (σ.1 10 2).toNat ≠ 32 then 1 else 0
theorem cb_cg {σ τ : jM} (h0 : τ.1 10 2 = σ.1 10 2) (h1 : τ.1 10 1 = σ.1 10 1) (h2 : ∀ j, τ.1 11 j = σ.1 11 j) : cb τ = cb σ := by
  unfold cb
  simp only [h0, h1, h2]
theorem cb_fr {W : Nat → Nat → Bool} {σ τ : jM} (h : FR W σ τ) (h0 : W 10 2 = false) (h1 : W 10 1 = false) (h2 : ∀ j, W 11 j = false) : cb τ = cb σ := cb_cg (h.at 10 2 h0) (h.at 10 1 h1) (fun j => h.at 11 j (h2 j))
theorem cb_wr {a f : Nat} {σ τ : jM} (h : FRw a f σ τ) (hn : (¬ (a = 10 ∧ f = 2)) ∧ (¬ (a = 10 ∧ f = 1)) ∧ a ≠ 11) : cb τ = cb σ := cb_cg (h 10 2 (fun z => by omega)).1 (h 10 1 (fun z => by omega)).1 (fun j => (h 11 j (fun z => by omega)).1)
theorem cb_wa {a f : Nat} {σ τ : jM} (h : FRw a f σ τ) (hn : a ≠ 10 ∧ a ≠ 11) : cb τ = cb σ := cb_cg (h 10 2 (fun z => by omega)).1 (h 10 1 (fun z => by omega)).1 (fun j => (h 11 j (fun z => by omega)).1)
