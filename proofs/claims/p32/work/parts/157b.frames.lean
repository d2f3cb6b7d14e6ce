/-! FRAMES. -/
def Wton (a f : Nat) : Bool := (((((((((((((((Nat.beq a 117 && (Nat.beq f 2 || Nat.beq f 4 || Nat.beq f 5 || Nat.beq f 6 || Nat.beq f 28 || Nat.beq f 3 || Nat.beq f 7 || Nat.beq f 8 || Nat.beq f 1 || Nat.beq f 33 || Nat.beq f 37 || Nat.beq f 39 || Nat.beq f 34 || Nat.beq f 38 || Nat.beq f 52 || Nat.beq f 42 || Nat.beq f 58 || Nat.beq f 56)) || Nat.beq a 138) || Nat.beq a 139) || Nat.beq a 140) || Nat.beq a 141) || Nat.beq a 142) || Nat.beq a 143) || Nat.beq a 119) || Nat.beq a 138) || Nat.beq a 142) || Nat.beq a 144) || Nat.beq a 145) || Nat.beq a 148) || Nat.beq a 152) || Nat.beq a 153) || Nat.beq a 154
def Wrs (a f : Nat) : Bool := ((((Nat.beq a 117 && (Nat.beq f 1 || Nat.beq f 49 || Nat.beq f 52)) || Nat.beq a 119) || Nat.beq a 147) || Nat.beq a 148) || Nat.beq a 149
theorem sb_Wat_Wst : ∀ x y, Wat x y = true → Wst x y = true := by
  intro x y h
  simp only [Wat, Wst, Bool.and_eq_true, Bool.or_eq_true, Bool.not_eq_true', Nat.beq_eq, Nat.ble_eq] at h ⊢
  omega
theorem sb_Wat_Wton : ∀ x y, Wat x y = true → Wton x y = true := by
  intro x y h
  simp only [Wat, Wton, Bool.and_eq_true, Bool.or_eq_true, Bool.not_eq_true', Nat.beq_eq, Nat.ble_eq] at h ⊢
  omega
theorem sb_Wla_Wrs : ∀ x y, Wla x y = true → Wrs x y = true := by
  intro x y h
  simp only [Wla, Wrs, Bool.and_eq_true, Bool.or_eq_true, Bool.not_eq_true', Nat.beq_eq, Nat.ble_eq] at h ⊢
  omega
theorem sb_Wst_Wst : ∀ x y, Wst x y = true → Wst x y = true := by
  intro x y h
  simp only [Wst, Wst, Bool.and_eq_true, Bool.or_eq_true, Bool.not_eq_true', Nat.beq_eq, Nat.ble_eq] at h ⊢
  omega
theorem sb_Wst_Wton : ∀ x y, Wst x y = true → Wton x y = true := by
  intro x y h
  simp only [Wst, Wton, Bool.and_eq_true, Bool.or_eq_true, Bool.not_eq_true', Nat.beq_eq, Nat.ble_eq] at h ⊢
  omega
theorem sb_Wstd_Wton : ∀ x y, Wstd x y = true → Wton x y = true := by
  intro x y h
  simp only [Wstd, Wton, Bool.and_eq_true, Bool.or_eq_true, Bool.not_eq_true', Nat.beq_eq, Nat.ble_eq] at h ⊢
  omega
theorem sb_Wtr_Wrs : ∀ x y, Wtr x y = true → Wrs x y = true := by
  intro x y h
  simp only [Wtr, Wrs, Bool.and_eq_true, Bool.or_eq_true, Bool.not_eq_true', Nat.beq_eq, Nat.ble_eq] at h ⊢
  omega
theorem sb_Ww138_Wton : ∀ x y, Ww138 x y = true → Wton x y = true := by
  intro x y h
  simp only [Ww138, Wton, Bool.and_eq_true, Bool.or_eq_true, Bool.not_eq_true', Nat.beq_eq, Nat.ble_eq] at h ⊢
  omega
/-! WHAT IS READ OFF SEVERAL CELLS AT ONCE. -/
noncomputable def tp0 (σ : jM) : Int := σ.1 118 0
theorem tp0_cg {σ τ : jM} (h0 : ∀ j, τ.1 118 j = σ.1 118 j) : tp0 τ = tp0 σ := by
  unfold tp0
  simp only [h0]
theorem tp0_fr {W : Nat → Nat → Bool} {σ τ : jM} (h : FR W σ τ) (h0 : ∀ j, W 118 j = false) : tp0 τ = tp0 σ := tp0_cg (fun j => h.at 118 j (h0 j))
theorem tp0_wr {a f : Nat} {σ τ : jM} (h : FRw a f σ τ) (hn : a ≠ 118) : tp0 τ = tp0 σ := tp0_cg (fun j => (h 118 j (fun z => by omega)).1)
theorem tp0_wa {a f : Nat} {σ τ : jM} (h : FRw a f σ τ) (hn : a ≠ 118) : tp0 τ = tp0 σ := tp0_cg (fun j => (h 118 j (fun z => by omega)).1)
noncomputable def tt0 (σ : jM) : Int := if σ.1 118 0 = 0 then 22 else σ.1 118 (σ.1 118 0).toNat
theorem tt0_cg {σ τ : jM} (h0 : ∀ j, τ.1 118 j = σ.1 118 j) : tt0 τ = tt0 σ := by
  unfold tt0
  simp only [h0]
theorem tt0_fr {W : Nat → Nat → Bool} {σ τ : jM} (h : FR W σ τ) (h0 : ∀ j, W 118 j = false) : tt0 τ = tt0 σ := tt0_cg (fun j => h.at 118 j (h0 j))
theorem tt0_wr {a f : Nat} {σ τ : jM} (h : FRw a f σ τ) (hn : a ≠ 118) : tt0 τ = tt0 σ := tt0_cg (fun j => (h 118 j (fun z => by omega)).1)
theorem tt0_wa {a f : Nat} {σ τ : jM} (h : FRw a f σ τ) (hn : a ≠ 118) : tt0 τ = tt0 σ := tt0_cg (fun j => (h 118 j (fun z => by omega)).1)
