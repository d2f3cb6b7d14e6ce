/-! FRAMES. -/
def Wkp (a f : Nat) : Bool := Nat.beq a 150
def Wkeep (a f : Nat) : Bool := ((Nat.beq a 117 && (Nat.beq f 52 || Nat.beq f 53)) || Nat.beq a 150) || Nat.beq a 151
theorem sb_Wkp_Wkeep : ∀ x y, Wkp x y = true → Wkeep x y = true := by
  intro x y h
  simp only [Wkp, Wkeep, Bool.and_eq_true, Bool.or_eq_true, Bool.not_eq_true', Nat.beq_eq, Nat.ble_eq] at h ⊢
  omega
/-! WHAT IS READ OFF SEVERAL CELLS AT ONCE. -/
noncomputable def kp (σ : jM) : Int := kpf (KP σ)
theorem kp_cg {σ τ : jM} (h0 : ∀ j, τ.1 150 j = σ.1 150 j) (h1 : ∀ j, τ.1 151 j = σ.1 151 j) : kp τ = kp σ := by
  unfold kp
  unfold KP
  simp only [h0, h1]
theorem kp_fr {W : Nat → Nat → Bool} {σ τ : jM} (h : FR W σ τ) (h0 : ∀ j, W 150 j = false) (h1 : ∀ j, W 151 j = false) : kp τ = kp σ := kp_cg (fun j => h.at 150 j (h0 j)) (fun j => h.at 151 j (h1 j))
theorem kp_wr {a f : Nat} {σ τ : jM} (h : FRw a f σ τ) (hn : a ≠ 150 ∧ a ≠ 151) : kp τ = kp σ := kp_cg (fun j => (h 150 j (fun z => by omega)).1) (fun j => (h 151 j (fun z => by omega)).1)
theorem kp_wa {a f : Nat} {σ τ : jM} (h : FRw a f σ τ) (hn : a ≠ 150 ∧ a ≠ 151) : kp τ = kp σ := kp_cg (fun j => (h 150 j (fun z => by omega)).1) (fun j => (h 151 j (fun z => by omega)).1)
