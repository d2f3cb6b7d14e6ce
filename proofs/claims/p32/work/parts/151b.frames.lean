/-! FRAMES. -/


/-! WHAT IS READ OFF SEVERAL CELLS AT ONCE. -/
noncomputable def m0 (σ : jM) : Int := (if (σ.2.1 138 18).toInt = 0 then 0 else 1) + (if (σ.2.1 138 19).toInt = 0 then 0 else 1) + (if (σ.2.1 138 20).toInt = 0 then 0 else 1) + (if (σ.2.1 138 21).toInt = 0 then 0 else 1)
theorem m0_cg {σ τ : jM} (h0 : ∀ j, τ.2.1 138 j = σ.2.1 138 j) : m0 τ = m0 σ := by
  unfold m0
  simp only [h0]
theorem m0_fr {W : Nat → Nat → Bool} {σ τ : jM} (h : FR W σ τ) (h0 : ∀ j, W 138 j = false) : m0 τ = m0 σ := m0_cg (fun j => (h 138 j (h0 j)).2.1)
theorem m0_wr {a f : Nat} {σ τ : jM} (h : FRw a f σ τ) (hn : a ≠ 138) : m0 τ = m0 σ := m0_cg (fun j => (h 138 j (fun z => by omega)).2.1)
theorem m0_wa {a f : Nat} {σ τ : jM} (h : FRw a f σ τ) (hn : a ≠ 138) : m0 τ = m0 σ := m0_cg (fun j => (h 138 j (fun z => by omega)).2.1)
noncomputable def m1 (σ : jM) : Int := (if (σ.2.1 138 22).toInt = 0 then 0 else 1) + (if (σ.2.1 138 23).toInt = 0 then 0 else 1) + (if (σ.2.1 138 24).toInt = 0 then 0 else 1) + (if (σ.2.1 138 25).toInt = 0 then 0 else 1)
theorem m1_cg {σ τ : jM} (h0 : ∀ j, τ.2.1 138 j = σ.2.1 138 j) : m1 τ = m1 σ := by
  unfold m1
  simp only [h0]
theorem m1_fr {W : Nat → Nat → Bool} {σ τ : jM} (h : FR W σ τ) (h0 : ∀ j, W 138 j = false) : m1 τ = m1 σ := m1_cg (fun j => (h 138 j (h0 j)).2.1)
theorem m1_wr {a f : Nat} {σ τ : jM} (h : FRw a f σ τ) (hn : a ≠ 138) : m1 τ = m1 σ := m1_cg (fun j => (h 138 j (fun z => by omega)).2.1)
theorem m1_wa {a f : Nat} {σ τ : jM} (h : FRw a f σ τ) (hn : a ≠ 138) : m1 τ = m1 σ := m1_cg (fun j => (h 138 j (fun z => by omega)).2.1)
noncomputable def m2 (σ : jM) : Int := (if (σ.2.1 138 26).toInt = 0 then 0 else 1) + (if (σ.2.1 138 27).toInt = 0 then 0 else 1) + (if (σ.2.1 138 28).toInt = 0 then 0 else 1) + (if (σ.2.1 138 29).toInt = 0 then 0 else 1)
theorem m2_cg {σ τ : jM} (h0 : ∀ j, τ.2.1 138 j = σ.2.1 138 j) : m2 τ = m2 σ := by
  unfold m2
  simp only [h0]
theorem m2_fr {W : Nat → Nat → Bool} {σ τ : jM} (h : FR W σ τ) (h0 : ∀ j, W 138 j = false) : m2 τ = m2 σ := m2_cg (fun j => (h 138 j (h0 j)).2.1)
theorem m2_wr {a f : Nat} {σ τ : jM} (h : FRw a f σ τ) (hn : a ≠ 138) : m2 τ = m2 σ := m2_cg (fun j => (h 138 j (fun z => by omega)).2.1)
theorem m2_wa {a f : Nat} {σ τ : jM} (h : FRw a f σ τ) (hn : a ≠ 138) : m2 τ = m2 σ := m2_cg (fun j => (h 138 j (fun z => by omega)).2.1)
noncomputable def cm (σ : jM) : Int := ((if (σ.2.1 138 18).toInt = 0 then 0 else 1) + (if (σ.2.1 138 19).toInt = 0 then 0 else 1) + (if (σ.2.1 138 20).toInt = 0 then 0 else 1) + (if (σ.2.1 138 21).toInt = 0 then 0 else 1)) * ((if (σ.2.1 138 22).toInt = 0 then 0 else 1) + (if (σ.2.1 138 23).toInt = 0 then 0 else 1) + (if (σ.2.1 138 24).toInt = 0 then 0 else 1) + (if (σ.2.1 138 25).toInt = 0 then 0 else 1)) * ((if (σ.2.1 138 26).toInt = 0 then 0 else 1) + (if (σ.2.1 138 27).toInt = 0 then 0 else 1) + (if (σ.2.1 138 28).toInt = 0 then 0 else 1) + (if (σ.2.1 138 29).toInt = 0 then 0 else 1))
theorem cm_cg {σ τ : jM} (h0 : ∀ j, τ.2.1 138 j = σ.2.1 138 j) : cm τ = cm σ := by
  unfold cm
  simp only [h0]
theorem cm_fr {W : Nat → Nat → Bool} {σ τ : jM} (h : FR W σ τ) (h0 : ∀ j, W 138 j = false) : cm τ = cm σ := cm_cg (fun j => (h 138 j (h0 j)).2.1)
theorem cm_wr {a f : Nat} {σ τ : jM} (h : FRw a f σ τ) (hn : a ≠ 138) : cm τ = cm σ := cm_cg (fun j => (h 138 j (fun z => by omega)).2.1)
theorem cm_wa {a f : Nat} {σ τ : jM} (h : FRw a f σ τ) (hn : a ≠ 138) : cm τ = cm σ := cm_cg (fun j => (h 138 j (fun z => by omega)).2.1)
