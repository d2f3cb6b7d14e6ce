/-! FRAMES. -/
def Wqc (a f : Nat) : Bool := (Nat.beq a 117 && (Nat.beq f 87)) || Nat.beq a 176
def Wqd (a f : Nat) : Bool := (Nat.beq a 117 && (Nat.beq f 87 || Nat.beq f 89)) || Nat.beq a 176
def Wqo (a f : Nat) : Bool := (Nat.beq a 117 && (Nat.beq f 90 || Nat.beq f 89 || Nat.beq f 5 || Nat.beq f 6)) || Nat.beq a 177
def Wqe (a f : Nat) : Bool := (Nat.beq a 117 && (Nat.beq f 90 || Nat.beq f 87 || Nat.beq f 89)) || Nat.beq a 176
def Wqp (a f : Nat) : Bool := ((Nat.beq a 117 && (Nat.beq f 2 || Nat.beq f 4 || Nat.beq f 5 || Nat.beq f 6 || Nat.beq f 28 || Nat.beq f 90 || Nat.beq f 87 || Nat.beq f 89)) || Nat.beq a 176) || Nat.beq a 177
def Wqs (a f : Nat) : Bool := ((Nat.beq a 117 && (Nat.beq f 2 || Nat.beq f 4 || Nat.beq f 5 || Nat.beq f 6 || Nat.beq f 28 || Nat.beq f 90 || Nat.beq f 87 || Nat.beq f 89 || Nat.beq f 91)) || Nat.beq a 176) || Nat.beq a 177
theorem sb_Wask_Wqp : ∀ x y, Wask x y = true → Wqp x y = true := by
  intro x y h
  simp only [Wask, Wqp, Bool.and_eq_true, Bool.or_eq_true, Bool.not_eq_true', Nat.beq_eq, Nat.ble_eq] at h ⊢
  omega
theorem sb_Wat_Wqp : ∀ x y, Wat x y = true → Wqp x y = true := by
  intro x y h
  simp only [Wat, Wqp, Bool.and_eq_true, Bool.or_eq_true, Bool.not_eq_true', Nat.beq_eq, Nat.ble_eq] at h ⊢
  omega
theorem sb_Wbad_Wqo : ∀ x y, Wbad x y = true → Wqo x y = true := by
  intro x y h
  simp only [Wbad, Wqo, Bool.and_eq_true, Bool.or_eq_true, Bool.not_eq_true', Nat.beq_eq, Nat.ble_eq] at h ⊢
  omega
theorem sb_Wqc_Wqd : ∀ x y, Wqc x y = true → Wqd x y = true := by
  intro x y h
  simp only [Wqc, Wqd, Bool.and_eq_true, Bool.or_eq_true, Bool.not_eq_true', Nat.beq_eq, Nat.ble_eq] at h ⊢
  omega
theorem sb_Wqc_Wqp : ∀ x y, Wqc x y = true → Wqp x y = true := by
  intro x y h
  simp only [Wqc, Wqp, Bool.and_eq_true, Bool.or_eq_true, Bool.not_eq_true', Nat.beq_eq, Nat.ble_eq] at h ⊢
  omega
theorem sb_Wqd_Wqd : ∀ x y, Wqd x y = true → Wqd x y = true := by
  intro x y h
  simp only [Wqd, Wqd, Bool.and_eq_true, Bool.or_eq_true, Bool.not_eq_true', Nat.beq_eq, Nat.ble_eq] at h ⊢
  omega
theorem sb_Wqd_Wqe : ∀ x y, Wqd x y = true → Wqe x y = true := by
  intro x y h
  simp only [Wqd, Wqe, Bool.and_eq_true, Bool.or_eq_true, Bool.not_eq_true', Nat.beq_eq, Nat.ble_eq] at h ⊢
  omega
theorem sb_Wqe_Wqp : ∀ x y, Wqe x y = true → Wqp x y = true := by
  intro x y h
  simp only [Wqe, Wqp, Bool.and_eq_true, Bool.or_eq_true, Bool.not_eq_true', Nat.beq_eq, Nat.ble_eq] at h ⊢
  omega
theorem sb_Wqo_Wqp : ∀ x y, Wqo x y = true → Wqp x y = true := by
  intro x y h
  simp only [Wqo, Wqp, Bool.and_eq_true, Bool.or_eq_true, Bool.not_eq_true', Nat.beq_eq, Nat.ble_eq] at h ⊢
  omega
theorem sb_Wsgn_Wqp : ∀ x y, Wsgn x y = true → Wqp x y = true := by
  intro x y h
  simp only [Wsgn, Wqp, Bool.and_eq_true, Bool.or_eq_true, Bool.not_eq_true', Nat.beq_eq, Nat.ble_eq] at h ⊢
  omega
theorem sb_Wtak_Wqp : ∀ x y, Wtak x y = true → Wqp x y = true := by
  intro x y h
  simp only [Wtak, Wqp, Bool.and_eq_true, Bool.or_eq_true, Bool.not_eq_true', Nat.beq_eq, Nat.ble_eq] at h ⊢
  omega
/-! WHAT IS READ OFF SEVERAL CELLS AT ONCE. -/
noncomputable def dp (σ : jM) : Int := dpf (fun j => σ.1 176 j) (σ.1 117 87).toNat
theorem dp_cg {σ τ : jM} (h0 : ∀ j, τ.1 176 j = σ.1 176 j) (h1 : τ.1 117 87 = σ.1 117 87) : dp τ = dp σ := by
  unfold dp
  simp only [h0, h1]
theorem dp_fr {W : Nat → Nat → Bool} {σ τ : jM} (h : FR W σ τ) (h0 : ∀ j, W 176 j = false) (h1 : W 117 87 = false) : dp τ = dp σ := dp_cg (fun j => h.at 176 j (h0 j)) (h.at 117 87 h1)
theorem dp_wr {a f : Nat} {σ τ : jM} (h : FRw a f σ τ) (hn : a ≠ 176 ∧ (¬ (a = 117 ∧ f = 87))) : dp τ = dp σ := dp_cg (fun j => (h 176 j (fun z => by omega)).1) (h 117 87 (fun z => by omega)).1
theorem dp_wa {a f : Nat} {σ τ : jM} (h : FRw a f σ τ) (hn : a ≠ 117 ∧ a ≠ 176) : dp τ = dp σ := dp_cg (fun j => (h 176 j (fun z => by omega)).1) (h 117 87 (fun z => by omega)).1
noncomputable def ws (σ : jM) : Int := wsf (fun j => σ.1 177 j) (σ.1 117 89).toNat
theorem ws_cg {σ τ : jM} (h0 : ∀ j, τ.1 177 j = σ.1 177 j) (h1 : τ.1 117 89 = σ.1 117 89) : ws τ = ws σ := by
  unfold ws
  simp only [h0, h1]
theorem ws_fr {W : Nat → Nat → Bool} {σ τ : jM} (h : FR W σ τ) (h0 : ∀ j, W 177 j = false) (h1 : W 117 89 = false) : ws τ = ws σ := ws_cg (fun j => h.at 177 j (h0 j)) (h.at 117 89 h1)
theorem ws_wr {a f : Nat} {σ τ : jM} (h : FRw a f σ τ) (hn : a ≠ 177 ∧ (¬ (a = 117 ∧ f = 89))) : ws τ = ws σ := ws_cg (fun j => (h 177 j (fun z => by omega)).1) (h 117 89 (fun z => by omega)).1
theorem ws_wa {a f : Nat} {σ τ : jM} (h : FRw a f σ τ) (hn : a ≠ 117 ∧ a ≠ 177) : ws τ = ws σ := ws_cg (fun j => (h 177 j (fun z => by omega)).1) (h 117 89 (fun z => by omega)).1
noncomputable def tt (σ : jM) : Int := kpf (ttP (fun j => σ.1 177 j) (σ.1 117 89).toNat)
theorem tt_cg {σ τ : jM} (h0 : ∀ j, τ.1 177 j = σ.1 177 j) (h1 : τ.1 117 89 = σ.1 117 89) : tt τ = tt σ := by
  unfold tt
  simp only [h0, h1]
theorem tt_fr {W : Nat → Nat → Bool} {σ τ : jM} (h : FR W σ τ) (h0 : ∀ j, W 177 j = false) (h1 : W 117 89 = false) : tt τ = tt σ := tt_cg (fun j => h.at 177 j (h0 j)) (h.at 117 89 h1)
theorem tt_wr {a f : Nat} {σ τ : jM} (h : FRw a f σ τ) (hn : a ≠ 177 ∧ (¬ (a = 117 ∧ f = 89))) : tt τ = tt σ := tt_cg (fun j => (h 177 j (fun z => by omega)).1) (h 117 89 (fun z => by omega)).1
theorem tt_wa {a f : Nat} {σ τ : jM} (h : FRw a f σ τ) (hn : a ≠ 117 ∧ a ≠ 177) : tt τ = tt σ := tt_cg (fun j => (h 177 j (fun z => by omega)).1) (h 117 89 (fun z => by omega)).1
noncomputable def wk (σ : jM) : Int := kpf (wkP (fun j => σ.1 177 j) (σ.1 117 91) (σ.1 117 89).toNat)
theorem wk_cg {σ τ : jM} (h0 : ∀ j, τ.1 177 j = σ.1 177 j) (h1 : τ.1 117 91 = σ.1 117 91) (h2 : τ.1 117 89 = σ.1 117 89) : wk τ = wk σ := by
  unfold wk
  simp only [h0, h1, h2]
theorem wk_fr {W : Nat → Nat → Bool} {σ τ : jM} (h : FR W σ τ) (h0 : ∀ j, W 177 j = false) (h1 : W 117 91 = false) (h2 : W 117 89 = false) : wk τ = wk σ := wk_cg (fun j => h.at 177 j (h0 j)) (h.at 117 91 h1) (h.at 117 89 h2)
theorem wk_wr {a f : Nat} {σ τ : jM} (h : FRw a f σ τ) (hn : a ≠ 177 ∧ (¬ (a = 117 ∧ f = 91)) ∧ (¬ (a = 117 ∧ f = 89))) : wk τ = wk σ := wk_cg (fun j => (h 177 j (fun z => by omega)).1) (h 117 91 (fun z => by omega)).1 (h 117 89 (fun z => by omega)).1
theorem wk_wa {a f : Nat} {σ τ : jM} (h : FRw a f σ τ) (hn : a ≠ 117 ∧ a ≠ 177) : wk τ = wk σ := wk_cg (fun j => (h 177 j (fun z => by omega)).1) (h 117 91 (fun z => by omega)).1 (h 117 89 (fun z => by omega)).1
noncomputable def tq (σ : jM) : Int := σ.1 177 (σ.1 117 89 - 1).toNat
theorem tq_cg {σ τ : jM} (h0 : ∀ j, τ.1 177 j = σ.1 177 j) (h1 : τ.1 117 89 = σ.1 117 89) : tq τ = tq σ := by
  unfold tq
  simp only [h0, h1]
theorem tq_fr {W : Nat → Nat → Bool} {σ τ : jM} (h : FR W σ τ) (h0 : ∀ j, W 177 j = false) (h1 : W 117 89 = false) : tq τ = tq σ := tq_cg (fun j => h.at 177 j (h0 j)) (h.at 117 89 h1)
theorem tq_wr {a f : Nat} {σ τ : jM} (h : FRw a f σ τ) (hn : a ≠ 177 ∧ (¬ (a = 117 ∧ f = 89))) : tq τ = tq σ := tq_cg (fun j => (h 177 j (fun z => by omega)).1) (h 117 89 (fun z => by omega)).1
theorem tq_wa {a f : Nat} {σ τ : jM} (h : FRw a f σ τ) (hn : a ≠ 117 ∧ a ≠ 177) : tq τ = tq σ := tq_cg (fun j => (h 177 j (fun z => by omega)).1) (h 117 89 (fun z => by omega)).1
noncomputable def qb (σ : jM) : Int := qbf (fun j => σ.1 177 j) (σ.1 117 91) (σ.1 117 89).toNat
theorem qb_cg {σ τ : jM} (h0 : ∀ j, τ.1 177 j = σ.1 177 j) (h1 : τ.1 117 91 = σ.1 117 91) (h2 : τ.1 117 89 = σ.1 117 89) : qb τ = qb σ := by
  unfold qb
  simp only [h0, h1, h2]
theorem qb_fr {W : Nat → Nat → Bool} {σ τ : jM} (h : FR W σ τ) (h0 : ∀ j, W 177 j = false) (h1 : W 117 91 = false) (h2 : W 117 89 = false) : qb τ = qb σ := qb_cg (fun j => h.at 177 j (h0 j)) (h.at 117 91 h1) (h.at 117 89 h2)
theorem qb_wr {a f : Nat} {σ τ : jM} (h : FRw a f σ τ) (hn : a ≠ 177 ∧ (¬ (a = 117 ∧ f = 91)) ∧ (¬ (a = 117 ∧ f = 89))) : qb τ = qb σ := qb_cg (fun j => (h 177 j (fun z => by omega)).1) (h 117 91 (fun z => by omega)).1 (h 117 89 (fun z => by omega)).1
theorem qb_wa {a f : Nat} {σ τ : jM} (h : FRw a f σ τ) (hn : a ≠ 117 ∧ a ≠ 177) : qb τ = qb σ := qb_cg (fun j => (h 177 j (fun z => by omega)).1) (h 117 91 (fun z => by omega)).1 (h 117 89 (fun z => by omega)).1
noncomputable def sq (σ : jM) : Int := sqf (fun j => σ.1 177 j) (σ.1 117 89).toNat
theorem sq_cg {σ τ : jM} (h0 : ∀ j, τ.1 177 j = σ.1 177 j) (h1 : τ.1 117 89 = σ.1 117 89) : sq τ = sq σ := by
  unfold sq
  simp only [h0, h1]
theorem sq_fr {W : Nat → Nat → Bool} {σ τ : jM} (h : FR W σ τ) (h0 : ∀ j, W 177 j = false) (h1 : W 117 89 = false) : sq τ = sq σ := sq_cg (fun j => h.at 177 j (h0 j)) (h.at 117 89 h1)
theorem sq_wr {a f : Nat} {σ τ : jM} (h : FRw a f σ τ) (hn : a ≠ 177 ∧ (¬ (a = 117 ∧ f = 89))) : sq τ = sq σ := sq_cg (fun j => (h 177 j (fun z => by omega)).1) (h 117 89 (fun z => by omega)).1
theorem sq_wa {a f : Nat} {σ τ : jM} (h : FRw a f σ τ) (hn : a ≠ 117 ∧ a ≠ 177) : sq τ = sq σ := sq_cg (fun j => (h 177 j (fun z => by omega)).1) (h 117 89 (fun z => by omega)).1
