def W0 (a f : Nat) : Bool := false
def Wat (a f : Nat) : Bool := Nat.beq a 117 && (Nat.beq f 2)
def Wtak (a f : Nat) : Bool := Nat.beq a 117 && (Nat.beq f 2 || Nat.beq f 4)
def Wbad (a f : Nat) : Bool := Nat.beq a 117 && (Nat.beq f 5 || Nat.beq f 6)
def Wask (a f : Nat) : Bool := Nat.beq a 117 && (Nat.beq f 2 || Nat.beq f 4 || Nat.beq f 5 || Nat.beq f 6)
def Wsgn (a f : Nat) : Bool := Nat.beq a 117 && (Nat.beq f 2 || Nat.beq f 5 || Nat.beq f 6)
def Wsp (a f : Nat) : Bool := Nat.beq a 117 && (Nat.beq f 2 || Nat.beq f 4 || Nat.beq f 5 || Nat.beq f 6 || Nat.beq f 28)
def Wnw (a f : Nat) : Bool := (Nat.beq a 117 && (Nat.beq f 2 || Nat.beq f 4 || Nat.beq f 5 || Nat.beq f 6 || Nat.beq f 28)) || Nat.beq a 138
def Wnl (a f : Nat) : Bool := ((Nat.beq a 117 && (Nat.beq f 2 || Nat.beq f 4 || Nat.beq f 5 || Nat.beq f 6 || Nat.beq f 28)) || Nat.beq a 138) || Nat.beq a 139
def Wnp (a f : Nat) : Bool := ((Nat.beq a 117 && (Nat.beq f 2 || Nat.beq f 4 || Nat.beq f 5 || Nat.beq f 6 || Nat.beq f 28 || Nat.beq f 33)) || Nat.beq a 140) || Nat.beq a 141
def Wnr (a f : Nat) : Bool := ((Nat.beq a 117 && (Nat.beq f 2 || Nat.beq f 4 || Nat.beq f 5 || Nat.beq f 6 || Nat.beq f 28)) || Nat.beq a 142) || Nat.beq a 143
def Wst (a f : Nat) : Bool := ((((((Nat.beq a 117 && (Nat.beq f 2 || Nat.beq f 4 || Nat.beq f 5 || Nat.beq f 6 || Nat.beq f 28 || Nat.beq f 33 || Nat.beq f 37 || Nat.beq f 39)) || Nat.beq a 138) || Nat.beq a 139) || Nat.beq a 140) || Nat.beq a 141) || Nat.beq a 142) || Nat.beq a 143
def Wst0 (a f : Nat) : Bool := ((((((Nat.beq a 117 && (Nat.beq f 2 || Nat.beq f 4 || Nat.beq f 5 || Nat.beq f 6 || Nat.beq f 28 || Nat.beq f 33 || Nat.beq f 37)) || Nat.beq a 138) || Nat.beq a 139) || Nat.beq a 140) || Nat.beq a 141) || Nat.beq a 142) || Nat.beq a 143
def Wrd (a f : Nat) : Bool := (Nat.beq a 117 && (Nat.beq f 44 || Nat.beq f 45)) || Nat.beq a 146
def Wlw (a f : Nat) : Bool := (Nat.beq a 117 && (Nat.beq f 2 || Nat.beq f 4 || Nat.beq f 5 || Nat.beq f 6 || Nat.beq f 28 || Nat.beq f 44 || Nat.beq f 45)) || Nat.beq a 146
theorem sb_Wask_Wask : ∀ x y, Wask x y = true → Wask x y = true := by
  intro x y h
  simp only [Wask, Wask, Bool.and_eq_true, Bool.or_eq_true, Bool.not_eq_true', Nat.beq_eq, Nat.ble_eq] at h ⊢
  omega
theorem sb_Wask_Wnp : ∀ x y, Wask x y = true → Wnp x y = true := by
  intro x y h
  simp only [Wask, Wnp, Bool.and_eq_true, Bool.or_eq_true, Bool.not_eq_true', Nat.beq_eq, Nat.ble_eq] at h ⊢
  omega
theorem sb_Wask_Wst0 : ∀ x y, Wask x y = true → Wst0 x y = true := by
  intro x y h
  simp only [Wask, Wst0, Bool.and_eq_true, Bool.or_eq_true, Bool.not_eq_true', Nat.beq_eq, Nat.ble_eq] at h ⊢
  omega
theorem sb_Wat_Wask : ∀ x y, Wat x y = true → Wask x y = true := by
  intro x y h
  simp only [Wat, Wask, Bool.and_eq_true, Bool.or_eq_true, Bool.not_eq_true', Nat.beq_eq, Nat.ble_eq] at h ⊢
  omega
theorem sb_Wat_Wat : ∀ x y, Wat x y = true → Wat x y = true := by
  intro x y h
  simp only [Wat, Wat, Bool.and_eq_true, Bool.or_eq_true, Bool.not_eq_true', Nat.beq_eq, Nat.ble_eq] at h ⊢
  omega
theorem sb_Wat_Wlw : ∀ x y, Wat x y = true → Wlw x y = true := by
  intro x y h
  simp only [Wat, Wlw, Bool.and_eq_true, Bool.or_eq_true, Bool.not_eq_true', Nat.beq_eq, Nat.ble_eq] at h ⊢
  omega
theorem sb_Wat_Wsgn : ∀ x y, Wat x y = true → Wsgn x y = true := by
  intro x y h
  simp only [Wat, Wsgn, Bool.and_eq_true, Bool.or_eq_true, Bool.not_eq_true', Nat.beq_eq, Nat.ble_eq] at h ⊢
  omega
theorem sb_Wat_Wsp : ∀ x y, Wat x y = true → Wsp x y = true := by
  intro x y h
  simp only [Wat, Wsp, Bool.and_eq_true, Bool.or_eq_true, Bool.not_eq_true', Nat.beq_eq, Nat.ble_eq] at h ⊢
  omega
theorem sb_Wat_Wtak : ∀ x y, Wat x y = true → Wtak x y = true := by
  intro x y h
  simp only [Wat, Wtak, Bool.and_eq_true, Bool.or_eq_true, Bool.not_eq_true', Nat.beq_eq, Nat.ble_eq] at h ⊢
  omega
theorem sb_Wbad_Wask : ∀ x y, Wbad x y = true → Wask x y = true := by
  intro x y h
  simp only [Wbad, Wask, Bool.and_eq_true, Bool.or_eq_true, Bool.not_eq_true', Nat.beq_eq, Nat.ble_eq] at h ⊢
  omega
theorem sb_Wbad_Wlw : ∀ x y, Wbad x y = true → Wlw x y = true := by
  intro x y h
  simp only [Wbad, Wlw, Bool.and_eq_true, Bool.or_eq_true, Bool.not_eq_true', Nat.beq_eq, Nat.ble_eq] at h ⊢
  omega
theorem sb_Wbad_Wnl : ∀ x y, Wbad x y = true → Wnl x y = true := by
  intro x y h
  simp only [Wbad, Wnl, Bool.and_eq_true, Bool.or_eq_true, Bool.not_eq_true', Nat.beq_eq, Nat.ble_eq] at h ⊢
  omega
theorem sb_Wbad_Wnp : ∀ x y, Wbad x y = true → Wnp x y = true := by
  intro x y h
  simp only [Wbad, Wnp, Bool.and_eq_true, Bool.or_eq_true, Bool.not_eq_true', Nat.beq_eq, Nat.ble_eq] at h ⊢
  omega
theorem sb_Wbad_Wnw : ∀ x y, Wbad x y = true → Wnw x y = true := by
  intro x y h
  simp only [Wbad, Wnw, Bool.and_eq_true, Bool.or_eq_true, Bool.not_eq_true', Nat.beq_eq, Nat.ble_eq] at h ⊢
  omega
theorem sb_Wbad_Wsgn : ∀ x y, Wbad x y = true → Wsgn x y = true := by
  intro x y h
  simp only [Wbad, Wsgn, Bool.and_eq_true, Bool.or_eq_true, Bool.not_eq_true', Nat.beq_eq, Nat.ble_eq] at h ⊢
  omega
theorem sb_Wbad_Wsp : ∀ x y, Wbad x y = true → Wsp x y = true := by
  intro x y h
  simp only [Wbad, Wsp, Bool.and_eq_true, Bool.or_eq_true, Bool.not_eq_true', Nat.beq_eq, Nat.ble_eq] at h ⊢
  omega
theorem sb_Wbad_Wst : ∀ x y, Wbad x y = true → Wst x y = true := by
  intro x y h
  simp only [Wbad, Wst, Bool.and_eq_true, Bool.or_eq_true, Bool.not_eq_true', Nat.beq_eq, Nat.ble_eq] at h ⊢
  omega
theorem sb_Wbad_Wst0 : ∀ x y, Wbad x y = true → Wst0 x y = true := by
  intro x y h
  simp only [Wbad, Wst0, Bool.and_eq_true, Bool.or_eq_true, Bool.not_eq_true', Nat.beq_eq, Nat.ble_eq] at h ⊢
  omega
theorem sb_Wlw_Wlw : ∀ x y, Wlw x y = true → Wlw x y = true := by
  intro x y h
  simp only [Wlw, Wlw, Bool.and_eq_true, Bool.or_eq_true, Bool.not_eq_true', Nat.beq_eq, Nat.ble_eq] at h ⊢
  omega
theorem sb_Wnl_Wst0 : ∀ x y, Wnl x y = true → Wst0 x y = true := by
  intro x y h
  simp only [Wnl, Wst0, Bool.and_eq_true, Bool.or_eq_true, Bool.not_eq_true', Nat.beq_eq, Nat.ble_eq] at h ⊢
  omega
theorem sb_Wnp_Wst0 : ∀ x y, Wnp x y = true → Wst0 x y = true := by
  intro x y h
  simp only [Wnp, Wst0, Bool.and_eq_true, Bool.or_eq_true, Bool.not_eq_true', Nat.beq_eq, Nat.ble_eq] at h ⊢
  omega
theorem sb_Wnw_Wst0 : ∀ x y, Wnw x y = true → Wst0 x y = true := by
  intro x y h
  simp only [Wnw, Wst0, Bool.and_eq_true, Bool.or_eq_true, Bool.not_eq_true', Nat.beq_eq, Nat.ble_eq] at h ⊢
  omega
theorem sb_Wrd_Wlw : ∀ x y, Wrd x y = true → Wlw x y = true := by
  intro x y h
  simp only [Wrd, Wlw, Bool.and_eq_true, Bool.or_eq_true, Bool.not_eq_true', Nat.beq_eq, Nat.ble_eq] at h ⊢
  omega
theorem sb_Wsgn_Wlw : ∀ x y, Wsgn x y = true → Wlw x y = true := by
  intro x y h
  simp only [Wsgn, Wlw, Bool.and_eq_true, Bool.or_eq_true, Bool.not_eq_true', Nat.beq_eq, Nat.ble_eq] at h ⊢
  omega
theorem sb_Wsgn_Wst : ∀ x y, Wsgn x y = true → Wst x y = true := by
  intro x y h
  simp only [Wsgn, Wst, Bool.and_eq_true, Bool.or_eq_true, Bool.not_eq_true', Nat.beq_eq, Nat.ble_eq] at h ⊢
  omega
theorem sb_Wsp_Wlw : ∀ x y, Wsp x y = true → Wlw x y = true := by
  intro x y h
  simp only [Wsp, Wlw, Bool.and_eq_true, Bool.or_eq_true, Bool.not_eq_true', Nat.beq_eq, Nat.ble_eq] at h ⊢
  omega
theorem sb_Wsp_Wnl : ∀ x y, Wsp x y = true → Wnl x y = true := by
  intro x y h
  simp only [Wsp, Wnl, Bool.and_eq_true, Bool.or_eq_true, Bool.not_eq_true', Nat.beq_eq, Nat.ble_eq] at h ⊢
  omega
theorem sb_Wsp_Wnp : ∀ x y, Wsp x y = true → Wnp x y = true := by
  intro x y h
  simp only [Wsp, Wnp, Bool.and_eq_true, Bool.or_eq_true, Bool.not_eq_true', Nat.beq_eq, Nat.ble_eq] at h ⊢
  omega
theorem sb_Wsp_Wnw : ∀ x y, Wsp x y = true → Wnw x y = true := by
  intro x y h
  simp only [Wsp, Wnw, Bool.and_eq_true, Bool.or_eq_true, Bool.not_eq_true', Nat.beq_eq, Nat.ble_eq] at h ⊢
  omega
theorem sb_Wsp_Wsp : ∀ x y, Wsp x y = true → Wsp x y = true := by
  intro x y h
  simp only [Wsp, Wsp, Bool.and_eq_true, Bool.or_eq_true, Bool.not_eq_true', Nat.beq_eq, Nat.ble_eq] at h ⊢
  omega
theorem sb_Wsp_Wst0 : ∀ x y, Wsp x y = true → Wst0 x y = true := by
  intro x y h
  simp only [Wsp, Wst0, Bool.and_eq_true, Bool.or_eq_true, Bool.not_eq_true', Nat.beq_eq, Nat.ble_eq] at h ⊢
  omega
theorem sb_Wst0_Wst : ∀ x y, Wst0 x y = true → Wst x y = true := by
  intro x y h
  simp only [Wst0, Wst, Bool.and_eq_true, Bool.or_eq_true, Bool.not_eq_true', Nat.beq_eq, Nat.ble_eq] at h ⊢
  omega
theorem sb_Wtak_Wask : ∀ x y, Wtak x y = true → Wask x y = true := by
  intro x y h
  simp only [Wtak, Wask, Bool.and_eq_true, Bool.or_eq_true, Bool.not_eq_true', Nat.beq_eq, Nat.ble_eq] at h ⊢
  omega
theorem sb_Wtak_Wlw : ∀ x y, Wtak x y = true → Wlw x y = true := by
  intro x y h
  simp only [Wtak, Wlw, Bool.and_eq_true, Bool.or_eq_true, Bool.not_eq_true', Nat.beq_eq, Nat.ble_eq] at h ⊢
  omega
theorem sb_Wtak_Wsp : ∀ x y, Wtak x y = true → Wsp x y = true := by
  intro x y h
  simp only [Wtak, Wsp, Bool.and_eq_true, Bool.or_eq_true, Bool.not_eq_true', Nat.beq_eq, Nat.ble_eq] at h ⊢
  omega
theorem sb_Wtak_Wst0 : ∀ x y, Wtak x y = true → Wst0 x y = true := by
  intro x y h
  simp only [Wtak, Wst0, Bool.and_eq_true, Bool.or_eq_true, Bool.not_eq_true', Nat.beq_eq, Nat.ble_eq] at h ⊢
  omega
/-! WHAT IS READ OFF SEVERAL CELLS AT ONCE. -/
noncomputable def ch (σ : jM) : Int := if σ.1 117 2 < σ.1 117 3 then σ.1 118 (σ.1 117 2).toNat else -1
theorem ch_cg {σ τ : jM} (h0 : τ.1 117 2 = σ.1 117 2) (h1 : τ.1 117 3 = σ.1 117 3) (h2 : ∀ j, τ.1 118 j = σ.1 118 j) : ch τ = ch σ := by
  unfold ch
  simp only [h0, h1, h2]
theorem ch_fr {W : Nat → Nat → Bool} {σ τ : jM} (h : FR W σ τ) (h0 : W 117 2 = false) (h1 : W 117 3 = false) (h2 : ∀ j, W 118 j = false) : ch τ = ch σ := ch_cg (h.at 117 2 h0) (h.at 117 3 h1) (fun j => h.at 118 j (h2 j))
theorem ch_wr {a f : Nat} {σ τ : jM} (h : FRw a f σ τ) (hn : (¬ (a = 117 ∧ f = 2)) ∧ (¬ (a = 117 ∧ f = 3)) ∧ a ≠ 118) : ch τ = ch σ := ch_cg (h 117 2 (fun z => by omega)).1 (h 117 3 (fun z => by omega)).1 (fun j => (h 118 j (fun z => by omega)).1)
theorem ch_wa {a f : Nat} {σ τ : jM} (h : FRw a f σ τ) (hn : a ≠ 117 ∧ a ≠ 118) : ch τ = ch σ := ch_cg (h 117 2 (fun z => by omega)).1 (h 117 3 (fun z => by omega)).1 (fun j => (h 118 j (fun z => by omega)).1)
noncomputable def nb (σ : jM) : Int := if ch σ ≠ 10 ∧ ch σ ≠ 32 then 1 else 0
theorem nb_cg {σ τ : jM} (h0 : τ.1 117 2 = σ.1 117 2) (h1 : τ.1 117 3 = σ.1 117 3) (h2 : ∀ j, τ.1 118 j = σ.1 118 j) : nb τ = nb σ := by
  unfold nb
  rw [ch_cg h0 h1 h2]
theorem nb_fr {W : Nat → Nat → Bool} {σ τ : jM} (h : FR W σ τ) (h0 : W 117 2 = false) (h1 : W 117 3 = false) (h2 : ∀ j, W 118 j = false) : nb τ = nb σ := nb_cg (h.at 117 2 h0) (h.at 117 3 h1) (fun j => h.at 118 j (h2 j))
theorem nb_wr {a f : Nat} {σ τ : jM} (h : FRw a f σ τ) (hn : (¬ (a = 117 ∧ f = 2)) ∧ (¬ (a = 117 ∧ f = 3)) ∧ a ≠ 118) : nb τ = nb σ := nb_cg (h 117 2 (fun z => by omega)).1 (h 117 3 (fun z => by omega)).1 (fun j => (h 118 j (fun z => by omega)).1)
theorem nb_wa {a f : Nat} {σ τ : jM} (h : FRw a f σ τ) (hn : a ≠ 117 ∧ a ≠ 118) : nb τ = nb σ := nb_cg (h 117 2 (fun z => by omega)).1 (h 117 3 (fun z => by omega)).1 (fun j => (h 118 j (fun z => by omega)).1)
noncomputable def rl (σ : jM) : Int := if σ.1 117 44 = 0 then 22 else σ.1 146 (σ.1 117 44 - 1).toNat
theorem rl_cg {σ τ : jM} (h0 : τ.1 117 44 = σ.1 117 44) (h1 : ∀ j, τ.1 146 j = σ.1 146 j) : rl τ = rl σ := by
  unfold rl
  simp only [h0, h1]
theorem rl_fr {W : Nat → Nat → Bool} {σ τ : jM} (h : FR W σ τ) (h0 : W 117 44 = false) (h1 : ∀ j, W 146 j = false) : rl τ = rl σ := rl_cg (h.at 117 44 h0) (fun j => h.at 146 j (h1 j))
theorem rl_wr {a f : Nat} {σ τ : jM} (h : FRw a f σ τ) (hn : (¬ (a = 117 ∧ f = 44)) ∧ a ≠ 146) : rl τ = rl σ := rl_cg (h 117 44 (fun z => by omega)).1 (fun j => (h 146 j (fun z => by omega)).1)
theorem rl_wa {a f : Nat} {σ τ : jM} (h : FRw a f σ τ) (hn : a ≠ 117 ∧ a ≠ 146) : rl τ = rl σ := rl_cg (h 117 44 (fun z => by omega)).1 (fun j => (h 146 j (fun z => by omega)).1)
noncomputable def tl (σ : jM) : Int := if σ.1 117 49 = 0 then 22 else σ.1 149 (σ.1 117 49 - 1).toNat
theorem tl_cg {σ τ : jM} (h0 : τ.1 117 49 = σ.1 117 49) (h1 : ∀ j, τ.1 149 j = σ.1 149 j) : tl τ = tl σ := by
  unfold tl
  simp only [h0, h1]
theorem tl_fr {W : Nat → Nat → Bool} {σ τ : jM} (h : FR W σ τ) (h0 : W 117 49 = false) (h1 : ∀ j, W 149 j = false) : tl τ = tl σ := tl_cg (h.at 117 49 h0) (fun j => h.at 149 j (h1 j))
theorem tl_wr {a f : Nat} {σ τ : jM} (h : FRw a f σ τ) (hn : (¬ (a = 117 ∧ f = 49)) ∧ a ≠ 149) : tl τ = tl σ := tl_cg (h 117 49 (fun z => by omega)).1 (fun j => (h 149 j (fun z => by omega)).1)
theorem tl_wa {a f : Nat} {σ τ : jM} (h : FRw a f σ τ) (hn : a ≠ 117 ∧ a ≠ 149) : tl τ = tl σ := tl_cg (h 117 49 (fun z => by omega)).1 (fun j => (h 149 j (fun z => by omega)).1)
noncomputable def l0 (σ : jM) : Int := if σ.1 148 0 = 0 then 22 else σ.1 147 (σ.1 148 0 - 1).toNat
theorem l0_cg {σ τ : jM} (h0 : τ.1 148 0 = σ.1 148 0) (h1 : ∀ j, τ.1 147 j = σ.1 147 j) : l0 τ = l0 σ := by
  unfold l0
  simp only [h0, h1]
theorem l0_fr {W : Nat → Nat → Bool} {σ τ : jM} (h : FR W σ τ) (h0 : W 148 0 = false) (h1 : ∀ j, W 147 j = false) : l0 τ = l0 σ := l0_cg (h.at 148 0 h0) (fun j => h.at 147 j (h1 j))
theorem l0_wr {a f : Nat} {σ τ : jM} (h : FRw a f σ τ) (hn : (¬ (a = 148 ∧ f = 0)) ∧ a ≠ 147) : l0 τ = l0 σ := l0_cg (h 148 0 (fun z => by omega)).1 (fun j => (h 147 j (fun z => by omega)).1)
theorem l0_wa {a f : Nat} {σ τ : jM} (h : FRw a f σ τ) (hn : a ≠ 147 ∧ a ≠ 148) : l0 τ = l0 σ := l0_cg (h 148 0 (fun z => by omega)).1 (fun j => (h 147 j (fun z => by omega)).1)
noncomputable def l1 (σ : jM) : Int := if σ.1 148 1 = 0 then 22 else σ.1 147 (63 + σ.1 148 1).toNat
theorem l1_cg {σ τ : jM} (h0 : τ.1 148 1 = σ.1 148 1) (h1 : ∀ j, τ.1 147 j = σ.1 147 j) : l1 τ = l1 σ := by
  unfold l1
  simp only [h0, h1]
theorem l1_fr {W : Nat → Nat → Bool} {σ τ : jM} (h : FR W σ τ) (h0 : W 148 1 = false) (h1 : ∀ j, W 147 j = false) : l1 τ = l1 σ := l1_cg (h.at 148 1 h0) (fun j => h.at 147 j (h1 j))
theorem l1_wr {a f : Nat} {σ τ : jM} (h : FRw a f σ τ) (hn : (¬ (a = 148 ∧ f = 1)) ∧ a ≠ 147) : l1 τ = l1 σ := l1_cg (h 148 1 (fun z => by omega)).1 (fun j => (h 147 j (fun z => by omega)).1)
theorem l1_wa {a f : Nat} {σ τ : jM} (h : FRw a f σ τ) (hn : a ≠ 147 ∧ a ≠ 148) : l1 τ = l1 σ := l1_cg (h 148 1 (fun z => by omega)).1 (fun j => (h 147 j (fun z => by omega)).1)
