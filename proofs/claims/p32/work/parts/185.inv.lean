/-! WHAT HOLDS BETWEEN THE CALLS; A CALL OF BOTH OBJECTS. -/
def Inv (σ : jM) : Prop := GI σ ∧ SPK σ ∧ σ.1 33 5 ≤ 8 ∧ σ.1 39 5 ≤ 10 ∧ σ.1 58 5 ≤ 8 ∧ σ.1 64 5 ≤ 10 ∧ σ.1 143 3 ≤ 16 ∧ σ.1 143 4 ≤ 8 ∧ σ.1 143 5 ≤ 10 ∧ kp σ = 1 ∧ l0 σ = 22 ∧ l1 σ = 22 ∧ σ.1 10 1 = σ.1 117 1
theorem SPK_cg {σ τ : jM} (h4 : τ.2.2 9 4 = σ.2.2 9 4) (h5 : τ.2.2 9 5 = σ.2.2 9 5) (h : SPK σ) : SPK τ := by
  unfold SPK at h ⊢
  rw [h4, h5]
  exact h
def PQ (jx jm : Nat) (as : List Value) (σ : jM) : Prop := ∃ (n1 n2 : Nat) (w1 w2 : Int) (τ ρ : jM), JR n1 jx 0 (lv_args 0 (.ref 9 :: as)) [] (HP σ) 0 0 500 20000 = some (some (iV w1), HP τ, 0, 0) ∧ JR n2 jm 0 (lv_args 0 (.ref 117 :: as)) [] (HP τ) 0 0 500 20000 = some (some (iV w2), HP ρ, 0, 0) ∧ Inv ρ
def PQE (jx jm : Nat) (as : List Value) (σ : jM) : Prop := ∃ (n1 n2 : Nat) (w : Int) (τ ρ : jM), JR n1 jx 0 (lv_args 0 (.ref 9 :: as)) [] (HP σ) 0 0 500 20000 = some (some (iV w), HP τ, 0, 0) ∧ JR n2 jm 0 (lv_args 0 (.ref 117 :: as)) [] (HP τ) 0 0 500 20000 = some (some (iV w), HP ρ, 0, 0) ∧ Inv ρ
def PQL (jx jm : Nat) (as : List Value) (σ : jM) : Prop := ∃ (n1 n2 : Nat) (w1 w2 : Int64) (τ ρ : jM), JR n1 jx 0 (lv_args 0 (.ref 9 :: as)) [] (HP σ) 0 0 500 20000 = some (some (.long w1), HP τ, 0, 0) ∧ JR n2 jm 0 (lv_args 0 (.ref 117 :: as)) [] (HP τ) 0 0 500 20000 = some (some (.long w2), HP ρ, 0, 0) ∧ Inv ρ
theorem HP_obr {σ : jM} {a K ci : Nat} (hk : KD a = K) (h0 : K ≠ 0) (hq : (!(jSK K).1 && Nat.beq (jSK K).2.1 ci) = true) : j_obr (HP σ) a ci = true := by
  rw [Bool.and_eq_true, Bool.not_eq_true'] at hq
  have e1 : m_cell σ a (jSK K) = (false, ci, m_fs σ a (jSK K).2.2.1 0) := by
    unfold m_cell
    rw [hq.1, Nat.eq_of_beq_eq_true hq.2]
    rfl
  unfold j_obr
  rw [show j_nth (HP σ) a = _ from m_at rfl hk h0, e1]
  show (Nat.beq ci ci && (Nat.ble 9 a || Nat.beq ci 99)) = true
  rw [Nat.beq_refl, Nat.ble_eq_true_of_le (m_kd_some hk h0).1]
  rfl
theorem HP_x {σ : jM} : j_obr (HP σ) 9 11 = true := HP_obr kd9 (by decide) (by decide)
theorem HP_m {σ : jM} : j_obr (HP σ) 117 12 = true := HP_obr kd117 (by decide) (by decide)
/-! THE FRESH OBJECTS KEEP WHAT HOLDS BETWEEN THE CALLS. -/
theorem ra_0 : ∀ (l : List (Nat × Int × Int)), (l.all fun q => decide (q.2.1 ≤ 0) && decide (0 ≤ q.2.2)) = true → ∀ K, (match j_ra l K with | some q => q | none => (-2147483648, 2147483647)).1 ≤ 0 ∧ 0 ≤ (match j_ra l K with | some q => q | none => (-2147483648, 2147483647)).2 := by
  intro l
  induction l with
  | nil => intro _ K; exact (show ((-2147483648 : Int), (2147483647 : Int)).1 ≤ 0 ∧ 0 ≤ ((-2147483648 : Int), (2147483647 : Int)).2 from ⟨by decide, by decide⟩)
  | cons q r ih =>
    intro h K
    rw [List.all_cons, Bool.and_eq_true, Bool.and_eq_true, decide_eq_true_eq, decide_eq_true_eq] at h
    show (match cond (Nat.beq q.1 K) (some q.2) (j_ra r K) with | some q => q | none => (-2147483648, 2147483647)).1 ≤ 0 ∧ 0 ≤ (match cond (Nat.beq q.1 K) (some q.2) (j_ra r K) with | some q => q | none => (-2147483648, 2147483647)).2
    cases Nat.beq q.1 K with
    | true => exact h.1
    | false => exact ih h.2 K
theorem ro_0 : ∀ (l : List (Nat × Nat × Int × Int)), (l.all fun q => decide (q.2.2.1 ≤ 0) && decide (0 ≤ q.2.2.2)) = true → ∀ K f, (j_ro l K f).1 ≤ 0 ∧ 0 ≤ (j_ro l K f).2 := by
  intro l
  induction l with
  | nil => intro _ K f; exact (show ((-2147483648 : Int), (2147483647 : Int)).1 ≤ 0 ∧ 0 ≤ ((-2147483648 : Int), (2147483647 : Int)).2 from ⟨by decide, by decide⟩)
  | cons q r ih =>
    intro h K f
    rw [List.all_cons, Bool.and_eq_true, Bool.and_eq_true, decide_eq_true_eq, decide_eq_true_eq] at h
    show (cond (Nat.beq q.1 K) (cond (Nat.beq q.2.1 f) q.2.2 (j_ro r K f)) (j_ro r K f)).1 ≤ 0 ∧ 0 ≤ (cond (Nat.beq q.1 K) (cond (Nat.beq q.2.1 f) q.2.2 (j_ro r K f)) (j_ro r K f)).2
    cases Nat.beq q.1 K with
    | true =>
      cases Nat.beq q.2.1 f with
      | true => exact h.1
      | false => exact ih h.2 K f
    | false => exact ih h.2 K f
theorem RG_0 (K f : Nat) : (jRG K f).1 ≤ 0 ∧ 0 ≤ (jRG K f).2 := by
  unfold jRG
  cases (jSK K).1 with
  | true => exact ra_0 jRAl (by decide +kernel) K
  | false => exact ro_0 jROl (by decide +kernel) K f
noncomputable def s_ok1 (a : Nat) (l : List Int) : Nat → Bool := List.rec (fun _ => true) (fun v _ ih j => (decide ((jRG (m_kd jKD a) j).1 ≤ v) && decide (v ≤ (jRG (m_kd jKD a) j).2)) && ih (j + 1)) l
theorem s_ok1_at (a : Nat) : ∀ (l : List Int) (j : Nat), s_ok1 a l j = true → ∀ k v, j_nth l k = some v → (jRG (m_kd jKD a) (j + k)).1 ≤ v ∧ v ≤ (jRG (m_kd jKD a) (j + k)).2 := by
  intro l
  induction l with
  | nil => intro j _ k v h; rw [j_nth_eq] at h; simp at h
  | cons x r ih =>
    intro j h k v hk
    have h' : ((decide ((jRG (m_kd jKD a) j).1 ≤ x) && decide (x ≤ (jRG (m_kd jKD a) j).2)) && s_ok1 a r (j + 1)) = true := h
    rw [Bool.and_eq_true, Bool.and_eq_true, decide_eq_true_eq, decide_eq_true_eq] at h'
    cases k with
    | zero => rw [j_nth_eq] at hk; cases hk; exact h'.1
    | succ k =>
      have := ih (j + 1) h'.2 k v (by rw [j_nth_eq] at hk ⊢; exact hk)
      rw [show j + 1 + k = j + (k + 1) by omega] at this
      exact this
theorem s_okl : ∀ (l : List (Nat × List Int)), (l.all fun q => s_ok1 q.1 q.2 0) = true → ∀ a, s_ok1 a (s_c l a) 0 = true := by
  intro l
  induction l with
  | nil => intro _ a; rfl
  | cons q r ih =>
    intro h a
    rw [List.all_cons, Bool.and_eq_true] at h
    show s_ok1 a (cond (Nat.beq q.1 a) q.2 (s_c r a)) 0 = true
    cases hb : Nat.beq q.1 a with
    | true => rw [← Nat.eq_of_beq_eq_true hb]; exact h.1
    | false => exact ih h.2 a
theorem GI_0 : GI j_s0 := by
  intro a f
  show (jRG (m_kd jKD a) f).1 ≤ s_n (s_c s_l a) f ∧ s_n (s_c s_l a) f ≤ (jRG (m_kd jKD a) f).2
  unfold s_n
  cases h : j_nth (s_c s_l a) f with
  | none => exact RG_0 _ _
  | some v =>
    have := s_ok1_at a (s_c s_l a) 0 (s_okl s_l (by decide +kernel) a) f v h
    rw [Nat.zero_add] at this
    exact this
theorem Inv_0 : Inv j_s0 := ⟨GI_0, Or.inl ⟨rfl, rfl⟩, by decide +kernel, by decide +kernel, by decide +kernel, by decide +kernel, by decide +kernel, by decide +kernel, by decide +kernel, kpf_1 (fun i h0 h1 => Or.inl rfl), l0_0 (by decide +kernel), l1_0 (by decide +kernel), by decide +kernel⟩
