/-! FRESH OBJECTS ANSWER ALIKE. -/
def PM (jx jm : Nat) (as : List Value) : Prop := ∃ (n1 n2 : Nat) (w : Int32) (h1 h2 : List jc), JR n1 jx 0 (lv_args 0 (.ref 9 :: as)) [] jh2 0 0 500 20000 = some (some (.int w), h1, 0, 0) ∧ JR n2 jm 0 (lv_args 0 (.ref 117 :: as)) [] h1 0 0 500 20000 = some (some (.int w), h2, 0, 0) ∧ j_obr h1 117 12 = true
def PML (jx jm : Nat) (as : List Value) : Prop := ∃ (n1 n2 : Nat) (w : Int64) (h1 h2 : List jc), JR n1 jx 0 (lv_args 0 (.ref 9 :: as)) [] jh2 0 0 500 20000 = some (some (.long w), h1, 0, 0) ∧ JR n2 jm 0 (lv_args 0 (.ref 117 :: as)) [] h1 0 0 500 20000 = some (some (.long w), h2, 0, 0) ∧ j_obr h1 117 12 = true
noncomputable def jpair (n1 n2 jx jm : Nat) (as : List Value) : Bool := match JR n1 jx 0 (lv_args 0 (.ref 9 :: as)) [] jh2 0 0 500 20000 with
  | some (some (.int v), h1, 0, 0) => (match JR n2 jm 0 (lv_args 0 (.ref 117 :: as)) [] h1 0 0 500 20000 with
    | some (some (.int w), _, 0, 0) => decide (v = w) && j_obr h1 117 12
    | _ => false)
  | _ => false
noncomputable def jpairL (n1 n2 jx jm : Nat) (as : List Value) : Bool := match JR n1 jx 0 (lv_args 0 (.ref 9 :: as)) [] jh2 0 0 500 20000 with
  | some (some (.long v), h1, 0, 0) => (match JR n2 jm 0 (lv_args 0 (.ref 117 :: as)) [] h1 0 0 500 20000 with
    | some (some (.long w), _, 0, 0) => decide (v = w) && j_obr h1 117 12
    | _ => false)
  | _ => false
theorem j_ilt (a b : Int) : a < b ∨ b ≤ a := by omega
theorem jpair_ok {n1 n2 jx jm : Nat} {as : List Value} (h : jpair n1 n2 jx jm as = true) : PM jx jm as := by
  unfold jpair at h
  split at h
  · rename_i v h1 e1
    split at h
    · rename_i w h2 e2
      rw [Bool.and_eq_true] at h
      have e := of_decide_eq_true h.1
      subst e
      exact ⟨n1, n2, v, h1, h2, e1, e2, h.2⟩
    · cases h
  · cases h
theorem jpairL_ok {n1 n2 jx jm : Nat} {as : List Value} (h : jpairL n1 n2 jx jm as = true) : PML jx jm as := by
  unfold jpairL at h
  split at h
  · rename_i v h1 e1
    split at h
    · rename_i w h2 e2
      rw [Bool.and_eq_true] at h
      have e := of_decide_eq_true h.1
      subst e
      exact ⟨n1, n2, v, h1, h2, e1, e2, h.2⟩
    · cases h
  · cases h
theorem jh2_x : j_obr jh2 9 11 = true := by decide +kernel
