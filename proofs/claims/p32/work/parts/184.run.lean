/-! THE TWO CONSTRUCTORS' RUNS, by evaluation in the kernel (28,576 and 860 steps). -/
theorem j_runv {r : Option jR} {H : List jc} {C S : Nat} (h : (match r with | some (none, hh, c, s) => decide (hh = H) && Nat.beq c C && Nat.beq s S | _ => false) = true) : r = some (none, H, C, S) := by
  split at h
  · rename_i hh c s
    rw [Bool.and_eq_true, Bool.and_eq_true] at h
    rw [of_decide_eq_true h.1.1, Nat.eq_of_beq_eq_true h.1.2, Nat.eq_of_beq_eq_true h.2]
  · cases h
set_option maxRecDepth 100000 in
theorem jh1_run : JR 60000 0 0 (lv_args 0 [.ref 9]) [] jh_x0 0 0 500 20000 = some (none, jh1, 107, 15926) := j_runv (by decide +kernel)
set_option maxRecDepth 100000 in
theorem jh2_run : JR 4000 211 0 (lv_args 0 [.ref 117]) [] jh_x1 0 0 500 20000 = some (none, HP j_s0, 62, 15579) := j_runv (by decide +kernel)
