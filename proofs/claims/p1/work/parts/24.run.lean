/-! THE TWO CONSTRUCTORS' RUNS, by evaluation in the kernel (28,576 and 860 steps). -/
set_option maxRecDepth 100000 in
theorem jh1_run : JR 60000 0 0 (lv_args 0 [.ref 9]) [] jh_x0 0 0 500 20000 = some (none, jh1, 107, 15926) := by decide +kernel
set_option maxRecDepth 100000 in
theorem jh2_run : JR 4000 211 0 (lv_args 0 [.ref 117]) [] jh_x1 0 0 500 20000 = some (none, jh2, 62, 15579) := by decide +kernel
