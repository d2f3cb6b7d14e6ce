theorem tst0 : j_val (JR 100 3 0 (lv_args 0 [.ref 2]) [] j_hp0 0 0 500 20000) none = false := by decide +kernel
theorem tst1 : (match JR 3000 3 0 (lv_args 0 [.ref 2]) [] j_hp0 0 0 500 20000 with | some (some (.ref 9), _, 1, 18) => true | _ => false) = true := by decide +kernel
