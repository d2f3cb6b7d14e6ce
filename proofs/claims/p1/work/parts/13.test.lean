theorem tst1 : (match jrun j_F j_mx j_rc j_df 3000 3 0 (lv_args 0 [.ref 2]) [] j_hp0 0 0 100 4000 with | some (some (.ref 9), _, 1, 18) => true | _ => false) = true := by decide +kernel
