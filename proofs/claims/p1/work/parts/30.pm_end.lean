set_option maxHeartbeats 8000000 in
set_option maxRecDepth 100000 in
theorem pm_end (a1 : Int32) : PM 27 213 [.int a1] := by
  have ub_a1 := Int32.toInt_lt a1
  have lb_a1 := Int32.le_toInt a1
  rcases j_ilt a1.toInt 0 with h_a1_0 | h_a1_0
  · refine ⟨60000, 60000, 0, (j_hp (JR 25 25 0 (lv_args 0 [.ref 9, .int 0]) [] jh2 0 0 499 19979)), (j_stf (j_hp (JR 25 25 0 (lv_args 0 [.ref 9, .int 0]) [] jh2 0 0 499 19979)) 119 0 (.int 1)), ?_, ?_, by decide +kernel⟩
    · refine Eq.trans (jr_s (pc2 := 1) (lv2 := [(0, .ref 9), (1, .int a1)]) (st2 := [.int a1]) jF_27_0 rfl rfl) ?_
      refine Eq.trans (jr_if1 jF_27_1 (jk_lt_lt (show (a1 : Int32).toInt < (0 : Int32).toInt by rw [show (0 : Int32).toInt = 0 from by decide]; omega))) ?_
      refine Eq.trans (jr_s (pc2 := 16) (lv2 := [(0, .ref 9), (1, .int a1)]) (st2 := [.ref 9]) jF_27_15 rfl rfl) ?_
      refine Eq.trans (jr_s (pc2 := 17) (lv2 := [(0, .ref 9), (1, .int a1)]) (st2 := [.int 0, .ref 9]) jF_27_16 rfl rfl) ?_
      refine Eq.trans (jr_cV (a := 9) (as := [.int 0]) (rest := []) (v := some (.int (-1))) (hp2 := (j_hp (JR 25 25 0 (lv_args 0 [.ref 9, .int 0]) [] jh2 0 0 499 19979))) (fr2 := 499) (lo2 := 19979) jF_27_17 (by decide +kernel) rfl (show j_cnd 500 20000 499 19979 2 _ _ = true from rfl) ?_) ?_
      · exact jr_upl (jr_cl (v := some (.int (-1))) (by decide +kernel)) (by omega)
      refine Eq.trans (jr_s (pc2 := 21) (lv2 := [(0, .ref 9), (1, .int a1)]) (st2 := []) jF_27_20 rfl rfl) ?_
      refine Eq.trans (jr_s (pc2 := 22) (lv2 := [(0, .ref 9), (1, .int a1)]) (st2 := [.int 0]) jF_27_21 rfl rfl) ?_
      exact jr_ri jF_27_22 rfl
    · refine Eq.trans (jr_s (pc2 := 1) (lv2 := [(0, .ref 117), (1, .int a1)]) (st2 := [.int a1]) jF_213_0 rfl rfl) ?_
      refine Eq.trans (jr_if1 jF_213_1 (jk_lt_lt (show (a1 : Int32).toInt < (0 : Int32).toInt by rw [show (0 : Int32).toInt = 0 from by decide]; omega))) ?_
      refine Eq.trans (jr_s (pc2 := 13) (lv2 := [(0, .ref 117), (1, .int a1)]) (st2 := [.ref 117]) jF_213_12 rfl rfl) ?_
      refine Eq.trans (jr_gf (v := .ref 119) jF_213_13 (by decide +kernel)) ?_
      refine Eq.trans (jr_s (pc2 := 17) (lv2 := [(0, .ref 117), (1, .int a1)]) (st2 := [.int 0, .ref 119]) jF_213_16 rfl rfl) ?_
      refine Eq.trans (jr_s (pc2 := 18) (lv2 := [(0, .ref 117), (1, .int a1)]) (st2 := [.int 0, .ref 119, .int 0, .ref 119]) jF_213_17 rfl rfl) ?_
      refine Eq.trans (jr_ldi (v := .int 0) jF_213_18 (by decide +kernel)) ?_
      refine Eq.trans (jr_s (pc2 := 20) (lv2 := [(0, .ref 117), (1, .int a1)]) (st2 := [.int 1, .int 0, .int 0, .ref 119]) jF_213_19 rfl rfl) ?_
      refine Eq.trans (jr_s (pc2 := 21) (lv2 := [(0, .ref 117), (1, .int a1)]) (st2 := [.int 1, .int 0, .ref 119]) jF_213_20 rfl rfl) ?_
      refine Eq.trans (jr_sti (q := 0) jF_213_21 (by decide +kernel) (by decide +kernel)) ?_
      refine Eq.trans (jr_s (pc2 := 23) (lv2 := [(0, .ref 117), (1, .int a1)]) (st2 := [.int 0]) jF_213_22 rfl rfl) ?_
      exact jr_ri jF_213_23 rfl
  · rcases j_ilt a1.toInt 1 with h_a1_1 | h_a1_1
    · obtain rfl : a1 = 0 := Int32.toInt_inj.mp (by rw [show (0 : Int32).toInt = 0 from by decide]; omega)
      exact jpair_ok (n1 := 100000) (n2 := 100000) (by decide +kernel)
    · refine ⟨60000, 60000, 0, (j_hp (JR 25 25 0 (lv_args 0 [.ref 9, .int 0]) [] jh2 0 0 499 19979)), (j_stf (j_hp (JR 25 25 0 (lv_args 0 [.ref 9, .int 0]) [] jh2 0 0 499 19979)) 119 0 (.int 1)), ?_, ?_, by decide +kernel⟩
      · refine Eq.trans (jr_s (pc2 := 1) (lv2 := [(0, .ref 9), (1, .int a1)]) (st2 := [.int a1]) jF_27_0 rfl rfl) ?_
        refine Eq.trans (jr_if0 jF_27_1 (jk_lt_ge (show (0 : Int32).toInt ≤ (a1 : Int32).toInt by rw [show (0 : Int32).toInt = 0 from by decide]; omega))) ?_
        refine Eq.trans (jr_s (pc2 := 5) (lv2 := [(0, .ref 9), (1, .int a1)]) (st2 := [.int a1]) jF_27_4 rfl rfl) ?_
        refine Eq.trans (jr_s (pc2 := 6) (lv2 := [(0, .ref 9), (1, .int a1)]) (st2 := [.ref 9, .int a1]) jF_27_5 rfl rfl) ?_
        refine Eq.trans (jr_gf (v := .ref 10) jF_27_6 (by decide +kernel)) ?_
        refine Eq.trans (jr_gf (v := .int 0) jF_27_9 (by decide +kernel)) ?_
        refine Eq.trans (jr_ic0 jF_27_12 (jk_le_gt (show (0 : Int32).toInt < (a1 : Int32).toInt by rw [show (0 : Int32).toInt = 0 from by decide]; omega))) ?_
        refine Eq.trans (jr_s (pc2 := 16) (lv2 := [(0, .ref 9), (1, .int a1)]) (st2 := [.ref 9]) jF_27_15 rfl rfl) ?_
        refine Eq.trans (jr_s (pc2 := 17) (lv2 := [(0, .ref 9), (1, .int a1)]) (st2 := [.int 0, .ref 9]) jF_27_16 rfl rfl) ?_
        refine Eq.trans (jr_cV (a := 9) (as := [.int 0]) (rest := []) (v := some (.int (-1))) (hp2 := (j_hp (JR 25 25 0 (lv_args 0 [.ref 9, .int 0]) [] jh2 0 0 499 19979))) (fr2 := 499) (lo2 := 19979) jF_27_17 (by decide +kernel) rfl (show j_cnd 500 20000 499 19979 2 _ _ = true from rfl) ?_) ?_
        · exact jr_upl (jr_cl (v := some (.int (-1))) (by decide +kernel)) (by omega)
        refine Eq.trans (jr_s (pc2 := 21) (lv2 := [(0, .ref 9), (1, .int a1)]) (st2 := []) jF_27_20 rfl rfl) ?_
        refine Eq.trans (jr_s (pc2 := 22) (lv2 := [(0, .ref 9), (1, .int a1)]) (st2 := [.int 0]) jF_27_21 rfl rfl) ?_
        exact jr_ri jF_27_22 rfl
      · refine Eq.trans (jr_s (pc2 := 1) (lv2 := [(0, .ref 117), (1, .int a1)]) (st2 := [.int a1]) jF_213_0 rfl rfl) ?_
        refine Eq.trans (jr_if0 jF_213_1 (jk_lt_ge (show (0 : Int32).toInt ≤ (a1 : Int32).toInt by rw [show (0 : Int32).toInt = 0 from by decide]; omega))) ?_
        refine Eq.trans (jr_s (pc2 := 5) (lv2 := [(0, .ref 117), (1, .int a1)]) (st2 := [.int a1]) jF_213_4 rfl rfl) ?_
        refine Eq.trans (jr_s (pc2 := 6) (lv2 := [(0, .ref 117), (1, .int a1)]) (st2 := [.ref 117, .int a1]) jF_213_5 rfl rfl) ?_
        refine Eq.trans (jr_gf (v := .int 0) jF_213_6 (by decide +kernel)) ?_
        refine Eq.trans (jr_ic0 jF_213_9 (jk_le_gt (show (0 : Int32).toInt < (a1 : Int32).toInt by rw [show (0 : Int32).toInt = 0 from by decide]; omega))) ?_
        refine Eq.trans (jr_s (pc2 := 13) (lv2 := [(0, .ref 117), (1, .int a1)]) (st2 := [.ref 117]) jF_213_12 rfl rfl) ?_
        refine Eq.trans (jr_gf (v := .ref 119) jF_213_13 (by decide +kernel)) ?_
        refine Eq.trans (jr_s (pc2 := 17) (lv2 := [(0, .ref 117), (1, .int a1)]) (st2 := [.int 0, .ref 119]) jF_213_16 rfl rfl) ?_
        refine Eq.trans (jr_s (pc2 := 18) (lv2 := [(0, .ref 117), (1, .int a1)]) (st2 := [.int 0, .ref 119, .int 0, .ref 119]) jF_213_17 rfl rfl) ?_
        refine Eq.trans (jr_ldi (v := .int 0) jF_213_18 (by decide +kernel)) ?_
        refine Eq.trans (jr_s (pc2 := 20) (lv2 := [(0, .ref 117), (1, .int a1)]) (st2 := [.int 1, .int 0, .int 0, .ref 119]) jF_213_19 rfl rfl) ?_
        refine Eq.trans (jr_s (pc2 := 21) (lv2 := [(0, .ref 117), (1, .int a1)]) (st2 := [.int 1, .int 0, .ref 119]) jF_213_20 rfl rfl) ?_
        refine Eq.trans (jr_sti (q := 0) jF_213_21 (by decide +kernel) (by decide +kernel)) ?_
        refine Eq.trans (jr_s (pc2 := 23) (lv2 := [(0, .ref 117), (1, .int a1)]) (st2 := [.int 0]) jF_213_22 rfl rfl) ?_
        exact jr_ri jF_213_23 rfl
