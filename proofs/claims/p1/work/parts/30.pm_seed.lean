set_option maxHeartbeats 8000000 in
set_option maxRecDepth 100000 in
theorem pm_seed (a1 : Int32) : PM 168 322 [.int a1] := by
  have ub_a1 := Int32.toInt_lt a1
  have lb_a1 := Int32.le_toInt a1
  rcases j_ilt a1.toInt 0 with h_a1_0 | h_a1_0
  · refine ⟨60000, 60000, 0, (j_hp (JR 25 25 0 (lv_args 0 [.ref 9, .int 4]) [] jh2 0 0 499 19979)), (j_stf (j_hp (JR 25 25 0 (lv_args 0 [.ref 9, .int 4]) [] jh2 0 0 499 19979)) 119 4 (.int 1)), ?_, ?_, by decide +kernel⟩
    · refine Eq.trans (jr_s (pc2 := 1) (lv2 := [(0, .ref 9), (1, .int a1)]) (st2 := [.int a1]) jF_168_0 rfl rfl) ?_
      refine Eq.trans (jr_if0 jF_168_1 (jk_ge_lt (show (a1 : Int32).toInt < (0 : Int32).toInt by rw [show (0 : Int32).toInt = 0 from by decide]; omega))) ?_
      refine Eq.trans (jr_s (pc2 := 5) (lv2 := [(0, .ref 9), (1, .int a1)]) (st2 := [.ref 9]) jF_168_4 rfl rfl) ?_
      refine Eq.trans (jr_s (pc2 := 6) (lv2 := [(0, .ref 9), (1, .int a1)]) (st2 := [.int 4, .ref 9]) jF_168_5 rfl rfl) ?_
      refine Eq.trans (jr_cV (a := 9) (as := [.int 4]) (rest := []) (v := some (.int (-1))) (hp2 := (j_hp (JR 25 25 0 (lv_args 0 [.ref 9, .int 4]) [] jh2 0 0 499 19979))) (fr2 := 499) (lo2 := 19979) jF_168_6 (by decide +kernel) rfl (show j_cnd 500 20000 499 19979 2 _ _ = true from rfl) ?_) ?_
      · exact jr_upl (jr_cl (v := some (.int (-1))) (by decide +kernel)) (by omega)
      refine Eq.trans (jr_s (pc2 := 10) (lv2 := [(0, .ref 9), (1, .int a1)]) (st2 := []) jF_168_9 rfl rfl) ?_
      refine Eq.trans (jr_s (pc2 := 11) (lv2 := [(0, .ref 9), (1, .int a1)]) (st2 := [.int 0]) jF_168_10 rfl rfl) ?_
      exact jr_ri jF_168_11 rfl
    · refine Eq.trans (jr_s (pc2 := 1) (lv2 := [(0, .ref 117), (1, .int a1)]) (st2 := [.int a1]) jF_322_0 rfl rfl) ?_
      refine Eq.trans (jr_if0 jF_322_1 (jk_ge_lt (show (a1 : Int32).toInt < (0 : Int32).toInt by rw [show (0 : Int32).toInt = 0 from by decide]; omega))) ?_
      refine Eq.trans (jr_s (pc2 := 5) (lv2 := [(0, .ref 117), (1, .int a1)]) (st2 := [.ref 117]) jF_322_4 rfl rfl) ?_
      refine Eq.trans (jr_gf (v := .ref 119) jF_322_5 (by decide +kernel)) ?_
      refine Eq.trans (jr_s (pc2 := 9) (lv2 := [(0, .ref 117), (1, .int a1)]) (st2 := [.int 4, .ref 119]) jF_322_8 rfl rfl) ?_
      refine Eq.trans (jr_s (pc2 := 10) (lv2 := [(0, .ref 117), (1, .int a1)]) (st2 := [.int 4, .ref 119, .int 4, .ref 119]) jF_322_9 rfl rfl) ?_
      refine Eq.trans (jr_ldi (v := .int 0) jF_322_10 (by decide +kernel)) ?_
      refine Eq.trans (jr_s (pc2 := 12) (lv2 := [(0, .ref 117), (1, .int a1)]) (st2 := [.int 1, .int 0, .int 4, .ref 119]) jF_322_11 rfl rfl) ?_
      refine Eq.trans (jr_s (pc2 := 13) (lv2 := [(0, .ref 117), (1, .int a1)]) (st2 := [.int 1, .int 4, .ref 119]) jF_322_12 rfl rfl) ?_
      refine Eq.trans (jr_sti (q := 4) jF_322_13 (by decide +kernel) (by decide +kernel)) ?_
      refine Eq.trans (jr_s (pc2 := 15) (lv2 := [(0, .ref 117), (1, .int a1)]) (st2 := [.int 0]) jF_322_14 rfl rfl) ?_
      exact jr_ri jF_322_15 rfl
  · refine ⟨60000, 60000, 1, (j_stf jh2 9 15 (.long (Int32.toInt64 a1))), (j_stf (j_stf jh2 9 15 (.long (Int32.toInt64 a1))) 117 66 (.long (Int32.toInt64 a1))), ?_, ?_, rfl⟩
    · refine Eq.trans (jr_s (pc2 := 1) (lv2 := [(0, .ref 9), (1, .int a1)]) (st2 := [.int a1]) jF_168_0 rfl rfl) ?_
      refine Eq.trans (jr_if1 jF_168_1 (jk_ge_ge (show (0 : Int32).toInt ≤ (a1 : Int32).toInt by rw [show (0 : Int32).toInt = 0 from by decide]; omega))) ?_
      refine Eq.trans (jr_s (pc2 := 13) (lv2 := [(0, .ref 9), (1, .int a1)]) (st2 := [.ref 9]) jF_168_12 rfl rfl) ?_
      refine Eq.trans (jr_s (pc2 := 14) (lv2 := [(0, .ref 9), (1, .int a1)]) (st2 := [.int a1, .ref 9]) jF_168_13 rfl rfl) ?_
      refine Eq.trans (jr_s (pc2 := 15) (lv2 := [(0, .ref 9), (1, .int a1)]) (st2 := [.long (Int32.toInt64 a1), .ref 9]) jF_168_14 rfl rfl) ?_
      refine Eq.trans (jr_pf jF_168_15 (by decide +kernel) rfl) ?_
      refine Eq.trans (jr_s (pc2 := 19) (lv2 := [(0, .ref 9), (1, .int a1)]) (st2 := [.int 1]) jF_168_18 rfl rfl) ?_
      exact jr_ri jF_168_19 rfl
    · refine Eq.trans (jr_s (pc2 := 1) (lv2 := [(0, .ref 117), (1, .int a1)]) (st2 := [.int a1]) jF_322_0 rfl rfl) ?_
      refine Eq.trans (jr_if1 jF_322_1 (jk_ge_ge (show (0 : Int32).toInt ≤ (a1 : Int32).toInt by rw [show (0 : Int32).toInt = 0 from by decide]; omega))) ?_
      refine Eq.trans (jr_s (pc2 := 17) (lv2 := [(0, .ref 117), (1, .int a1)]) (st2 := [.ref 117]) jF_322_16 rfl rfl) ?_
      refine Eq.trans (jr_s (pc2 := 18) (lv2 := [(0, .ref 117), (1, .int a1)]) (st2 := [.int a1, .ref 117]) jF_322_17 rfl rfl) ?_
      refine Eq.trans (jr_s (pc2 := 19) (lv2 := [(0, .ref 117), (1, .int a1)]) (st2 := [.long (Int32.toInt64 a1), .ref 117]) jF_322_18 rfl rfl) ?_
      refine Eq.trans (jr_pf jF_322_19 (rfl) rfl) ?_
      refine Eq.trans (jr_s (pc2 := 23) (lv2 := [(0, .ref 117), (1, .int a1)]) (st2 := [.int 1]) jF_322_22 rfl rfl) ?_
      exact jr_ri jF_322_23 rfl
