set_option maxHeartbeats 8000000 in
set_option maxRecDepth 100000 in
theorem pm_octet (a1 : Int32) : PM 205 356 [.int a1] := by
  have ub_a1 := Int32.toInt_lt a1
  have lb_a1 := Int32.le_toInt a1
  rcases j_ilt a1.toInt 0 with h_a1_0 | h_a1_0
  · refine ⟨60000, 60000, (-1), jh2, jh2, ?_, ?_, by decide +kernel⟩
    · refine Eq.trans (jr_s (pc2 := 1) (lv2 := [(0, .ref 9), (1, .int a1)]) (st2 := [.int a1]) jF_205_0 rfl rfl) ?_
      refine Eq.trans (jr_if1 jF_205_1 (jk_lt_lt (show (a1 : Int32).toInt < (0 : Int32).toInt by rw [show (0 : Int32).toInt = 0 from by decide]; omega))) ?_
      refine Eq.trans (jr_s (pc2 := 28) (lv2 := [(0, .ref 9), (1, .int a1)]) (st2 := [.int (-1)]) jF_205_27 rfl rfl) ?_
      exact jr_ri jF_205_28 rfl
    · refine Eq.trans (jr_s (pc2 := 1) (lv2 := [(0, .ref 117), (1, .int a1)]) (st2 := [.int a1]) jF_356_0 rfl rfl) ?_
      refine Eq.trans (jr_if1 jF_356_1 (jk_lt_lt (show (a1 : Int32).toInt < (0 : Int32).toInt by rw [show (0 : Int32).toInt = 0 from by decide]; omega))) ?_
      refine Eq.trans (jr_s (pc2 := 22) (lv2 := [(0, .ref 117), (1, .int a1)]) (st2 := [.int (-1)]) jF_356_21 rfl rfl) ?_
      exact jr_ri jF_356_22 rfl
  · refine ⟨60000, 60000, (-1), jh2, jh2, ?_, ?_, by decide +kernel⟩
    · refine Eq.trans (jr_s (pc2 := 1) (lv2 := [(0, .ref 9), (1, .int a1)]) (st2 := [.int a1]) jF_205_0 rfl rfl) ?_
      refine Eq.trans (jr_if0 jF_205_1 (jk_lt_ge (show (0 : Int32).toInt ≤ (a1 : Int32).toInt by rw [show (0 : Int32).toInt = 0 from by decide]; omega))) ?_
      refine Eq.trans (jr_s (pc2 := 5) (lv2 := [(0, .ref 9), (1, .int a1)]) (st2 := [.int a1]) jF_205_4 rfl rfl) ?_
      refine Eq.trans (jr_s (pc2 := 6) (lv2 := [(0, .ref 9), (1, .int a1)]) (st2 := [.ref 9, .int a1]) jF_205_5 rfl rfl) ?_
      refine Eq.trans (jr_gf (v := .ref 114) jF_205_6 (by decide +kernel)) ?_
      refine Eq.trans (jr_gf (v := .int 0) jF_205_9 (by decide +kernel)) ?_
      refine Eq.trans (jr_ic1 jF_205_12 (jk_ge_ge (show (0 : Int32).toInt ≤ (a1 : Int32).toInt by rw [show (0 : Int32).toInt = 0 from by decide]; omega))) ?_
      refine Eq.trans (jr_s (pc2 := 28) (lv2 := [(0, .ref 9), (1, .int a1)]) (st2 := [.int (-1)]) jF_205_27 rfl rfl) ?_
      exact jr_ri jF_205_28 rfl
    · refine Eq.trans (jr_s (pc2 := 1) (lv2 := [(0, .ref 117), (1, .int a1)]) (st2 := [.int a1]) jF_356_0 rfl rfl) ?_
      refine Eq.trans (jr_if0 jF_356_1 (jk_lt_ge (show (0 : Int32).toInt ≤ (a1 : Int32).toInt by rw [show (0 : Int32).toInt = 0 from by decide]; omega))) ?_
      refine Eq.trans (jr_s (pc2 := 5) (lv2 := [(0, .ref 117), (1, .int a1)]) (st2 := [.int a1]) jF_356_4 rfl rfl) ?_
      refine Eq.trans (jr_s (pc2 := 6) (lv2 := [(0, .ref 117), (1, .int a1)]) (st2 := [.ref 117, .int a1]) jF_356_5 rfl rfl) ?_
      refine Eq.trans (jr_gf (v := .int 0) jF_356_6 (by decide +kernel)) ?_
      refine Eq.trans (jr_ic1 jF_356_9 (jk_ge_ge (show (0 : Int32).toInt ≤ (a1 : Int32).toInt by rw [show (0 : Int32).toInt = 0 from by decide]; omega))) ?_
      refine Eq.trans (jr_s (pc2 := 22) (lv2 := [(0, .ref 117), (1, .int a1)]) (st2 := [.int (-1)]) jF_356_21 rfl rfl) ?_
      exact jr_ri jF_356_22 rfl
