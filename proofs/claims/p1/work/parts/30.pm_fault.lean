set_option maxHeartbeats 8000000 in
set_option maxRecDepth 100000 in
theorem pm_fault (a1 : Int32) : PM 89 264 [.int a1] := by
  have ub_a1 := Int32.toInt_lt a1
  have lb_a1 := Int32.le_toInt a1
  rcases j_ilt a1.toInt 0 with h_a1_0 | h_a1_0
  · refine ⟨60000, 60000, (-1), jh2, jh2, ?_, ?_, by decide +kernel⟩
    · refine Eq.trans (jr_s (pc2 := 1) (lv2 := [(0, .ref 9), (1, .int a1)]) (st2 := [.int a1]) jF_89_0 rfl rfl) ?_
      refine Eq.trans (jr_if1 jF_89_1 (jk_ne_lt (show (a1 : Int32).toInt < (0 : Int32).toInt by rw [show (0 : Int32).toInt = 0 from by decide]; omega))) ?_
      refine Eq.trans (jr_s (pc2 := 13) (lv2 := [(0, .ref 9), (1, .int a1)]) (st2 := [.int a1]) jF_89_12 rfl rfl) ?_
      refine Eq.trans (jr_s (pc2 := 14) (lv2 := [(0, .ref 9), (1, .int a1)]) (st2 := [.int 1, .int a1]) jF_89_13 rfl rfl) ?_
      refine Eq.trans (jr_ic1 jF_89_14 (jk_ne_lt (show (a1 : Int32).toInt < (1 : Int32).toInt by rw [show (1 : Int32).toInt = 1 from by decide]; omega))) ?_
      refine Eq.trans (jr_s (pc2 := 28) (lv2 := [(0, .ref 9), (1, .int a1)]) (st2 := [.int (-1)]) jF_89_27 rfl rfl) ?_
      exact jr_ri jF_89_28 rfl
    · refine Eq.trans (jr_s (pc2 := 1) (lv2 := [(0, .ref 117), (1, .int a1)]) (st2 := [.int a1]) jF_264_0 rfl rfl) ?_
      refine Eq.trans (jr_if1 jF_264_1 (jk_ne_lt (show (a1 : Int32).toInt < (0 : Int32).toInt by rw [show (0 : Int32).toInt = 0 from by decide]; omega))) ?_
      refine Eq.trans (jr_s (pc2 := 12) (lv2 := [(0, .ref 117), (1, .int a1)]) (st2 := [.int a1]) jF_264_11 rfl rfl) ?_
      refine Eq.trans (jr_s (pc2 := 13) (lv2 := [(0, .ref 117), (1, .int a1)]) (st2 := [.int 1, .int a1]) jF_264_12 rfl rfl) ?_
      refine Eq.trans (jr_ic1 jF_264_13 (jk_ne_lt (show (a1 : Int32).toInt < (1 : Int32).toInt by rw [show (1 : Int32).toInt = 1 from by decide]; omega))) ?_
      refine Eq.trans (jr_s (pc2 := 24) (lv2 := [(0, .ref 117), (1, .int a1)]) (st2 := [.int (-1)]) jF_264_23 rfl rfl) ?_
      exact jr_ri jF_264_24 rfl
  · rcases j_ilt a1.toInt 1 with h_a1_1 | h_a1_1
    · obtain rfl : a1 = 0 := Int32.toInt_inj.mp (by rw [show (0 : Int32).toInt = 0 from by decide]; omega)
      exact jpair_ok (n1 := 100000) (n2 := 100000) (by decide +kernel)
    · rcases j_ilt a1.toInt 2 with h_a1_2 | h_a1_2
      · obtain rfl : a1 = 1 := Int32.toInt_inj.mp (by rw [show (1 : Int32).toInt = 1 from by decide]; omega)
        exact jpair_ok (n1 := 100000) (n2 := 100000) (by decide +kernel)
      · refine ⟨60000, 60000, (-1), jh2, jh2, ?_, ?_, by decide +kernel⟩
        · refine Eq.trans (jr_s (pc2 := 1) (lv2 := [(0, .ref 9), (1, .int a1)]) (st2 := [.int a1]) jF_89_0 rfl rfl) ?_
          refine Eq.trans (jr_if1 jF_89_1 (jk_ne_gt (show (0 : Int32).toInt < (a1 : Int32).toInt by rw [show (0 : Int32).toInt = 0 from by decide]; omega))) ?_
          refine Eq.trans (jr_s (pc2 := 13) (lv2 := [(0, .ref 9), (1, .int a1)]) (st2 := [.int a1]) jF_89_12 rfl rfl) ?_
          refine Eq.trans (jr_s (pc2 := 14) (lv2 := [(0, .ref 9), (1, .int a1)]) (st2 := [.int 1, .int a1]) jF_89_13 rfl rfl) ?_
          refine Eq.trans (jr_ic1 jF_89_14 (jk_ne_gt (show (1 : Int32).toInt < (a1 : Int32).toInt by rw [show (1 : Int32).toInt = 1 from by decide]; omega))) ?_
          refine Eq.trans (jr_s (pc2 := 28) (lv2 := [(0, .ref 9), (1, .int a1)]) (st2 := [.int (-1)]) jF_89_27 rfl rfl) ?_
          exact jr_ri jF_89_28 rfl
        · refine Eq.trans (jr_s (pc2 := 1) (lv2 := [(0, .ref 117), (1, .int a1)]) (st2 := [.int a1]) jF_264_0 rfl rfl) ?_
          refine Eq.trans (jr_if1 jF_264_1 (jk_ne_gt (show (0 : Int32).toInt < (a1 : Int32).toInt by rw [show (0 : Int32).toInt = 0 from by decide]; omega))) ?_
          refine Eq.trans (jr_s (pc2 := 12) (lv2 := [(0, .ref 117), (1, .int a1)]) (st2 := [.int a1]) jF_264_11 rfl rfl) ?_
          refine Eq.trans (jr_s (pc2 := 13) (lv2 := [(0, .ref 117), (1, .int a1)]) (st2 := [.int 1, .int a1]) jF_264_12 rfl rfl) ?_
          refine Eq.trans (jr_ic1 jF_264_13 (jk_ne_gt (show (1 : Int32).toInt < (a1 : Int32).toInt by rw [show (1 : Int32).toInt = 1 from by decide]; omega))) ?_
          refine Eq.trans (jr_s (pc2 := 24) (lv2 := [(0, .ref 117), (1, .int a1)]) (st2 := [.int (-1)]) jF_264_23 rfl rfl) ?_
          exact jr_ri jF_264_24 rfl
