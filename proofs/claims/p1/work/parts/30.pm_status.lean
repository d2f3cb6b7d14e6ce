set_option maxHeartbeats 8000000 in
set_option maxRecDepth 100000 in
theorem pm_status (a1 : Int32) : PM 210 359 [.int a1] := by
  have ub_a1 := Int32.toInt_lt a1
  have lb_a1 := Int32.le_toInt a1
  rcases j_ilt a1.toInt 0 with h_a1_0 | h_a1_0
  · refine ⟨60000, 60000, (-1), jh2, jh2, ?_, ?_, by decide +kernel⟩
    · refine Eq.trans (jr_s (pc2 := 1) (lv2 := [(0, .ref 9), (1, .int a1)]) (st2 := [.int a1]) jF_210_0 rfl rfl) ?_
      refine Eq.trans (jr_if1 jF_210_1 (jk_lt_lt (show (a1 : Int32).toInt < (0 : Int32).toInt by rw [show (0 : Int32).toInt = 0 from by decide]; omega))) ?_
      refine Eq.trans (jr_s (pc2 := 23) (lv2 := [(0, .ref 9), (1, .int a1)]) (st2 := [.int (-1)]) jF_210_22 rfl rfl) ?_
      exact jr_ri jF_210_23 rfl
    · refine Eq.trans (jr_s (pc2 := 1) (lv2 := [(0, .ref 117), (1, .int a1)]) (st2 := [.int a1]) jF_359_0 rfl rfl) ?_
      refine Eq.trans (jr_s (pc2 := 2) (lv2 := [(0, .ref 117), (1, .int a1)]) (st2 := [.long (Int32.toInt64 a1)]) jF_359_1 rfl rfl) ?_
      refine Eq.trans (jr_s (pc2 := 3) (lv2 := [(0, .ref 117), (1, .int a1)]) (st2 := [.long 0, .long (Int32.toInt64 a1)]) jF_359_2 rfl rfl) ?_
      refine Eq.trans (jr_s (pc2 := 6) (lv2 := [(0, .ref 117), (1, .int a1)]) (st2 := [.long 5, .long 0, .long (Int32.toInt64 a1)]) jF_359_3 rfl rfl) ?_
      refine Eq.trans (jr_cS (as := [.long (Int32.toInt64 a1), .long 0, .long 5]) (rest := []) (v := some (.int 0)) (hp2 := jh2) (fr2 := 499) (lo2 := 19975) jF_359_6 rfl (show j_cnd 500 20000 499 19975 6 _ _ = true from rfl) ?_) ?_
      · refine Eq.trans (jr_s (pc2 := 1) (lv2 := [(0, .long (Int32.toInt64 a1)), (2, .long 0), (4, .long 5)]) (st2 := [.long (Int32.toInt64 a1)]) jF_232_0 rfl rfl) ?_
        refine Eq.trans (jr_s (pc2 := 2) (lv2 := [(0, .long (Int32.toInt64 a1)), (2, .long 0), (4, .long 5)]) (st2 := [.long 0, .long (Int32.toInt64 a1)]) jF_232_1 rfl rfl) ?_
        refine Eq.trans (jr_s (pc2 := 3) (lv2 := [(0, .long (Int32.toInt64 a1)), (2, .long 0), (4, .long 5)]) (st2 := [.int (lg_cmp (Int32.toInt64 a1) 0)]) jF_232_2 rfl rfl) ?_
        refine Eq.trans (jr_if1 jF_232_3 (jkl_lt_lt (show ((Int32.toInt64 a1) : Int64).toInt < (0 : Int64).toInt by rw [Int32.toInt_toInt64, show (0 : Int64).toInt = 0 from by decide]; omega))) ?_
        refine Eq.trans (jr_s (pc2 := 18) (lv2 := [(0, .long (Int32.toInt64 a1)), (2, .long 0), (4, .long 5)]) (st2 := [.int 0]) jF_232_17 rfl rfl) ?_
        exact jr_ri jF_232_18 rfl
      refine Eq.trans (jr_if1 jF_359_9 (by decide +kernel)) ?_
      refine Eq.trans (jr_s (pc2 := 22) (lv2 := [(0, .ref 117), (1, .int a1)]) (st2 := [.int (-1)]) jF_359_21 rfl rfl) ?_
      exact jr_ri jF_359_22 rfl
  · rcases j_ilt a1.toInt 6 with h_a1_6 | h_a1_6
    · rcases j_ilt a1.toInt 1 with h_a1_1 | h_a1_1
      · obtain rfl : a1 = 0 := Int32.toInt_inj.mp (by rw [show (0 : Int32).toInt = 0 from by decide]; omega)
        exact jpair_ok (n1 := 100000) (n2 := 100000) (by decide +kernel)
      · rcases j_ilt a1.toInt 2 with h_a1_2 | h_a1_2
        · obtain rfl : a1 = 1 := Int32.toInt_inj.mp (by rw [show (1 : Int32).toInt = 1 from by decide]; omega)
          exact jpair_ok (n1 := 100000) (n2 := 100000) (by decide +kernel)
        · rcases j_ilt a1.toInt 3 with h_a1_3 | h_a1_3
          · obtain rfl : a1 = 2 := Int32.toInt_inj.mp (by rw [show (2 : Int32).toInt = 2 from by decide]; omega)
            exact jpair_ok (n1 := 100000) (n2 := 100000) (by decide +kernel)
          · rcases j_ilt a1.toInt 4 with h_a1_4 | h_a1_4
            · obtain rfl : a1 = 3 := Int32.toInt_inj.mp (by rw [show (3 : Int32).toInt = 3 from by decide]; omega)
              exact jpair_ok (n1 := 100000) (n2 := 100000) (by decide +kernel)
            · rcases j_ilt a1.toInt 5 with h_a1_5 | h_a1_5
              · obtain rfl : a1 = 4 := Int32.toInt_inj.mp (by rw [show (4 : Int32).toInt = 4 from by decide]; omega)
                exact jpair_ok (n1 := 100000) (n2 := 100000) (by decide +kernel)
              · obtain rfl : a1 = 5 := Int32.toInt_inj.mp (by rw [show (5 : Int32).toInt = 5 from by decide]; omega)
                exact jpair_ok (n1 := 100000) (n2 := 100000) (by decide +kernel)
    · refine ⟨60000, 60000, (-1), jh2, jh2, ?_, ?_, by decide +kernel⟩
      · refine Eq.trans (jr_s (pc2 := 1) (lv2 := [(0, .ref 9), (1, .int a1)]) (st2 := [.int a1]) jF_210_0 rfl rfl) ?_
        refine Eq.trans (jr_if0 jF_210_1 (jk_lt_ge (show (0 : Int32).toInt ≤ (a1 : Int32).toInt by rw [show (0 : Int32).toInt = 0 from by decide]; omega))) ?_
        refine Eq.trans (jr_s (pc2 := 5) (lv2 := [(0, .ref 9), (1, .int a1)]) (st2 := [.int a1]) jF_210_4 rfl rfl) ?_
        refine Eq.trans (jr_s (pc2 := 6) (lv2 := [(0, .ref 9), (1, .int a1)]) (st2 := [.ref 9, .int a1]) jF_210_5 rfl rfl) ?_
        refine Eq.trans (jr_gf (v := .ref 116) jF_210_6 (by decide +kernel)) ?_
        refine Eq.trans (jr_al (v := 6) jF_210_9 (by decide +kernel)) ?_
        refine Eq.trans (jr_ic1 jF_210_10 (jk_ge_ge (show (6 : Int32).toInt ≤ (a1 : Int32).toInt by rw [show (6 : Int32).toInt = 6 from by decide]; omega))) ?_
        refine Eq.trans (jr_s (pc2 := 23) (lv2 := [(0, .ref 9), (1, .int a1)]) (st2 := [.int (-1)]) jF_210_22 rfl rfl) ?_
        exact jr_ri jF_210_23 rfl
      · refine Eq.trans (jr_s (pc2 := 1) (lv2 := [(0, .ref 117), (1, .int a1)]) (st2 := [.int a1]) jF_359_0 rfl rfl) ?_
        refine Eq.trans (jr_s (pc2 := 2) (lv2 := [(0, .ref 117), (1, .int a1)]) (st2 := [.long (Int32.toInt64 a1)]) jF_359_1 rfl rfl) ?_
        refine Eq.trans (jr_s (pc2 := 3) (lv2 := [(0, .ref 117), (1, .int a1)]) (st2 := [.long 0, .long (Int32.toInt64 a1)]) jF_359_2 rfl rfl) ?_
        refine Eq.trans (jr_s (pc2 := 6) (lv2 := [(0, .ref 117), (1, .int a1)]) (st2 := [.long 5, .long 0, .long (Int32.toInt64 a1)]) jF_359_3 rfl rfl) ?_
        refine Eq.trans (jr_cS (as := [.long (Int32.toInt64 a1), .long 0, .long 5]) (rest := []) (v := some (.int 0)) (hp2 := jh2) (fr2 := 499) (lo2 := 19975) jF_359_6 rfl (show j_cnd 500 20000 499 19975 6 _ _ = true from rfl) ?_) ?_
        · refine Eq.trans (jr_s (pc2 := 1) (lv2 := [(0, .long (Int32.toInt64 a1)), (2, .long 0), (4, .long 5)]) (st2 := [.long (Int32.toInt64 a1)]) jF_232_0 rfl rfl) ?_
          refine Eq.trans (jr_s (pc2 := 2) (lv2 := [(0, .long (Int32.toInt64 a1)), (2, .long 0), (4, .long 5)]) (st2 := [.long 0, .long (Int32.toInt64 a1)]) jF_232_1 rfl rfl) ?_
          refine Eq.trans (jr_s (pc2 := 3) (lv2 := [(0, .long (Int32.toInt64 a1)), (2, .long 0), (4, .long 5)]) (st2 := [.int (lg_cmp (Int32.toInt64 a1) 0)]) jF_232_2 rfl rfl) ?_
          refine Eq.trans (jr_if0 jF_232_3 (jkl_lt_ge (show (0 : Int64).toInt ≤ ((Int32.toInt64 a1) : Int64).toInt by rw [Int32.toInt_toInt64, show (0 : Int64).toInt = 0 from by decide]; omega))) ?_
          refine Eq.trans (jr_s (pc2 := 7) (lv2 := [(0, .long (Int32.toInt64 a1)), (2, .long 0), (4, .long 5)]) (st2 := [.long (Int32.toInt64 a1)]) jF_232_6 rfl rfl) ?_
          refine Eq.trans (jr_s (pc2 := 9) (lv2 := [(0, .long (Int32.toInt64 a1)), (2, .long 0), (4, .long 5)]) (st2 := [.long 5, .long (Int32.toInt64 a1)]) jF_232_7 rfl rfl) ?_
          refine Eq.trans (jr_s (pc2 := 10) (lv2 := [(0, .long (Int32.toInt64 a1)), (2, .long 0), (4, .long 5)]) (st2 := [.int (lg_cmp (Int32.toInt64 a1) 5)]) jF_232_9 rfl rfl) ?_
          refine Eq.trans (jr_if1 jF_232_10 (jkl_gt_gt (show (5 : Int64).toInt < ((Int32.toInt64 a1) : Int64).toInt by rw [Int32.toInt_toInt64, show (5 : Int64).toInt = 5 from by decide]; omega))) ?_
          refine Eq.trans (jr_s (pc2 := 18) (lv2 := [(0, .long (Int32.toInt64 a1)), (2, .long 0), (4, .long 5)]) (st2 := [.int 0]) jF_232_17 rfl rfl) ?_
          exact jr_ri jF_232_18 rfl
        refine Eq.trans (jr_if1 jF_359_9 (by decide +kernel)) ?_
        refine Eq.trans (jr_s (pc2 := 22) (lv2 := [(0, .ref 117), (1, .int a1)]) (st2 := [.int (-1)]) jF_359_21 rfl rfl) ?_
        exact jr_ri jF_359_22 rfl
