set_option maxHeartbeats 8000000 in
set_option maxRecDepth 100000 in
theorem pm_changes (a1 : Int32) : PM 122 293 [.int a1] := by
  have ub_a1 := Int32.toInt_lt a1
  have lb_a1 := Int32.le_toInt a1
  rcases j_ilt a1.toInt 0 with h_a1_0 | h_a1_0
  · refine ⟨60000, 60000, (-1), jh2, jh2, ?_, ?_, by decide +kernel⟩
    · refine Eq.trans (jr_s (pc2 := 1) (lv2 := [(0, .ref 9), (1, .int a1)]) (st2 := [.int a1]) jF_122_0 rfl rfl) ?_
      refine Eq.trans (jr_ts jF_122_1 (Or.inl (by omega)) (tgt := 52) rfl) ?_
      refine Eq.trans (jr_s (pc2 := 53) (lv2 := [(0, .ref 9), (1, .int a1)]) (st2 := [.int (-1)]) jF_122_52 rfl rfl) ?_
      exact jr_ri jF_122_53 rfl
    · refine Eq.trans (jr_s (pc2 := 1) (lv2 := [(0, .ref 117), (1, .int a1)]) (st2 := [.int a1]) jF_293_0 rfl rfl) ?_
      refine Eq.trans (jr_s (pc2 := 2) (lv2 := [(0, .ref 117), (1, .int a1)]) (st2 := [.long (Int32.toInt64 a1)]) jF_293_1 rfl rfl) ?_
      refine Eq.trans (jr_s (pc2 := 3) (lv2 := [(0, .ref 117), (1, .int a1)]) (st2 := [.long 0, .long (Int32.toInt64 a1)]) jF_293_2 rfl rfl) ?_
      refine Eq.trans (jr_s (pc2 := 6) (lv2 := [(0, .ref 117), (1, .int a1)]) (st2 := [.long 2, .long 0, .long (Int32.toInt64 a1)]) jF_293_3 rfl rfl) ?_
      refine Eq.trans (jr_cS (as := [.long (Int32.toInt64 a1), .long 0, .long 2]) (rest := []) (v := some (.int 0)) (hp2 := jh2) (fr2 := 499) (lo2 := 19975) jF_293_6 rfl (show j_cnd 500 20000 499 19975 6 _ _ = true from rfl) ?_) ?_
      · refine Eq.trans (jr_s (pc2 := 1) (lv2 := [(0, .long (Int32.toInt64 a1)), (2, .long 0), (4, .long 2)]) (st2 := [.long (Int32.toInt64 a1)]) jF_232_0 rfl rfl) ?_
        refine Eq.trans (jr_s (pc2 := 2) (lv2 := [(0, .long (Int32.toInt64 a1)), (2, .long 0), (4, .long 2)]) (st2 := [.long 0, .long (Int32.toInt64 a1)]) jF_232_1 rfl rfl) ?_
        refine Eq.trans (jr_s (pc2 := 3) (lv2 := [(0, .long (Int32.toInt64 a1)), (2, .long 0), (4, .long 2)]) (st2 := [.int (lg_cmp (Int32.toInt64 a1) 0)]) jF_232_2 rfl rfl) ?_
        refine Eq.trans (jr_if1 jF_232_3 (jkl_lt_lt (show ((Int32.toInt64 a1) : Int64).toInt < (0 : Int64).toInt by rw [Int32.toInt_toInt64, show (0 : Int64).toInt = 0 from by decide]; omega))) ?_
        refine Eq.trans (jr_s (pc2 := 18) (lv2 := [(0, .long (Int32.toInt64 a1)), (2, .long 0), (4, .long 2)]) (st2 := [.int 0]) jF_232_17 rfl rfl) ?_
        exact jr_ri jF_232_18 rfl
      refine Eq.trans (jr_if0 jF_293_9 (by decide +kernel)) ?_
      refine Eq.trans (jr_s (pc2 := 13) (lv2 := [(0, .ref 117), (1, .int a1)]) (st2 := [.int (-1)]) jF_293_12 rfl rfl) ?_
      exact jr_ri jF_293_13 rfl
  · rcases j_ilt a1.toInt 1 with h_a1_1 | h_a1_1
    · obtain rfl : a1 = 0 := Int32.toInt_inj.mp (by rw [show (0 : Int32).toInt = 0 from by decide]; omega)
      exact jpair_ok (n1 := 100000) (n2 := 100000) (by decide +kernel)
    · rcases j_ilt a1.toInt 2 with h_a1_2 | h_a1_2
      · obtain rfl : a1 = 1 := Int32.toInt_inj.mp (by rw [show (1 : Int32).toInt = 1 from by decide]; omega)
        exact jpair_ok (n1 := 100000) (n2 := 100000) (by decide +kernel)
      · rcases j_ilt a1.toInt 3 with h_a1_3 | h_a1_3
        · obtain rfl : a1 = 2 := Int32.toInt_inj.mp (by rw [show (2 : Int32).toInt = 2 from by decide]; omega)
          exact jpair_ok (n1 := 100000) (n2 := 100000) (by decide +kernel)
        · refine ⟨60000, 60000, (-1), jh2, jh2, ?_, ?_, by decide +kernel⟩
          · refine Eq.trans (jr_s (pc2 := 1) (lv2 := [(0, .ref 9), (1, .int a1)]) (st2 := [.int a1]) jF_122_0 rfl rfl) ?_
            refine Eq.trans (jr_ts jF_122_1 (Or.inr (by omega)) (tgt := 52) rfl) ?_
            refine Eq.trans (jr_s (pc2 := 53) (lv2 := [(0, .ref 9), (1, .int a1)]) (st2 := [.int (-1)]) jF_122_52 rfl rfl) ?_
            exact jr_ri jF_122_53 rfl
          · refine Eq.trans (jr_s (pc2 := 1) (lv2 := [(0, .ref 117), (1, .int a1)]) (st2 := [.int a1]) jF_293_0 rfl rfl) ?_
            refine Eq.trans (jr_s (pc2 := 2) (lv2 := [(0, .ref 117), (1, .int a1)]) (st2 := [.long (Int32.toInt64 a1)]) jF_293_1 rfl rfl) ?_
            refine Eq.trans (jr_s (pc2 := 3) (lv2 := [(0, .ref 117), (1, .int a1)]) (st2 := [.long 0, .long (Int32.toInt64 a1)]) jF_293_2 rfl rfl) ?_
            refine Eq.trans (jr_s (pc2 := 6) (lv2 := [(0, .ref 117), (1, .int a1)]) (st2 := [.long 2, .long 0, .long (Int32.toInt64 a1)]) jF_293_3 rfl rfl) ?_
            refine Eq.trans (jr_cS (as := [.long (Int32.toInt64 a1), .long 0, .long 2]) (rest := []) (v := some (.int 0)) (hp2 := jh2) (fr2 := 499) (lo2 := 19975) jF_293_6 rfl (show j_cnd 500 20000 499 19975 6 _ _ = true from rfl) ?_) ?_
            · refine Eq.trans (jr_s (pc2 := 1) (lv2 := [(0, .long (Int32.toInt64 a1)), (2, .long 0), (4, .long 2)]) (st2 := [.long (Int32.toInt64 a1)]) jF_232_0 rfl rfl) ?_
              refine Eq.trans (jr_s (pc2 := 2) (lv2 := [(0, .long (Int32.toInt64 a1)), (2, .long 0), (4, .long 2)]) (st2 := [.long 0, .long (Int32.toInt64 a1)]) jF_232_1 rfl rfl) ?_
              refine Eq.trans (jr_s (pc2 := 3) (lv2 := [(0, .long (Int32.toInt64 a1)), (2, .long 0), (4, .long 2)]) (st2 := [.int (lg_cmp (Int32.toInt64 a1) 0)]) jF_232_2 rfl rfl) ?_
              refine Eq.trans (jr_if0 jF_232_3 (jkl_lt_ge (show (0 : Int64).toInt ≤ ((Int32.toInt64 a1) : Int64).toInt by rw [Int32.toInt_toInt64, show (0 : Int64).toInt = 0 from by decide]; omega))) ?_
              refine Eq.trans (jr_s (pc2 := 7) (lv2 := [(0, .long (Int32.toInt64 a1)), (2, .long 0), (4, .long 2)]) (st2 := [.long (Int32.toInt64 a1)]) jF_232_6 rfl rfl) ?_
              refine Eq.trans (jr_s (pc2 := 9) (lv2 := [(0, .long (Int32.toInt64 a1)), (2, .long 0), (4, .long 2)]) (st2 := [.long 2, .long (Int32.toInt64 a1)]) jF_232_7 rfl rfl) ?_
              refine Eq.trans (jr_s (pc2 := 10) (lv2 := [(0, .long (Int32.toInt64 a1)), (2, .long 0), (4, .long 2)]) (st2 := [.int (lg_cmp (Int32.toInt64 a1) 2)]) jF_232_9 rfl rfl) ?_
              refine Eq.trans (jr_if1 jF_232_10 (jkl_gt_gt (show (2 : Int64).toInt < ((Int32.toInt64 a1) : Int64).toInt by rw [Int32.toInt_toInt64, show (2 : Int64).toInt = 2 from by decide]; omega))) ?_
              refine Eq.trans (jr_s (pc2 := 18) (lv2 := [(0, .long (Int32.toInt64 a1)), (2, .long 0), (4, .long 2)]) (st2 := [.int 0]) jF_232_17 rfl rfl) ?_
              exact jr_ri jF_232_18 rfl
            refine Eq.trans (jr_if0 jF_293_9 (by decide +kernel)) ?_
            refine Eq.trans (jr_s (pc2 := 13) (lv2 := [(0, .ref 117), (1, .int a1)]) (st2 := [.int (-1)]) jF_293_12 rfl rfl) ?_
            exact jr_ri jF_293_13 rfl
