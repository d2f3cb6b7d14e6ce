set_option maxHeartbeats 8000000 in
set_option maxRecDepth 100000 in
theorem pm_price (a1 : Int32) : PM 113 284 [.int a1] := by
  have ub_a1 := Int32.toInt_lt a1
  have lb_a1 := Int32.le_toInt a1
  rcases j_ilt a1.toInt 0 with h_a1_0 | h_a1_0
  · refine ⟨60000, 60000, (-1), jh2, jh2, ?_, ?_, by decide +kernel⟩
    · refine Eq.trans (jr_s (pc2 := 1) (lv2 := [(0, .ref 9), (1, .int a1)]) (st2 := [.int a1]) jF_113_0 rfl rfl) ?_
      refine Eq.trans (jr_if1 jF_113_1 (jk_lt_lt (show (a1 : Int32).toInt < (0 : Int32).toInt by rw [show (0 : Int32).toInt = 0 from by decide]; omega))) ?_
      refine Eq.trans (jr_s (pc2 := 38) (lv2 := [(0, .ref 9), (1, .int a1)]) (st2 := [.int (-1)]) jF_113_37 rfl rfl) ?_
      exact jr_ri jF_113_38 rfl
    · refine Eq.trans (jr_s (pc2 := 1) (lv2 := [(0, .ref 117), (1, .int a1)]) (st2 := [.int a1]) jF_284_0 rfl rfl) ?_
      refine Eq.trans (jr_s (pc2 := 2) (lv2 := [(0, .ref 117), (1, .int a1)]) (st2 := [.long (Int32.toInt64 a1)]) jF_284_1 rfl rfl) ?_
      refine Eq.trans (jr_s (pc2 := 3) (lv2 := [(0, .ref 117), (1, .int a1)]) (st2 := [.long 0, .long (Int32.toInt64 a1)]) jF_284_2 rfl rfl) ?_
      refine Eq.trans (jr_s (pc2 := 4) (lv2 := [(0, .ref 117), (1, .int a1)]) (st2 := [.ref 117, .long 0, .long (Int32.toInt64 a1)]) jF_284_3 rfl rfl) ?_
      refine Eq.trans (jr_gf (v := .ref 148) jF_284_4 (by decide +kernel)) ?_
      refine Eq.trans (jr_s (pc2 := 8) (lv2 := [(0, .ref 117), (1, .int a1)]) (st2 := [.int 0, .ref 148, .long 0, .long (Int32.toInt64 a1)]) jF_284_7 rfl rfl) ?_
      refine Eq.trans (jr_ldi (v := .int 0) jF_284_8 (by decide +kernel)) ?_
      refine Eq.trans (jr_s (pc2 := 10) (lv2 := [(0, .ref 117), (1, .int a1)]) (st2 := [.int 1, .int 0, .long 0, .long (Int32.toInt64 a1)]) jF_284_9 rfl rfl) ?_
      refine Eq.trans (jr_s (pc2 := 11) (lv2 := [(0, .ref 117), (1, .int a1)]) (st2 := [.int (-1), .long 0, .long (Int32.toInt64 a1)]) jF_284_10 rfl rfl) ?_
      refine Eq.trans (jr_s (pc2 := 12) (lv2 := [(0, .ref 117), (1, .int a1)]) (st2 := [.long (-1), .long 0, .long (Int32.toInt64 a1)]) jF_284_11 rfl rfl) ?_
      refine Eq.trans (jr_cS (as := [.long (Int32.toInt64 a1), .long 0, .long (-1)]) (rest := []) (v := some (.int 0)) (hp2 := jh2) (fr2 := 499) (lo2 := 19975) jF_284_12 rfl (show j_cnd 500 20000 499 19975 6 _ _ = true from rfl) ?_) ?_
      · refine Eq.trans (jr_s (pc2 := 1) (lv2 := [(0, .long (Int32.toInt64 a1)), (2, .long 0), (4, .long (-1))]) (st2 := [.long (Int32.toInt64 a1)]) jF_232_0 rfl rfl) ?_
        refine Eq.trans (jr_s (pc2 := 2) (lv2 := [(0, .long (Int32.toInt64 a1)), (2, .long 0), (4, .long (-1))]) (st2 := [.long 0, .long (Int32.toInt64 a1)]) jF_232_1 rfl rfl) ?_
        refine Eq.trans (jr_s (pc2 := 3) (lv2 := [(0, .long (Int32.toInt64 a1)), (2, .long 0), (4, .long (-1))]) (st2 := [.int (lg_cmp (Int32.toInt64 a1) 0)]) jF_232_2 rfl rfl) ?_
        refine Eq.trans (jr_if1 jF_232_3 (jkl_lt_lt (show ((Int32.toInt64 a1) : Int64).toInt < (0 : Int64).toInt by rw [Int32.toInt_toInt64, show (0 : Int64).toInt = 0 from by decide]; omega))) ?_
        refine Eq.trans (jr_s (pc2 := 18) (lv2 := [(0, .long (Int32.toInt64 a1)), (2, .long 0), (4, .long (-1))]) (st2 := [.int 0]) jF_232_17 rfl rfl) ?_
        exact jr_ri jF_232_18 rfl
      refine Eq.trans (jr_if0 jF_284_15 (by decide +kernel)) ?_
      refine Eq.trans (jr_s (pc2 := 19) (lv2 := [(0, .ref 117), (1, .int a1)]) (st2 := [.int (-1)]) jF_284_18 rfl rfl) ?_
      exact jr_ri jF_284_19 rfl
  · refine ⟨60000, 60000, (-1), jh2, jh2, ?_, ?_, by decide +kernel⟩
    · refine Eq.trans (jr_s (pc2 := 1) (lv2 := [(0, .ref 9), (1, .int a1)]) (st2 := [.int a1]) jF_113_0 rfl rfl) ?_
      refine Eq.trans (jr_if0 jF_113_1 (jk_lt_ge (show (0 : Int32).toInt ≤ (a1 : Int32).toInt by rw [show (0 : Int32).toInt = 0 from by decide]; omega))) ?_
      refine Eq.trans (jr_s (pc2 := 5) (lv2 := [(0, .ref 9), (1, .int a1)]) (st2 := [.int a1]) jF_113_4 rfl rfl) ?_
      refine Eq.trans (jr_s (pc2 := 6) (lv2 := [(0, .ref 9), (1, .int a1)]) (st2 := [.ref 9, .int a1]) jF_113_5 rfl rfl) ?_
      refine Eq.trans (jr_gf (v := .ref 70) jF_113_6 (by decide +kernel)) ?_
      refine Eq.trans (jr_gf (v := .int 0) jF_113_9 (by decide +kernel)) ?_
      refine Eq.trans (jr_ic1 jF_113_12 (jk_ge_ge (show (0 : Int32).toInt ≤ (a1 : Int32).toInt by rw [show (0 : Int32).toInt = 0 from by decide]; omega))) ?_
      refine Eq.trans (jr_s (pc2 := 38) (lv2 := [(0, .ref 9), (1, .int a1)]) (st2 := [.int (-1)]) jF_113_37 rfl rfl) ?_
      exact jr_ri jF_113_38 rfl
    · refine Eq.trans (jr_s (pc2 := 1) (lv2 := [(0, .ref 117), (1, .int a1)]) (st2 := [.int a1]) jF_284_0 rfl rfl) ?_
      refine Eq.trans (jr_s (pc2 := 2) (lv2 := [(0, .ref 117), (1, .int a1)]) (st2 := [.long (Int32.toInt64 a1)]) jF_284_1 rfl rfl) ?_
      refine Eq.trans (jr_s (pc2 := 3) (lv2 := [(0, .ref 117), (1, .int a1)]) (st2 := [.long 0, .long (Int32.toInt64 a1)]) jF_284_2 rfl rfl) ?_
      refine Eq.trans (jr_s (pc2 := 4) (lv2 := [(0, .ref 117), (1, .int a1)]) (st2 := [.ref 117, .long 0, .long (Int32.toInt64 a1)]) jF_284_3 rfl rfl) ?_
      refine Eq.trans (jr_gf (v := .ref 148) jF_284_4 (by decide +kernel)) ?_
      refine Eq.trans (jr_s (pc2 := 8) (lv2 := [(0, .ref 117), (1, .int a1)]) (st2 := [.int 0, .ref 148, .long 0, .long (Int32.toInt64 a1)]) jF_284_7 rfl rfl) ?_
      refine Eq.trans (jr_ldi (v := .int 0) jF_284_8 (by decide +kernel)) ?_
      refine Eq.trans (jr_s (pc2 := 10) (lv2 := [(0, .ref 117), (1, .int a1)]) (st2 := [.int 1, .int 0, .long 0, .long (Int32.toInt64 a1)]) jF_284_9 rfl rfl) ?_
      refine Eq.trans (jr_s (pc2 := 11) (lv2 := [(0, .ref 117), (1, .int a1)]) (st2 := [.int (-1), .long 0, .long (Int32.toInt64 a1)]) jF_284_10 rfl rfl) ?_
      refine Eq.trans (jr_s (pc2 := 12) (lv2 := [(0, .ref 117), (1, .int a1)]) (st2 := [.long (-1), .long 0, .long (Int32.toInt64 a1)]) jF_284_11 rfl rfl) ?_
      refine Eq.trans (jr_cS (as := [.long (Int32.toInt64 a1), .long 0, .long (-1)]) (rest := []) (v := some (.int 0)) (hp2 := jh2) (fr2 := 499) (lo2 := 19975) jF_284_12 rfl (show j_cnd 500 20000 499 19975 6 _ _ = true from rfl) ?_) ?_
      · refine Eq.trans (jr_s (pc2 := 1) (lv2 := [(0, .long (Int32.toInt64 a1)), (2, .long 0), (4, .long (-1))]) (st2 := [.long (Int32.toInt64 a1)]) jF_232_0 rfl rfl) ?_
        refine Eq.trans (jr_s (pc2 := 2) (lv2 := [(0, .long (Int32.toInt64 a1)), (2, .long 0), (4, .long (-1))]) (st2 := [.long 0, .long (Int32.toInt64 a1)]) jF_232_1 rfl rfl) ?_
        refine Eq.trans (jr_s (pc2 := 3) (lv2 := [(0, .long (Int32.toInt64 a1)), (2, .long 0), (4, .long (-1))]) (st2 := [.int (lg_cmp (Int32.toInt64 a1) 0)]) jF_232_2 rfl rfl) ?_
        refine Eq.trans (jr_if0 jF_232_3 (jkl_lt_ge (show (0 : Int64).toInt ≤ ((Int32.toInt64 a1) : Int64).toInt by rw [Int32.toInt_toInt64, show (0 : Int64).toInt = 0 from by decide]; omega))) ?_
        refine Eq.trans (jr_s (pc2 := 7) (lv2 := [(0, .long (Int32.toInt64 a1)), (2, .long 0), (4, .long (-1))]) (st2 := [.long (Int32.toInt64 a1)]) jF_232_6 rfl rfl) ?_
        refine Eq.trans (jr_s (pc2 := 9) (lv2 := [(0, .long (Int32.toInt64 a1)), (2, .long 0), (4, .long (-1))]) (st2 := [.long (-1), .long (Int32.toInt64 a1)]) jF_232_7 rfl rfl) ?_
        refine Eq.trans (jr_s (pc2 := 10) (lv2 := [(0, .long (Int32.toInt64 a1)), (2, .long 0), (4, .long (-1))]) (st2 := [.int (lg_cmp (Int32.toInt64 a1) (-1))]) jF_232_9 rfl rfl) ?_
        refine Eq.trans (jr_if1 jF_232_10 (jkl_gt_gt (show ((-1) : Int64).toInt < ((Int32.toInt64 a1) : Int64).toInt by rw [Int32.toInt_toInt64, show ((-1) : Int64).toInt = (-1) from by decide]; omega))) ?_
        refine Eq.trans (jr_s (pc2 := 18) (lv2 := [(0, .long (Int32.toInt64 a1)), (2, .long 0), (4, .long (-1))]) (st2 := [.int 0]) jF_232_17 rfl rfl) ?_
        exact jr_ri jF_232_18 rfl
      refine Eq.trans (jr_if0 jF_284_15 (by decide +kernel)) ?_
      refine Eq.trans (jr_s (pc2 := 19) (lv2 := [(0, .ref 117), (1, .int a1)]) (st2 := [.int (-1)]) jF_284_18 rfl rfl) ?_
      exact jr_ri jF_284_19 rfl
